section
/-! ===== BEGIN words of one list among another's, by their places ===== -/
theorem goodIn_r {big : List Cond} (ws : List Cond) (ps : List Nat) (hp : ws = ps.filterMap (fun i => big[i]?)) (h : ws.all goodWord = true) : GoodIn big ws := by
  intro w hw
  have h1 := List.all_eq_true.mp h w hw
  rw [hp] at hw
  obtain ⟨i, -, hi⟩ := List.mem_filterMap.mp hw
  have hm : w ∈ big := by first | exact List.mem_of_getElem? hi | exact List.getElem?_mem hi
  exact ⟨hm, good_of_word h1⟩
theorem goodIn_app {big a b : List Cond} (ha : GoodIn big a) (hb : GoodIn big b) : GoodIn big (a ++ b) := fun w h => (List.mem_append.mp h).elim (ha w) (hb w)
theorem goodIn_ca {big a b : List Cond} {c : Cond} (ha : GoodIn big (c :: a)) (hb : GoodIn big b) : GoodIn big (c :: (a ++ b)) := fun w h => (List.mem_cons.mp h).elim (fun e => ha w (List.mem_cons.mpr (Or.inl e))) (fun h => (List.mem_append.mp h).elim (fun h => ha w (List.mem_cons.mpr (Or.inr h))) (hb w))
theorem goodIn_sub {big ws : List Cond} (hm : ∀ w ∈ ws, w ∈ big) (h : ws.all goodWord = true) : GoodIn big ws := fun w hw => ⟨hm w hw, good_of_word (List.all_eq_true.mp h w hw)⟩
/-! ===== END ===== -/
/-! ===== BEGIN exceptions that leave a method, and their catching by the caller (launches without stack traces) ===== -/
section VXA
/-! The laws vx_back, vx_callV, vx_callS, vx_callSW, vx_throw0, vx_throwS follow proofs of the library, with one case more: JvmDerived/Free/Laws.lean (Back.of_free), Shelf42/LK1.lean (callV, callS), Shelf/KitTraced.lean (throwNew0V, throwNewS). -/
/-- where a method has thrown q: the class by its name, the cell, what was written, the world -/
def vx_T (XC : String → State → State → Prop) (st : State) (q : Addr) (t : State) (mc ms : Nat) (free : Addr → Prop) : Prop :=
  ∃ (E : String) (ce : Cell) (L : List Loc), XC E st t ∧ t.heap[q]? = some ce ∧ ce.vm = .none ∧ st.vm.findClass E = some ce.cls ∧ st.WarmedH t.vm ∧ st.sameButNew ({ t with vm := st.vm } : State) L mc ms ∧ ∀ z ∈ L, free z.base
def vx_Q (Qc : Array Value → State → Outcome → State → Prop) (XC : String → State → State → Prop) (mc ms : Nat) (free : Addr → Prop) : Array Value → State → Outcome → State → Prop := fun a st o t =>
  (Qc a st o t ∧ ∃ L, FrameEnd st o t L mc ms ∧ ∀ q ∈ L, free q.base) ∨ ∃ q, o = .threw q ∧ vx_T XC st q t mc ms free
/-- a callee that returns or throws -/
def vx_Met (l : Launch) (y : MethodName) (ws : List Cond) (rm : Room) (Pc : Array Value → State → Prop) (Qc : Array Value → State → Outcome → State → Prop) (XC : String → State → State → Prop) (mc ms : Nat) (free : Addr → Prop) : Prop :=
  MetFree l y (headSpec ws rm) Pc (fun _ _ _ _ _ => True) (vx_Q Qc XC mc ms free)
def vx_Post (XC : String → State → State → Prop) (mc ms : Nat) (free : Addr → Prop) : Pt → Array Value → Addr → Pt → Prop := fun A a q B =>
  ∃ (g : JFrame) (mk : MethodId) (t : State) (L : List Loc) (E : String) (ce : Cell), B.U.heap = t.heap ∧ B.U.vm = t.vm ∧ XC E (A.U.calling g mk a) t ∧ t.heap[q]? = some ce ∧ ce.vm = .none ∧ A.U.vm.findClass E = some ce.cls ∧ B.locs = A.locs ++ L ∧ (∀ z ∈ L, free z.base) ∧ B.cells = A.cells + mc ∧ B.slots = A.slots + ms
def vx_Back (l : Launch) (R : Room) (p : Program) (e : Env) (below : List Frame) (s : State) (sargs : Array Value) (y : MethodName) (len W9 : Nat)
    (Pre : Pt → Array Value → Prop) (Post : Pt → Array Value → Option Value → Pt → Prop) (PostX : Pt → Array Value → Addr → Pt → Prop) : Prop :=
  ∀ (m : MethodId) (meth : Method) (c : Code) (A : Pt) (g : JFrame) (ig : Instr) (mk : MethodId) (a : Array Value),
    Stand p l e R s m sargs below meth c A.U A.locs A.cells A.slots → g.method = m → g.locals.size = c.maxLocals → decode c.code g.pc = .ok (ig, len) →
    2 * g.monitorRoom + (g.stack.map fun v => v.category).sum ≤ W9 → A.U.methodNamed? y = some mk → Pre A a →
    (∃ (v : Option Value) (B : Pt), Stand p l e R s m sargs below meth c B.U B.locs B.cells B.slots ∧ Post A a v B ∧
      Steps p.tables e below (doInvoke e (A.U.setTop g) [] mk a).1 (B.U.setTop { g with pc := g.pc + len, stack := v.toList ++ g.stack })) ∨
    (∃ (q : Addr) (B : Pt), Stand p l e R s m sargs below meth c B.U B.locs B.cells B.slots ∧ PostX A a q B ∧
      Steps p.tables e below (doInvoke e (A.U.setTop g) [] mk a).1 ((B.U.setTop g).pushFrame (.throwing q)))
section Payer
variable {l : Launch} {R : Room} {p : Program} {e : Env} {below : List Frame} {s : State} {sargs : Array Value} {y : MethodName} {len W9 : Nat}
theorem vx_back {ws : List Cond} {rm : Room} {Pc : Array Value → State → Prop} {Qc : Array Value → State → Outcome → State → Prop} {XC : String → State → State → Prop} {mc ms : Nat} {free : Addr → Prop} {bytes : ByteArray} {maxL : Nat} {ret : Option FieldType}
    (hM : vx_Met l y ws rm Pc Qc XC mc ms free) (hblind : FrameBlind Pc) (hrc : rm.cells = mc) (hrs : rm.slots = ms)
    (hframes : rm.frames + 1 ≤ R.frames) (hlocals : W9 + (maxL + 11) + rm.locals ≤ R.locals)
    (hws : ∀ w ∈ ws, ∀ a' U, s.WarmedH U.vm → w.before a' U = true) (hcode : Cond.code y bytes maxL ret ∈ ws) (hinit : ∀ a' U, s.WarmedH U.vm → (Cond.initialized y.cls).before a' U = true) :
    vx_Back l R p e below s sargs y len W9 (PreOf R mc ms Pc) (PostOf Qc mc ms free) (vx_Post XC mc ms free) := by
  intro m meth c A g ig mk a X hg hsize hdg hW hn hp
  have h1 : (headSpec ws rm).pre.before a A.U = true := atoms_intro fun w hw => hws w hw _ _ X.warmed
  have h2 : (Cond.code y bytes maxL ret).before a A.U = true := hws _ hcode _ _ X.warmed
  have h3 : (Cond.initialized y.cls).before a A.U = true := hinit _ _ X.warmed
  have h4 : A.cells + (headSpec ws rm).room.cells ≤ R.cells := by rw [show (headSpec ws rm).room.cells = mc from hrc]; exact hp.1
  have h5 : A.slots + (headSpec ws rm).room.slots ≤ R.slots := by rw [show (headSpec ws rm).room.slots = ms from hrs]; exact hp.2.1
  have hPc : Pc a (A.U.calling g mk a) := hblind _ _ _ _ hp.2.2
  obtain ⟨U, Ls, c0, s0⟩ := A
  dsimp only [Pt.U, Pt.locs, Pt.cells, Pt.slots] at h1 h2 h3 h4 h5 X hn hPc ⊢
  obtain ⟨methY, cY, hmY, hcY, -, hlY, -, -, -, -⟩ := Cond.code_spec hn h2
  obtain ⟨kY, hkY, -⟩ := className_of_methodNamed hn
  have hinitY : kY.init = .initialized := Cond.initialized_spec (findClass_of_methodNamed hn) hkY h3
  have h : At U g.method c below := by rw [hg]; exact X.here
  have hlocals9 : W9 + (maxL + 11) + (headSpec ws rm).room.locals ≤ R.locals := hlocals
  have happ : (headSpec ws rm).appliesLoose y e.platform (U.calling g mk a) = true :=
    Spec.appliesLoose_calling (g := g) h hdg hn hkY hinitY
      (X.room_calling (g := g) (R' := (headSpec ws rm).room) hsize hmY hcY hframes (by rw [hlY]; omega) h4 h5) h1
  obtain ⟨mid, hmid⟩ := h.above
  have hfr : (U.setTop g).frames = (.java g :: mid) ++ below := by rw [State.frames_setTop' g h.top, hmid]; rfl
  obtain ⟨o, s₂, hsteps, -, hend, hq⟩ := Steps.callFree hM p X.admits X.cas X.clock (acts := []) hfr happ hPc trivial
  have hq' : vx_Q Qc XC mc ms free a (U.calling g mk a) o s₂ := hq
  rw [State.frames_setTop' g h.top] at hend
  obtain ⟨g₀, hg0⟩ := Option.isSome_iff_exists.mp h.top
  obtain ⟨r, hr⟩ := State.topJava?_eq_some.mp hg0
  have hr' : (({ U with heap := s₂.heap, slotsUsed := s₂.slotsUsed } : State).setVm s₂.vm).frames = .java g₀ :: r := hr
  rcases hq' with ⟨hqc, L, hfe, hL⟩ | ⟨q, rfl, E, ce, L, hx, hce, hcv, hcl, hW₂, hsm, hL⟩
  · obtain ⟨⟨v, rfl⟩, hW₂, e2, q2, q3, q4, q5, q6⟩ := id hfe
    have e3 : s₂ = ({ (U.calling g mk a).setFrames s₂.frames with heap := s₂.heap, slotsUsed := s₂.slotsUsed } : State).setVm s₂.vm := by
      have : s₂ = ({ s₂ with vm := (U.calling g mk a).vm } : State).setVm s₂.vm := rfl
      rw [e2] at this
      exact this
    obtain ⟨c₂, i₂, len₂, hc₂, hd₂, hf₂⟩ := hend
    have hW' : U.WarmedH s₂.vm := hW₂
    have hcc : c₂ = c := by
      have h1 : s₂.code? g.method = U.code? g.method := by
        rw [State.code?_eq, State.code?_eq, hW'.alike.method?]
      exact Option.some.inj (hc₂.symm.trans (h1.trans h.code))
    subst hcc
    have hlen : len₂ = len := by rw [hdg] at hd₂; cases hd₂; rfl
    subst hlen
    have hs₂ : s₂ = (({ U with heap := s₂.heap, slotsUsed := s₂.slotsUsed } : State).setVm s₂.vm).setTop { g with pc := g.pc + len₂, stack := v.toList ++ g.stack } := by
      refine e3.trans ?_
      rw [hf₂, State.calling_eq h.top, State.setFrames_setFrames, State.setTop_of_frames _ hr', hr]
      rfl
    have hsame : U.sameButNew ({ U with heap := s₂.heap, slotsUsed := s₂.slotsUsed } : State) L mc ms := by
      refine ⟨?_, q2, q3, q4, q5, q6⟩
      obtain ⟨t, ht, -⟩ := State.frames_cons hr
      show ({ U with heap := s₂.heap, slotsUsed := s₂.slotsUsed } : State) = { U.setFrames U.frames with heap := s₂.heap, slotsUsed := s₂.slotsUsed }
      rw [State.setFrames_self ht]
    subst hg
    refine Or.inl ⟨v, ⟨(({ U with heap := s₂.heap, slotsUsed := s₂.slotsUsed } : State).setVm s₂.vm), Ls ++ L, c0 + mc, s0 + ms⟩,
      ⟨X.admits, X.cas, X.clock, X.frames, X.room, X.hears, X.method, X.code, (X.here.setHeapUsed s₂.heap s₂.slotsUsed).setVm hW'.alike, X.tail, State.WarmedH.trans X.warmed hW', X.limits, X.bytes, X.same.trans (hsame.setVm s.vm)⟩,
      ⟨g, mk, s₂, L, rfl, rfl, hqc, rfl, hL, rfl, rfl⟩, ?_⟩
    show Steps p.tables e below _ ((({ U with heap := s₂.heap, slotsUsed := s₂.slotsUsed } : State).setVm s₂.vm).setTop { g with pc := g.pc + len₂, stack := v.toList ++ g.stack })
    rw [← hs₂]
    exact hsteps
  · obtain ⟨e2, q2, q3, q4, q5, q6⟩ := id hsm
    have e3 : s₂ = ({ (U.calling g mk a).setFrames s₂.frames with heap := s₂.heap, slotsUsed := s₂.slotsUsed } : State).setVm s₂.vm := by
      have : s₂ = ({ s₂ with vm := (U.calling g mk a).vm } : State).setVm s₂.vm := rfl
      rw [e2] at this
      exact this
    have hf₂ : s₂.frames = .throwing q :: .java g :: U.frames.tail := hend
    have hW' : U.WarmedH s₂.vm := hW₂
    have hs₂ : s₂ = ((({ U with heap := s₂.heap, slotsUsed := s₂.slotsUsed } : State).setVm s₂.vm).setTop g).pushFrame (.throwing q) := by
      refine e3.trans ?_
      rw [hf₂, State.calling_eq h.top, State.setFrames_setFrames, State.pushFrame, State.frames_setTop _ hr', State.setTop_of_frames _ hr', State.setFrames_setFrames, hr]
      rfl
    have hsame : U.sameButNew ({ U with heap := s₂.heap, slotsUsed := s₂.slotsUsed } : State) L mc ms := by
      refine ⟨?_, q2, q3, q4, q5, q6⟩
      obtain ⟨t, ht, -⟩ := State.frames_cons hr
      show ({ U with heap := s₂.heap, slotsUsed := s₂.slotsUsed } : State) = { U.setFrames U.frames with heap := s₂.heap, slotsUsed := s₂.slotsUsed }
      rw [State.setFrames_self ht]
    subst hg
    refine Or.inr ⟨q, ⟨(({ U with heap := s₂.heap, slotsUsed := s₂.slotsUsed } : State).setVm s₂.vm), Ls ++ L, c0 + mc, s0 + ms⟩,
      ⟨X.admits, X.cas, X.clock, X.frames, X.room, X.hears, X.method, X.code, (X.here.setHeapUsed s₂.heap s₂.slotsUsed).setVm hW'.alike, X.tail, State.WarmedH.trans X.warmed hW', X.limits, X.bytes, X.same.trans (hsame.setVm s.vm)⟩,
      ⟨g, mk, s₂, L, E, ce, rfl, rfl, hx, hce, hcv, hcl, rfl, hL, rfl, rfl⟩, ?_⟩
    show Steps p.tables e below _ (((({ U with heap := s₂.heap, slotsUsed := s₂.slotsUsed } : State).setVm s₂.vm).setTop g).pushFrame (.throwing q))
    rw [← hs₂]
    exact hsteps
end Payer
section Calls
variable {p : Program} {l : Launch} {e : Env} {R : Room} {s : State} {m : MethodId} {args : Array Value} {below : List Frame} {meth : Method} {c : Code} {T : State} {locs : List Loc} {cells slots : Nat}
theorem vx_callV (X : Stand p l e R s m args below meth c T locs cells slots) (hexec : p.tables.exec = Jvm.exec) {own C : String} {index : Nat} {y : MethodName} {bytes : ByteArray} {maxL : Nat} {ret : Option FieldType}
    (hown : s.vm.findClass own = some m.cls) (hlink : (Cond.methodLink own index y).before args s = true) (hinst : (Cond.instanceMethod y).before args s = true) (hsel : (Cond.selects C y y).before args s = true)
    (hcode : (Cond.code y bytes maxL ret).before args s = true) (hy : y.cls ≠ "java/lang/invoke/MethodHandle" ∧ y.cls ≠ "java/lang/invoke/VarHandle")
    {W9 : Nat} {Pre : Pt → Array Value → Prop} {Post : Pt → Array Value → Option Value → Pt → Prop} {PostX : Pt → Array Value → Addr → Pt → Prop} (hK : vx_Back l R p e below s args y 3 W9 Pre Post PostX)
    {b : Addr} {cellB : Cell} (hcell : T.heap[b]? = some cellB) (hobj : cellB.vm.isStatics = false) (hcls : s.vm.findClass C = some cellB.cls)
    {g : JFrame} (hg : g.method = m) (hsize : g.locals.size = c.maxLocals) {argsL rest : List Value} (hlen : ∀ sig, parseMethodDescriptor y.desc = some sig → argsL.length = sig.parameters.length)
    (hstack : g.stack = argsL.reverse ++ .ref b :: rest) (hW : 2 * g.monitorRoom + (rest.map fun v => v.category).sum ≤ W9) (hdg : decode c.code g.pc = .ok (.invokevirtual index, 3))
    (hpre : ∀ vm₁, s.WarmedH vm₁ → Pre ⟨T.setVm vm₁, locs, cells, slots⟩ (Value.ref b :: argsL).toArray) :
    (∃ (v : Option Value) (vm₁ : Vm) (B : Pt), s.WarmedH vm₁ ∧ Stand p l e R s m args below meth c B.U B.locs B.cells B.slots ∧ Post ⟨T.setVm vm₁, locs, cells, slots⟩ (Value.ref b :: argsL).toArray v B ∧
      ∀ target, Steps p.tables e below (B.U.setTop { g with pc := g.pc + 3, stack := v.toList ++ rest }) target → Steps p.tables e below (T.setTop g) target) ∨
    (∃ (q : Addr) (vm₁ : Vm) (B : Pt), s.WarmedH vm₁ ∧ Stand p l e R s m args below meth c B.U B.locs B.cells B.slots ∧ PostX ⟨T.setVm vm₁, locs, cells, slots⟩ (Value.ref b :: argsL).toArray q B ∧
      Steps p.tables e below (T.setTop g) ((B.U.setTop { g with stack := rest }).pushFrame (.throwing q))) := by
  obtain ⟨mk, methM, hnamed, hmethM, hstM, habM⟩ := Cond.instanceMethod_spec hinst
  obtain ⟨methM', cM, hmethM', -, -, -, -, -, -, hsigM⟩ := Cond.code_spec hnamed hcode
  cases hmethM.symm.trans hmethM'
  obtain ⟨c2, r2, m2, q1, q2, q3, q4, kP, hkP, hkPi⟩ := Cond.selects_spec hsel
  cases hcls.symm.trans q1
  cases (State.methodFound?_of_named hnamed hy).symm.trans q2
  cases hnamed.symm.trans q3
  have hselP : selectMethod e.platform s.vm cellB.cls mk = .method mk := by rw [Launch.admits_selectMethod X.admits]; exact q4
  obtain ⟨vm₁, X₁, hstep₁⟩ := X.invokevirtual hexec hown hlink hnamed hmethM hstM hkP hkPi hy (a := b) (cell := cellB) hcell
    (fun z h => by rw [h] at hobj; cases hobj) hselP hmethM habM hkP hkPi (g := g) hg (argsL := argsL) (rest := rest) (hlen _ hsigM) hstack hdg
  rcases hK m meth c ⟨T.setVm vm₁, locs, cells, slots⟩ { g with stack := rest } (.invokevirtual index) mk (Value.ref b :: argsL).toArray X₁ hg hsize hdg hW (X₁.named hnamed) (hpre vm₁ X₁.warmed) with ⟨v, B, X', hpost, hsteps⟩ | ⟨q, B, X', hpost, hsteps⟩
  · exact Or.inl ⟨v, vm₁, B, X₁.warmed, X', hpost, fun target h => hstep₁ _ fun acts => by rw [doInvoke_state]; exact hsteps.trans h⟩
  · exact Or.inr ⟨q, vm₁, B, X₁.warmed, X', hpost, hstep₁ _ fun acts => by rw [doInvoke_state]; exact hsteps⟩
theorem vx_callS (X : Stand p l e R s m args below meth c T locs cells slots) (hexec : p.tables.exec = Jvm.exec) {own : String} {index : Nat} {y : MethodName} {bytes : ByteArray} {maxL : Nat} {ret : Option FieldType}
    (hown : s.vm.findClass own = some m.cls) (hlink : (Cond.methodLink own index y).before args s = true) (hstat : (Cond.static y).before args s = true) (hinit : (Cond.initialized y.cls).before args s = true)
    (hcode : (Cond.code y bytes maxL ret).before args s = true) (hy : y.cls ≠ "java/lang/invoke/MethodHandle" ∧ y.cls ≠ "java/lang/invoke/VarHandle")
    {W9 : Nat} {Pre : Pt → Array Value → Prop} {Post : Pt → Array Value → Option Value → Pt → Prop} {PostX : Pt → Array Value → Addr → Pt → Prop} (hK : vx_Back l R p e below s args y 3 W9 Pre Post PostX)
    {g : JFrame} (hg : g.method = m) (hsize : g.locals.size = c.maxLocals) {argsL rest : List Value} (hlen : ∀ sig, parseMethodDescriptor y.desc = some sig → argsL.length = sig.parameters.length)
    (hstack : g.stack = argsL.reverse ++ rest) (hW : 2 * g.monitorRoom + (rest.map fun v => v.category).sum ≤ W9) (hdg : decode c.code g.pc = .ok (.invokestatic index, 3))
    (hpre : ∀ vm₁, s.WarmedH vm₁ → Pre ⟨T.setVm vm₁, locs, cells, slots⟩ argsL.toArray) :
    (∃ (v : Option Value) (vm₁ : Vm) (B : Pt), s.WarmedH vm₁ ∧ Stand p l e R s m args below meth c B.U B.locs B.cells B.slots ∧ Post ⟨T.setVm vm₁, locs, cells, slots⟩ argsL.toArray v B ∧
      ∀ target, Steps p.tables e below (B.U.setTop { g with pc := g.pc + 3, stack := v.toList ++ rest }) target → Steps p.tables e below (T.setTop g) target) ∨
    (∃ (q : Addr) (vm₁ : Vm) (B : Pt), s.WarmedH vm₁ ∧ Stand p l e R s m args below meth c B.U B.locs B.cells B.slots ∧ PostX ⟨T.setVm vm₁, locs, cells, slots⟩ argsL.toArray q B ∧
      Steps p.tables e below (T.setTop g) ((B.U.setTop { g with stack := rest }).pushFrame (.throwing q))) := by
  obtain ⟨mk, hnamed⟩ := Cond.code_named hcode
  obtain ⟨methM, cM, hmethM, -, -, -, -, -, -, hsigM⟩ := Cond.code_spec hnamed hcode
  have hstatic : methM.isStatic = true := Cond.static_spec hnamed hmethM hstat
  obtain ⟨kP, hkP, -⟩ := className_of_methodNamed hnamed
  have hinitP : kP.init = .initialized := Cond.initialized_spec (findClass_of_methodNamed hnamed) hkP hinit
  obtain ⟨vm₁, X₁, hstep₁⟩ := X.invokestatic hexec hown hlink hnamed hmethM hstatic hkP hinitP hy (g := g) hg (argsL := argsL) (rest := rest) (hlen _ hsigM) hstack hdg
  rcases hK m meth c ⟨T.setVm vm₁, locs, cells, slots⟩ { g with stack := rest } (.invokestatic index) mk argsL.toArray X₁ hg hsize hdg hW (X₁.named hnamed) (hpre vm₁ X₁.warmed) with ⟨v, B, X', hpost, hsteps⟩ | ⟨q, B, X', hpost, hsteps⟩
  · exact Or.inl ⟨v, vm₁, B, X₁.warmed, X', hpost, fun target h => hstep₁ _ fun acts => by rw [doInvoke_state]; exact hsteps.trans h⟩
  · exact Or.inr ⟨q, vm₁, B, X₁.warmed, X', hpost, hstep₁ _ fun acts => by rw [doInvoke_state]; exact hsteps⟩
end Calls
theorem vx_cls {s : State} {T : State} {vm₁ : Vm} {E : String} {k : ClassId} (hW : s.WarmedH vm₁) (h : (T.setVm vm₁).vm.findClass E = some k) : s.vm.findClass E = some k := by
  have h1 : vm₁.findClass E = some k := h
  rw [hW.alike.findClass] at h1
  exact h1
/-- the method's frame g, with q thrown over it -/
def vx_W (p : Program) (l : Launch) (e : Env) (R : Room) (s : State) (m : MethodId) (args : Array Value) (below : List Frame) (meth : Method) (c : Code) (H : Heap) (locs : List Loc) (cells slots : Nat) (Q : State → Prop) (g : JFrame) (q : Addr) : Prop :=
  ∀ T : State, T.heap = H → Stand p l e R s m args below meth c T locs cells slots → ∃ t, Steps p.tables e below ((T.setTop g).pushFrame (.throwing q)) t ∧ Q t
def vx_Run (p : Program) (l : Launch) (e : Env) (R : Room) (s : State) (m : MethodId) (args : Array Value) (below : List Frame) (meth : Method) (c : Code) (H : Heap) (locs : List Loc) (cells slots mc ms : Nat) (g : JFrame) (rest : List Value) (Qa : State → Outcome → State → Prop) (XC : String → State → State → Prop) (free : Addr → Prop) : Prop :=
  ∀ T : State, T.heap = H → Stand p l e R s m args below meth c T locs cells slots →
    (∃ (v : Option Value) (st₀ t T' : State) (L : List Loc), st₀.heap = H ∧ Stand p l e R s m args below meth c T' (locs ++ L) (cells + mc) (slots + ms) ∧ (∀ q ∈ L, free q.base) ∧ T'.heap = t.heap ∧ T'.vm = t.vm ∧ Qa st₀ (.returned v) t ∧
      Goes p e below T g T' { g with pc := g.pc + 3, stack := v.toList ++ rest }) ∨
    (∃ (q : Addr) (st₀ t T' : State) (L : List Loc) (E : String) (ce : Cell), st₀.heap = H ∧ Stand p l e R s m args below meth c T' (locs ++ L) (cells + mc) (slots + ms) ∧ (∀ z ∈ L, free z.base) ∧ T'.heap = t.heap ∧ T'.vm = t.vm ∧ XC E st₀ t ∧ t.heap[q]? = some ce ∧ ce.vm = .none ∧ s.vm.findClass E = some ce.cls ∧
      Steps p.tables e below (T.setTop g) ((T'.setTop { g with stack := rest }).pushFrame (.throwing q)))
def vx_X {S : Type} (px : S → Prop) (B : String → S → State → Prop) (A : Nat → Prop) : String → State → State → Prop := fun E st t => ∃ u : S, px u ∧ B E u t ∧ va_F A st t
section Runs
variable {p : Program} {l : Launch} {e : Env} {R : Room} {s : State} {m : MethodId} {args : Array Value} {below : List Frame} {meth : Method} {c : Code} {H : Heap} {locs : List Loc} {cells slots : Nat}
variable {y : MethodName} {bytes cc : ByteArray} {maxL nL mc ms n index : Nat} {ret : Option FieldType} {ws : List Cond} {rm : Room} {Pc : Array Value → State → Prop} {Qc : Array Value → State → Outcome → State → Prop} {XC : String → State → State → Prop} {free : Addr → Prop} {Ts : List Cond} {own C : String} {b : Addr} {As rest : List Value} {g : JFrame}
theorem vx_callBack (cb : CallB R s args own index y bytes maxL ret ws rm mc ms n) (hM : vx_Met l y ws rm Pc Qc XC mc ms free) (hbl : FrameBlind Pc) : vx_Back l R p e below s args y 3 8 (PreOf R mc ms Pc) (PostOf Qc mc ms free) (vx_Post XC mc ms free) := by
  obtain ⟨hrc, hrs, hfr, hlo, hws, hcw, -, hini, -⟩ := cb
  exact vx_back (bytes := bytes) (maxL := maxL) (ret := ret) hM hbl hrc hrs hfr hlo hws hcw (fun a' U hW => word_at hW (Or.inl (by first | rfl | simp [Cond.onTables, Cond.keeps, Cond.steady])) hini)
theorem vx_runV (S : CallFix p m c cc nL s args Ts own) (hM : vx_Met l y ws rm Pc Qc XC mc ms free) (cw : CallW R s args own C index y bytes maxL ret ws rm mc ms n) (hp : PreV s H C b Pc As)
    (hg : g.method = m) (hn : As.length = n) (hsize : g.locals.size = nL) (hstack : g.stack = As.reverse ++ .ref b :: rest) (hW : 2 * g.monitorRoom + (rest.map fun v => v.category).sum ≤ 8) (hdg : decode cc g.pc = .ok (.invokevirtual index, 3)) (hf : cells + mc ≤ R.cells ∧ slots + ms ≤ R.slots) :
    vx_Run p l e R s m args below meth c H locs cells slots mc ms g rest (Qc (Value.ref b :: As).toArray) XC free := by
  have hK : vx_Back l R p e below s args y 3 8 (PreOf R mc ms Pc) (PostOf Qc mc ms free) (vx_Post XC mc ms free) := vx_callBack cw.1 hM hp.1
  obtain ⟨⟨-, -, -, -, -, -, hcode, -, hy, hlen, hl⟩, hin, hse⟩ := cw
  obtain ⟨hx, hb, hml, ho, -⟩ := S
  obtain ⟨-, ⟨cellB, hcB, hoB, hclB⟩, hPc⟩ := hp
  intro T hT X
  rcases vx_callV X hx (C := C) (bytes := bytes) (maxL := maxL) (ret := ret) ho hl hin hse hcode hy hK (by rw [hT]; exact hcB) hoB hclB hg (hsize.trans hml.symm) (argsL := As) (rest := rest) (fun sig h => hn.trans (hlen sig h)) hstack hW (by rw [hb]; exact hdg)
    (fun vm₁ hW₁ => ⟨hf.1, hf.2, hPc (T.setVm vm₁) hT hW₁⟩) with ⟨v, vm₁, ⟨U', l2, c2, s2⟩, hW₁, X', ⟨g', mk, t, L, e1, e2, hq, h1, hL, h2, h3⟩, st⟩ | ⟨q, vm₁, ⟨U', l2, c2, s2⟩, hW₁, X', ⟨g', mk, t, L, E, ce, e1, e2, hq, hce, hcv, hcl, h1, hL, h2, h3⟩, st⟩
  · dsimp only [Pt.U, Pt.locs, Pt.cells, Pt.slots] at X' e1 e2 h1 h2 h3 st
    subst h1; subst h2; subst h3
    exact Or.inl ⟨v, (T.setVm vm₁).calling g' mk (Value.ref b :: As).toArray, t, U', L, hT, X', hL, e1, e2, hq, st⟩
  · dsimp only [Pt.U, Pt.locs, Pt.cells, Pt.slots] at X' e1 e2 h1 h2 h3 st hcl
    subst h1; subst h2; subst h3
    exact Or.inr ⟨q, (T.setVm vm₁).calling g' mk (Value.ref b :: As).toArray, t, U', L, E, ce, hT, X', hL, e1, e2, hq, hce, hcv, vx_cls hW₁ hcl, st⟩
theorem vx_runS (S : CallFix p m c cc nL s args Ts own) (hM : vx_Met l y ws rm Pc Qc XC mc ms free) (cw : CallB R s args own index y bytes maxL ret ws rm mc ms n ∧ (Cond.static y).before args s = true) (hp : PreS s H Pc As)
    (hg : g.method = m) (hn : As.length = n) (hsize : g.locals.size = nL) (hstack : g.stack = As.reverse ++ rest) (hW : 2 * g.monitorRoom + (rest.map fun v => v.category).sum ≤ 8) (hdg : decode cc g.pc = .ok (.invokestatic index, 3)) (hf : cells + mc ≤ R.cells ∧ slots + ms ≤ R.slots) :
    vx_Run p l e R s m args below meth c H locs cells slots mc ms g rest (Qc As.toArray) XC free := by
  have hK : vx_Back l R p e below s args y 3 8 (PreOf R mc ms Pc) (PostOf Qc mc ms free) (vx_Post XC mc ms free) := vx_callBack cw.1 hM hp.1
  obtain ⟨⟨-, -, -, -, -, -, hcode, hini, hy, hlen, hl⟩, hstt⟩ := cw
  obtain ⟨hx, hb, hml, ho, -⟩ := S
  intro T hT X
  rcases vx_callS X hx (bytes := bytes) (maxL := maxL) (ret := ret) ho hl hstt hini hcode hy hK hg (hsize.trans hml.symm) (argsL := As) (rest := rest) (fun sig h => hn.trans (hlen sig h)) hstack hW (by rw [hb]; exact hdg)
    (fun vm₁ hW₁ => ⟨hf.1, hf.2, hp.2 (T.setVm vm₁) hT hW₁⟩) with ⟨v, vm₁, ⟨U', l2, c2, s2⟩, hW₁, X', ⟨g', mk, t, L, e1, e2, hq, h1, hL, h2, h3⟩, st⟩ | ⟨q, vm₁, ⟨U', l2, c2, s2⟩, hW₁, X', ⟨g', mk, t, L, E, ce, e1, e2, hq, hce, hcv, hcl, h1, hL, h2, h3⟩, st⟩
  · dsimp only [Pt.U, Pt.locs, Pt.cells, Pt.slots] at X' e1 e2 h1 h2 h3 st
    subst h1; subst h2; subst h3
    exact Or.inl ⟨v, (T.setVm vm₁).calling g' mk As.toArray, t, U', L, hT, X', hL, e1, e2, hq, st⟩
  · dsimp only [Pt.U, Pt.locs, Pt.cells, Pt.slots] at X' e1 e2 h1 h2 h3 st hcl
    subst h1; subst h2; subst h3
    exact Or.inr ⟨q, (T.setVm vm₁).calling g' mk As.toArray, t, U', L, E, ce, hT, X', hL, e1, e2, hq, hce, hcv, vx_cls hW₁ hcl, st⟩
end Runs
section Rows
variable {p : Program} {l : Launch} {e : Env} {R : Room} {s : State} {m : MethodId} {args : Array Value} {below : List Frame} {meth : Method} {c : Code} {H : Heap} {locs : List Loc} {cells slots : Nat} {Q : State → Prop}
variable {mc ms : Nat} {free : Addr → Prop} {A0 A1 : Nat → Prop} {H0 : Heap} {a : Array Value} {pc : Nat} {ls : Array Slot} {st0 rest : List Value}
theorem vx_keep {st₀ t T' : State} {L : List Loc} (h0 : st₀.heap = H) (e1 : T'.heap = t.heap) (hS : va_S A0 H0 H locs) (hA : ∀ q, q < H.size → A1 q → A0 q) (hf : ∀ q, free q → A0 q) (hL : ∀ q ∈ L, free q.base) (hF : va_F A1 st₀ t) :
    H.size ≤ T'.heap.size ∧ (∀ q : Nat, q < H.size → ¬ A1 q → T'.heap[q]? = H[q]?) ∧ va_S A0 H0 T'.heap (locs ++ L) := by
  obtain ⟨hz, hk⟩ := hF
  rw [h0] at hz hk
  exact ⟨by rw [e1]; exact hz, fun q h1 h2 => by rw [e1]; exact hk q h1 h2,
    ⟨Nat.le_trans hS.1 (by rw [e1]; exact hz), fun q h1 h2 => by rw [e1, hk q (Nat.lt_of_lt_of_le h1 hS.1) (fun z => h2 (hA q (Nat.lt_of_lt_of_le h1 hS.1) z))]; exact hS.2.1 q h1 h2, fun q hq => by
      rcases List.mem_append.mp hq with h | h
      · exact hS.2.2 q h
      · exact hf _ (hL q h)⟩⟩
theorem vx_calli {S SX : Type} {post : Int32 → S → Prop} {px : SX → Prop} {B : S → State → Prop} {BX : String → SX → State → Prop} {AX : Nat → Prop} (hr : vx_Run p l e R s m args below meth c H locs cells slots mc ms (F0 m pc ls st0) rest (va_Qi post B A1 a) (vx_X px BX AX) free) (hS : va_S A0 H0 H locs) (hA : ∀ q, q < H.size → A1 q → A0 q) (hf : ∀ q, free q → A0 q) (hAX : ∀ q, q < H.size → AX q → A0 q)
    (kx : ∀ (E : String) (ce : Cell) (q9 : Addr) (u : SX) (t : State) (H1 : Heap) (locs1 : List Loc), t.heap = H1 → s.vm.Alike t.vm → px u → BX E u t → H.size ≤ H1.size → (∀ q : Nat, q < H.size → ¬ AX q → H1[q]? = H[q]?) → va_S A0 H0 H1 locs1 → H1[q9]? = some ce → ce.vm = .none → s.vm.findClass E = some ce.cls → vx_W p l e R s m args below meth c H1 locs1 (cells + mc) (slots + ms) Q (F0 m pc ls rest) q9)
    (kk : ∀ (r : Int32) (u : S) (t : State) (H1 : Heap) (locs1 : List Loc), t.heap = H1 → s.vm.Alike t.vm → post r u → B u t → H.size ≤ H1.size → (∀ q : Nat, q < H.size → ¬ A1 q → H1[q]? = H[q]?) → va_S A0 H0 H1 locs1 → W p l e R s m args below meth c H1 locs1 (cells + mc) (slots + ms) Q (F0 m (pc + 3) ls (.int r :: rest))) : W p l e R s m args below meth c H locs cells slots Q (F0 m pc ls st0) := by
  intro T hT X
  rcases hr T hT X with ⟨v, st₀, t, T', L, h0, X', hL, e1, e2, ⟨⟨r, u, hv, hp, hb⟩, hF⟩, st⟩ | ⟨q, st₀, t, T', L, E, ce, h0, X', hL, e1, e2, ⟨u, hp, hb, hF⟩, hce, hcv, hcl, st⟩
  · cases hv
    obtain ⟨k1, k2, k3⟩ := vx_keep h0 e1 hS hA hf hL hF
    obtain ⟨t2, a1, b1⟩ := kk r u t T'.heap (locs ++ L) e1.symm (by rw [← e2]; exact X'.warmed.alike) hp hb k1 k2 k3 T' rfl X'
    exact ⟨t2, st t2 a1, b1⟩
  · obtain ⟨k1, k2, k3⟩ := vx_keep h0 e1 hS hAX hf hL hF
    obtain ⟨t2, a1, b1⟩ := kx E ce q u t T'.heap (locs ++ L) e1.symm (by rw [← e2]; exact X'.warmed.alike) hp hb k1 k2 k3 (by rw [e1]; exact hce) hcv hcl T' rfl X'
    exact ⟨t2, st.trans a1, b1⟩
theorem vx_calll {S SX : Type} {post : Int64 → S → Prop} {px : SX → Prop} {B : S → State → Prop} {BX : String → SX → State → Prop} {AX : Nat → Prop} (hr : vx_Run p l e R s m args below meth c H locs cells slots mc ms (F0 m pc ls st0) rest (va_Ql post B A1 a) (vx_X px BX AX) free) (hS : va_S A0 H0 H locs) (hA : ∀ q, q < H.size → A1 q → A0 q) (hf : ∀ q, free q → A0 q) (hAX : ∀ q, q < H.size → AX q → A0 q)
    (kx : ∀ (E : String) (ce : Cell) (q9 : Addr) (u : SX) (t : State) (H1 : Heap) (locs1 : List Loc), t.heap = H1 → s.vm.Alike t.vm → px u → BX E u t → H.size ≤ H1.size → (∀ q : Nat, q < H.size → ¬ AX q → H1[q]? = H[q]?) → va_S A0 H0 H1 locs1 → H1[q9]? = some ce → ce.vm = .none → s.vm.findClass E = some ce.cls → vx_W p l e R s m args below meth c H1 locs1 (cells + mc) (slots + ms) Q (F0 m pc ls rest) q9)
    (kk : ∀ (r : Int64) (u : S) (t : State) (H1 : Heap) (locs1 : List Loc), t.heap = H1 → s.vm.Alike t.vm → post r u → B u t → H.size ≤ H1.size → (∀ q : Nat, q < H.size → ¬ A1 q → H1[q]? = H[q]?) → va_S A0 H0 H1 locs1 → W p l e R s m args below meth c H1 locs1 (cells + mc) (slots + ms) Q (F0 m (pc + 3) ls (.long r :: rest))) : W p l e R s m args below meth c H locs cells slots Q (F0 m pc ls st0) := by
  intro T hT X
  rcases hr T hT X with ⟨v, st₀, t, T', L, h0, X', hL, e1, e2, ⟨⟨r, u, hv, hp, hb⟩, hF⟩, st⟩ | ⟨q, st₀, t, T', L, E, ce, h0, X', hL, e1, e2, ⟨u, hp, hb, hF⟩, hce, hcv, hcl, st⟩
  · cases hv
    obtain ⟨k1, k2, k3⟩ := vx_keep h0 e1 hS hA hf hL hF
    obtain ⟨t2, a1, b1⟩ := kk r u t T'.heap (locs ++ L) e1.symm (by rw [← e2]; exact X'.warmed.alike) hp hb k1 k2 k3 T' rfl X'
    exact ⟨t2, st t2 a1, b1⟩
  · obtain ⟨k1, k2, k3⟩ := vx_keep h0 e1 hS hAX hf hL hF
    obtain ⟨t2, a1, b1⟩ := kx E ce q u t T'.heap (locs ++ L) e1.symm (by rw [← e2]; exact X'.warmed.alike) hp hb k1 k2 k3 (by rw [e1]; exact hce) hcv hcl T' rfl X'
    exact ⟨t2, st.trans a1, b1⟩
theorem vx_callf {S SX : Type} {post : UInt32 → S → Prop} {px : SX → Prop} {B : S → State → Prop} {BX : String → SX → State → Prop} {AX : Nat → Prop} (hr : vx_Run p l e R s m args below meth c H locs cells slots mc ms (F0 m pc ls st0) rest (va_Qf post B A1 a) (vx_X px BX AX) free) (hS : va_S A0 H0 H locs) (hA : ∀ q, q < H.size → A1 q → A0 q) (hf : ∀ q, free q → A0 q) (hAX : ∀ q, q < H.size → AX q → A0 q)
    (kx : ∀ (E : String) (ce : Cell) (q9 : Addr) (u : SX) (t : State) (H1 : Heap) (locs1 : List Loc), t.heap = H1 → s.vm.Alike t.vm → px u → BX E u t → H.size ≤ H1.size → (∀ q : Nat, q < H.size → ¬ AX q → H1[q]? = H[q]?) → va_S A0 H0 H1 locs1 → H1[q9]? = some ce → ce.vm = .none → s.vm.findClass E = some ce.cls → vx_W p l e R s m args below meth c H1 locs1 (cells + mc) (slots + ms) Q (F0 m pc ls rest) q9)
    (kk : ∀ (r : UInt32) (u : S) (t : State) (H1 : Heap) (locs1 : List Loc), t.heap = H1 → s.vm.Alike t.vm → post r u → B u t → H.size ≤ H1.size → (∀ q : Nat, q < H.size → ¬ A1 q → H1[q]? = H[q]?) → va_S A0 H0 H1 locs1 → W p l e R s m args below meth c H1 locs1 (cells + mc) (slots + ms) Q (F0 m (pc + 3) ls (.float r :: rest))) : W p l e R s m args below meth c H locs cells slots Q (F0 m pc ls st0) := by
  intro T hT X
  rcases hr T hT X with ⟨v, st₀, t, T', L, h0, X', hL, e1, e2, ⟨⟨r, u, hv, hp, hb⟩, hF⟩, st⟩ | ⟨q, st₀, t, T', L, E, ce, h0, X', hL, e1, e2, ⟨u, hp, hb, hF⟩, hce, hcv, hcl, st⟩
  · cases hv
    obtain ⟨k1, k2, k3⟩ := vx_keep h0 e1 hS hA hf hL hF
    obtain ⟨t2, a1, b1⟩ := kk r u t T'.heap (locs ++ L) e1.symm (by rw [← e2]; exact X'.warmed.alike) hp hb k1 k2 k3 T' rfl X'
    exact ⟨t2, st t2 a1, b1⟩
  · obtain ⟨k1, k2, k3⟩ := vx_keep h0 e1 hS hAX hf hL hF
    obtain ⟨t2, a1, b1⟩ := kx E ce q u t T'.heap (locs ++ L) e1.symm (by rw [← e2]; exact X'.warmed.alike) hp hb k1 k2 k3 (by rw [e1]; exact hce) hcv hcl T' rfl X'
    exact ⟨t2, st.trans a1, b1⟩
theorem vx_calld {S SX : Type} {post : UInt64 → S → Prop} {px : SX → Prop} {B : S → State → Prop} {BX : String → SX → State → Prop} {AX : Nat → Prop} (hr : vx_Run p l e R s m args below meth c H locs cells slots mc ms (F0 m pc ls st0) rest (va_Qd post B A1 a) (vx_X px BX AX) free) (hS : va_S A0 H0 H locs) (hA : ∀ q, q < H.size → A1 q → A0 q) (hf : ∀ q, free q → A0 q) (hAX : ∀ q, q < H.size → AX q → A0 q)
    (kx : ∀ (E : String) (ce : Cell) (q9 : Addr) (u : SX) (t : State) (H1 : Heap) (locs1 : List Loc), t.heap = H1 → s.vm.Alike t.vm → px u → BX E u t → H.size ≤ H1.size → (∀ q : Nat, q < H.size → ¬ AX q → H1[q]? = H[q]?) → va_S A0 H0 H1 locs1 → H1[q9]? = some ce → ce.vm = .none → s.vm.findClass E = some ce.cls → vx_W p l e R s m args below meth c H1 locs1 (cells + mc) (slots + ms) Q (F0 m pc ls rest) q9)
    (kk : ∀ (r : UInt64) (u : S) (t : State) (H1 : Heap) (locs1 : List Loc), t.heap = H1 → s.vm.Alike t.vm → post r u → B u t → H.size ≤ H1.size → (∀ q : Nat, q < H.size → ¬ A1 q → H1[q]? = H[q]?) → va_S A0 H0 H1 locs1 → W p l e R s m args below meth c H1 locs1 (cells + mc) (slots + ms) Q (F0 m (pc + 3) ls (.double r :: rest))) : W p l e R s m args below meth c H locs cells slots Q (F0 m pc ls st0) := by
  intro T hT X
  rcases hr T hT X with ⟨v, st₀, t, T', L, h0, X', hL, e1, e2, ⟨⟨r, u, hv, hp, hb⟩, hF⟩, st⟩ | ⟨q, st₀, t, T', L, E, ce, h0, X', hL, e1, e2, ⟨u, hp, hb, hF⟩, hce, hcv, hcl, st⟩
  · cases hv
    obtain ⟨k1, k2, k3⟩ := vx_keep h0 e1 hS hA hf hL hF
    obtain ⟨t2, a1, b1⟩ := kk r u t T'.heap (locs ++ L) e1.symm (by rw [← e2]; exact X'.warmed.alike) hp hb k1 k2 k3 T' rfl X'
    exact ⟨t2, st t2 a1, b1⟩
  · obtain ⟨k1, k2, k3⟩ := vx_keep h0 e1 hS hAX hf hL hF
    obtain ⟨t2, a1, b1⟩ := kx E ce q u t T'.heap (locs ++ L) e1.symm (by rw [← e2]; exact X'.warmed.alike) hp hb k1 k2 k3 (by rw [e1]; exact hce) hcv hcl T' rfl X'
    exact ⟨t2, st.trans a1, b1⟩
theorem vx_callv {S SX : Type} {post : S → Prop} {px : SX → Prop} {B : S → State → Prop} {BX : String → SX → State → Prop} {AX : Nat → Prop} (hr : vx_Run p l e R s m args below meth c H locs cells slots mc ms (F0 m pc ls st0) rest (va_Qv post B A1 a) (vx_X px BX AX) free) (hS : va_S A0 H0 H locs) (hA : ∀ q, q < H.size → A1 q → A0 q) (hf : ∀ q, free q → A0 q) (hAX : ∀ q, q < H.size → AX q → A0 q)
    (kx : ∀ (E : String) (ce : Cell) (q9 : Addr) (u : SX) (t : State) (H1 : Heap) (locs1 : List Loc), t.heap = H1 → s.vm.Alike t.vm → px u → BX E u t → H.size ≤ H1.size → (∀ q : Nat, q < H.size → ¬ AX q → H1[q]? = H[q]?) → va_S A0 H0 H1 locs1 → H1[q9]? = some ce → ce.vm = .none → s.vm.findClass E = some ce.cls → vx_W p l e R s m args below meth c H1 locs1 (cells + mc) (slots + ms) Q (F0 m pc ls rest) q9)
    (kk : ∀ (u : S) (t : State) (H1 : Heap) (locs1 : List Loc), t.heap = H1 → s.vm.Alike t.vm → post u → B u t → H.size ≤ H1.size → (∀ q : Nat, q < H.size → ¬ A1 q → H1[q]? = H[q]?) → va_S A0 H0 H1 locs1 → W p l e R s m args below meth c H1 locs1 (cells + mc) (slots + ms) Q (F0 m (pc + 3) ls (rest))) : W p l e R s m args below meth c H locs cells slots Q (F0 m pc ls st0) := by
  intro T hT X
  rcases hr T hT X with ⟨v, st₀, t, T', L, h0, X', hL, e1, e2, ⟨⟨u, hv, hp, hb⟩, hF⟩, st⟩ | ⟨q, st₀, t, T', L, E, ce, h0, X', hL, e1, e2, ⟨u, hp, hb, hF⟩, hce, hcv, hcl, st⟩
  · cases hv
    obtain ⟨k1, k2, k3⟩ := vx_keep h0 e1 hS hA hf hL hF
    obtain ⟨t2, a1, b1⟩ := kk u t T'.heap (locs ++ L) e1.symm (by rw [← e2]; exact X'.warmed.alike) hp hb k1 k2 k3 T' rfl X'
    exact ⟨t2, st t2 a1, b1⟩
  · obtain ⟨k1, k2, k3⟩ := vx_keep h0 e1 hS hAX hf hL hF
    obtain ⟨t2, a1, b1⟩ := kx E ce q u t T'.heap (locs ++ L) e1.symm (by rw [← e2]; exact X'.warmed.alike) hp hb k1 k2 k3 (by rw [e1]; exact hce) hcv hcl T' rfl X'
    exact ⟨t2, st.trans a1, b1⟩
/-- caught by the row x of this method's table; the rows ahead don't take it -/
theorem vx_catch {own name : String} {E : String} {ce : Cell} {q : Addr} (hown : s.vm.findClass own = some m.cls) (pre : List ExceptionTableEntry) (x : ExceptionTableEntry) (suf : List ExceptionTableEntry) (hsplit : c.exceptionTable.toList = pre ++ x :: suf)
    (hpass : ∀ z ∈ pre, covers z pc = false ∨ (z.catchType ≠ 0 ∧ ∃ nm : String, (Cond.classLink own z.catchType nm).before args s = true ∧ va_Nc E nm s)) (hx : covers x pc = true) (h0 : x.catchType ≠ 0)
    (hlink : (Cond.classLink own x.catchType name).before args s = true) (hcast : (Cond.castable E name).before args s = true) (hcell : H[q]? = some ce) (hv : ce.vm = .none) (hcl : s.vm.findClass E = some ce.cls)
    (kk : W p l e R s m args below meth c H locs cells slots Q (F0 m x.handlerPc ls [.ref q])) : vx_W p l e R s m args below meth c H locs cells slots Q (F0 m pc ls rest) q := by
  intro T hT X
  have hpl : e.platform.magicAccessors = ({} : Platform).magicAccessors := by rw [X.admits.platform]
  obtain ⟨c3, c4, hc3, hc4, hasg⟩ := Cond.castable_spec hcast
  cases Option.some.inj (hc3.symm.trans hcl)
  obtain ⟨c5, hc5, hcl5⟩ := Cond.classLink_spec hown hlink e.platform hpl
  cases Option.some.inj (hc4.symm.trans hc5)
  obtain ⟨vm', X', st⟩ := X.thenCaughtThrough q (g := F0 m pc ls rest) rfl (Steps.refl _) (by rw [hT]; exact hcell) (by rw [hv]; rfl) (by obtain ⟨k9, h9, -⟩ := Vm.findClass_spec hcl; exact ⟨k9, h9⟩) pre x suf hsplit
    (fun z hz => by
      rcases hpass z hz with h | ⟨hz0, nm, hl1, hn1⟩
      · exact Or.inl h
      · obtain ⟨c6, hc6, hcl6⟩ := Cond.classLink_spec hown hl1 e.platform hpl
        obtain ⟨a8, b8, h1, h2, h3⟩ := hn1
        cases Option.some.inj (h1.symm.trans hcl)
        cases Option.some.inj (h2.symm.trans hc6)
        exact Or.inr ⟨hz0, _, hcl6, h3⟩) hx (Or.inr ⟨h0, c4, hcl5, hasg⟩)
  obtain ⟨t, a1, b1⟩ := kk (T.setVm vm') hT X'
  exact ⟨t, st.trans a1, b1⟩
end Rows
section Ends
variable {p : Program} {l : Launch} {e : Env} {R : Room} {s : State} {m : MethodId} {args : Array Value} {below : List Frame} {meth : Method} {c : Code} {H : Heap} {locs : List Loc} {cells slots : Nat} {Q : State → Prop}
variable {mc ms : Nat} {free : Addr → Prop} {A0 A1 : Nat → Prop} {H0 : Heap} {a : Array Value} {ls : Array Slot} {st0 rest : List Value}
variable {Qc : Array Value → State → Outcome → State → Prop} {XC : String → State → State → Prop}
/-- what a body that may throw owes at its end -/
def vx_MQ (below : List Frame) (Qc : Array Value → State → Outcome → State → Prop) (XC : String → State → State → Prop) (a : Array Value) (s : State) (mc ms : Nat) (free : Addr → Prop) : State → Prop := fun t =>
  ∃ o, t.status = .running ∧ Ended t below o ∧ vx_Q Qc XC mc ms free a s o t
theorem vx_ret {g : JFrame} {mc ms : Nat} (k : W p l e R s m args below meth c H locs cells slots (MQ below Qc args s mc ms free) g) : W p l e R s m args below meth c H locs cells slots (vx_MQ below Qc XC args s mc ms free) g := by
  intro T hT X
  obtain ⟨t, a1, o, b1, b2, b3, b4⟩ := k T hT X
  exact ⟨t, a1, o, b1, b2, Or.inl ⟨b3, b4⟩⟩
/-- not caught here: it goes on to the caller -/
theorem vx_widen {g : JFrame} {q : Addr} {k n : Nat} (h1 : cells ≤ k) (h2 : slots ≤ n) (kk : vx_W p l e R s m args below meth c H locs k n Q g q) : vx_W p l e R s m args below meth c H locs cells slots Q g q := fun T hT X => kk T hT (stand_widen X h1 h2)
theorem vx_out {pc : Nat} {E : String} {ce : Cell} {q : Addr} {mc ms : Nat} (hout : ∀ x ∈ c.exceptionTable.toList, covers x pc = false) (hlocks : meth.locks = false) (hcell : H[q]? = some ce) (hv : ce.vm = .none) (hcl : s.vm.findClass E = some ce.cls)
    (hx : ∀ t : State, t.heap = H → s.vm.Alike t.vm → XC E s t) (hf : ∀ z ∈ locs, free z.base) (hc : cells ≤ mc) (hs : slots ≤ ms) :
    vx_W p l e R s m args below meth c H locs cells slots (vx_MQ below Qc XC args s mc ms free) (F0 m pc ls rest) q := by
  intro T hT X
  obtain ⟨st1, hrun, hend, hW, hsm⟩ := X.leaveThrown q (g := F0 m pc ls rest) rfl rfl rfl hout hlocks
  have hcell9 : (T.setFrames (.throwing q :: below)).heap[q]? = some ce := by
    show T.heap[q]? = some ce
    rw [hT]; exact hcell
  exact ⟨_, st1, .threw q, hrun, hend, Or.inr ⟨q, rfl, E, ce, locs, hx _ hT hW.alike, hcell9, hv, hcl, hW, hsm.mono hc hs, hf⟩⟩
theorem vx_frame {U : State} {k n : Nat} (h : s.sameButNew ({ U with vm := s.vm } : State) locs k n) : s.heap.size ≤ U.heap.size ∧ ∀ q : Nat, q < s.heap.size → (∀ z ∈ locs, z.base ≠ q) → U.heap[q]? = s.heap[q]? := by
  obtain ⟨-, h2, -, -, -, h6⟩ := h
  refine ⟨h2, fun q hq hz => ?_⟩
  obtain ⟨c9, e1, e2, e3, e4⟩ := h6 q _ (Array.getElem?_eq_getElem hq)
  have hs : c9.slots = (s.heap[q]).slots := Array.ext_getElem? fun i => e4 i fun hm => hz _ hm rfl
  have h9 : c9 = s.heap[q] := by
    rw [hs] at e2
    exact e2
  have e5 : U.heap[q]? = some c9 := e1
  rw [e5, h9, Array.getElem?_eq_getElem hq]
/-- the words of a throw but the four that speak of the heap -/
def vx_no (w : Cond) : Bool := decide (w ≠ .isRef (.static Bundle.tN "UNASSIGNED_STACK" Bundle.steD)) && decide (w ≠ .isRef (.static Bundle.tN "SUPPRESSED_SENTINEL" Bundle.listD)) && decide (w ≠ .laysStatic Bundle.tN "UNASSIGNED_STACK" Bundle.steD) && decide (w ≠ .laysStatic Bundle.tN "SUPPRESSED_SENTINEL" Bundle.listD)
def vx_at0 (own : String) (ic : Nat) (X : String) (names : List String) : List Cond := (Bundle.ownAtoms0 own ic X names).filter vx_no
def vx_atS (own : String) (ic : Nat) (X : String) (names : List String) : List Cond := (Bundle.ownAtoms own ic X names).filter vx_no
/-- a word that the tables alone decide, or a good one -/
def vx_ot (w : Cond) : Bool := w.onTables || goodWord w
theorem vx_ot_at {args a' : Array Value} {s U : State} {w : Cond} (hW : s.WarmedH U.vm) (hvm : s.vm = U.vm) (hg : vx_ot w = true) (h : w.before args s = true) : w.before a' U = true := by
  simp only [vx_ot, Bool.or_eq_true] at hg
  rcases hg with hg | hg
  · exact va_tabs hg hvm h
  · exact word_at hW (good_of_word hg) h
/-- a list's words: the good ones out of the method's own list, the others by premises of their own -/
theorem vx_hat {args : Array Value} {s : State} {L B : List Cond} (h1 : ∀ w ∈ L.filter goodWord, w.before args s = true) (h2 : ∀ w ∈ L.filter (fun w => !goodWord w), w ∈ B) (h3 : ∀ w ∈ B, w.before args s = true) : ∀ w ∈ L, w.before args s = true := by
  intro w hw
  by_cases g : goodWord w = true
  · exact h1 w (List.mem_filter.mpr ⟨hw, g⟩)
  · refine h3 w (h2 w (List.mem_filter.mpr ⟨hw, ?_⟩))
    show (!goodWord w) = true
    cases hgw : goodWord w
    · rfl
    · exact absurd hgw g
theorem vx_c {args : Array Value} {s : State} {w : Cond} {B : List Cond} (h : w.before args s = true) (t : ∀ w ∈ B, w.before args s = true) : ∀ w' ∈ w :: B, w'.before args s = true := fun w' h' => (List.mem_cons.mp h').elim (fun e => by rw [e]; exact h) (t w')
theorem vx_n {args : Array Value} {s : State} : ∀ w ∈ ([] : List Cond), w.before args s = true := fun _ h => nomatch h
theorem vx_own {args : Array Value} {s : State} {L : List Cond} (h1 : ∀ w ∈ L.filter vx_no, w.before args s = true)
    (hU : (Cond.isRef (.static Bundle.tN "UNASSIGNED_STACK" Bundle.steD)).before args s = true) (hN : (Cond.isRef (.static Bundle.tN "SUPPRESSED_SENTINEL" Bundle.listD)).before args s = true)
    (lU : (Cond.laysStatic Bundle.tN "UNASSIGNED_STACK" Bundle.steD).before args s = true) (lN : (Cond.laysStatic Bundle.tN "SUPPRESSED_SENTINEL" Bundle.listD).before args s = true) : ∀ w ∈ L, w.before args s = true := by
  intro w hw
  by_cases e1 : w = .isRef (.static Bundle.tN "UNASSIGNED_STACK" Bundle.steD)
  · rw [e1]; exact hU
  · by_cases e2 : w = .isRef (.static Bundle.tN "SUPPRESSED_SENTINEL" Bundle.listD)
    · rw [e2]; exact hN
    · by_cases e3 : w = .laysStatic Bundle.tN "UNASSIGNED_STACK" Bundle.steD
      · rw [e3]; exact lU
      · by_cases e4 : w = .laysStatic Bundle.tN "SUPPRESSED_SENTINEL" Bundle.listD
        · rw [e4]; exact lN
        · exact h1 w (List.mem_filter.mpr ⟨hw, by unfold vx_no; rw [decide_eq_true e1, decide_eq_true e2, decide_eq_true e3, decide_eq_true e4]; rfl⟩)
/-- where a static field lies, its class's statics cell in H -/
def vx_L (C n d : String) (A : Nat → Prop) (U : State) (H : Heap) : Prop := ∃ (c : ClassId) (k : Class) (i : Nat) (f : Field) (a : Nat) (cell : Cell), U.vm.findClass C = some c ∧ U.fieldFound? C n d = some (c, k, i, f) ∧ f.isStatic = true ∧ k.statics = some a ∧ H[a]? = some cell ∧ cell.vm.isStatics = true ∧ cell.cls = c ∧ f.slot < cell.slots.size ∧ k.staticTypes[f.slot]? = some f.type ∧ ¬ A a
theorem vx_L.moved {C n d : String} {A : Nat → Prop} {u U : State} {H : Heap} (hvm : u.vm.Alike U.vm) (h : vx_L C n d A u H) : vx_L C n d A U H := by
  obtain ⟨c, k, i, f, a, cell, h1, h2, h3, h4, h5, h6, h7, h8, h9, h10⟩ := h
  obtain ⟨k', hi', he⟩ := State.fieldFound?_setVm hvm h2
  exact ⟨c, k', i, f, a, cell, by rw [hvm.findClass]; exact h1, hi', h3, by rw [he]; exact h4, h5, h6, h7, h8, by rw [he]; exact h9, h10⟩
theorem vx_L.kept {C n d : String} {A : Nat → Prop} {U : State} {H H1 : Heap} (h : vx_L C n d A U H) (hq : ∀ a : Nat, a < H.size → ¬ A a → H1[a]? = H[a]?) : vx_L C n d A U H1 := by
  obtain ⟨c, k, i, f, a, cell, h1, h2, h3, h4, h5, h6, h7, h8, h9, h10⟩ := h
  exact ⟨c, k, i, f, a, cell, h1, h2, h3, h4, by rw [hq a (Array.getElem?_eq_some_iff.mp h5).1 h10]; exact h5, h6, h7, h8, h9, h10⟩
theorem vx_L.narrow {C n d : String} {A B : Nat → Prop} {U : State} {H : Heap} (h : vx_L C n d A U H) (hAB : ∀ q, B q → A q) : vx_L C n d B U H := by
  obtain ⟨c, k, i, f, a, cell, h1, h2, h3, h4, h5, h6, h7, h8, h9, h10⟩ := h
  exact ⟨c, k, i, f, a, cell, h1, h2, h3, h4, h5, h6, h7, h8, h9, fun z => h10 (hAB _ z)⟩
theorem vx_L.word {C n d : String} {A : Nat → Prop} {s : State} {args : Array Value} (h : vx_L C n d A s s.heap) : (Cond.laysStatic C n d).before args s = true := by
  obtain ⟨c, k, i, f, a, cell, h1, h2, h3, h4, h5, h6, h7, h8, h9, -⟩ := h
  show (Cond.laysStatic C n d).holds args s none s [] = true
  exact Cond.laysStatic_of h1 h2 h3 h4 h5 h6 h7 h8 h9
/-- .. and what it holds: null or some reference -/
def vx_Zq (C n d : String) (A : Nat → Prop) (U : State) (H : Heap) : Prop := va_Zq C n d A U H ∧ vx_L C n d A U H
theorem vx_Zq.moved {C n d : String} {A : Nat → Prop} {u U : State} {H : Heap} (hvm : u.vm.Alike U.vm) (h : vx_Zq C n d A u H) : vx_Zq C n d A U H := ⟨va_Zq.moved hvm h.1, vx_L.moved hvm h.2⟩
theorem vx_Zq.kept {C n d : String} {A : Nat → Prop} {U : State} {H H1 : Heap} (h : vx_Zq C n d A U H) (hq : ∀ a : Nat, a < H.size → ¬ A a → H1[a]? = H[a]?) : vx_Zq C n d A U H1 := ⟨va_Zq.kept h.1 hq, vx_L.kept h.2 hq⟩
theorem vx_Zq.narrow {C n d : String} {A B : Nat → Prop} {U : State} {H : Heap} (h : vx_Zq C n d A U H) (hAB : ∀ q, B q → A q) : vx_Zq C n d B U H := ⟨va_Zq.narrow h.1 hAB, vx_L.narrow h.2 hAB⟩
theorem vx_Zqof {args : Array Value} {s : State} {C n d : String} {A : Nat → Prop} (hl : (Cond.laysStatic C n d).before args s = true) (hini : (Cond.initialized C).before args s = true) (h : (Cond.isRef (.static C n d)).before args s = true) (hA : ∀ a : Nat, a < s.heap.size → ¬ A a) : vx_Zq C n d A s s.heap := by
  refine ⟨va_Zqof hl hini h hA, ?_⟩
  obtain ⟨c, k, i, f, a, cell, h1, h2, h3, h4, h5, h6, h7, h8, h9⟩ := Cond.laysStatic_spec hl
  exact ⟨c, k, i, f, a, cell, h1, h2, h3, h4, h5, h6, h7, h8, h9, hA a (Array.getElem?_eq_some_iff.mp h5).1⟩
theorem vx_isRef {C n d : String} {v : Value} {A : Nat → Prop} {s : State} {args : Array Value} (h : va_Z C n d v A s s.heap) (hv : v.isRef = true) : (Cond.isRef (.static C n d)).before args s = true := by
  obtain ⟨cf, kf, fi, f, a, cell, h1, h2, h3, h4, h5, h6, h7, -⟩ := h
  have he : (Term.static C n d).eval args s none [] s = some v := by
    simp [Term.eval, State.fieldNamed?, h1, h2, h4, h5, h6, h7]
  simp only [Cond.before, Cond.holds, Cond.value, he]
  cases v <;> simp_all [Value.isRef]
theorem vx_isRefq {C n d : String} {A : Nat → Prop} {s : State} {args : Array Value} (h : va_Zq C n d A s s.heap) : (Cond.isRef (.static C n d)).before args s = true := by
  rcases h with h | ⟨t, h⟩
  · exact vx_isRef h rfl
  · exact vx_isRef h rfl
/-- the same frame, seen from here: as if the method were called anew in this heap -/
theorem vx_rebase {T : State} (X : Stand p l e R s m args below meth c T locs cells slots) {R' : Room} (hf : R'.frames ≤ R.frames) (hl : R'.locals ≤ R.locals) (hc : cells + R'.cells ≤ R.cells) (hs : slots + R'.slots ≤ R.slots) :
    Stand p l e R' ((T.setVm s.vm).setFrames (.invoking m args :: below)) m args below meth c T [] 0 0 := by
  have htop : (T.setVm s.vm).topJava?.isSome := X.here.top
  have hF : ((T.setVm s.vm).setFrames (.invoking m args :: below)).frames = .invoking m args :: below := State.frames_setFrames _ (State.cur_lt_of_top htop)
  obtain ⟨g₀, hg0⟩ := Option.isSome_iff_exists.mp htop
  obtain ⟨r, hr⟩ := State.topJava?_eq_some.mp hg0
  have hl9 : e.platform.stackLimits (T.setVm s.vm).me = e.platform.stackLimits s.me := X.limits
  have hb9 : (T.setVm s.vm).me.stackBytes = s.me.stackBytes := X.bytes
  refine ⟨X.admits, X.cas, X.clock, hF, ?_, X.hears, X.method, X.code, X.here, X.tail, X.warmed, ?_, ?_, ?_⟩
  · have h := X.room
    have hU : ((T.setVm s.vm).setFrames (.invoking m args :: below)).localsInUse = s.localsInUse := by
      rw [State.localsInUse_invoking hF (meth := meth) (c := c) X.method X.code, State.localsInUse_invoking X.frames X.method X.code]
    simp only [State.hasRoom, Bool.and_eq_true, decide_eq_true_eq] at h ⊢
    obtain ⟨⟨⟨⟨h1, h2, h3, h4, h5, h6⟩, h7⟩, h8⟩, h9⟩ := h
    rw [X.frames, List.length_cons] at h2 h3
    have q1 := X.heapSize
    have q2 := X.used
    simp only [hF, hU, List.length_cons, State.stackLimits_setFrames, State.stackBytes_setFrames, hl9, hb9]
    refine ⟨⟨⟨⟨by omega, by omega, by omega, by omega, by omega, h6⟩, ?_⟩, ?_⟩, X.book⟩
    · show T.heap.size + R'.cells ≤ e.platform.maxCells
      omega
    · show T.slotsUsed + R'.slots ≤ e.platform.maxSlots
      omega
  · rw [State.stackLimits_setFrames]; rfl
  · rw [State.stackBytes_setFrames]; rfl
  · refine ⟨?_, Nat.le_refl _, Nat.le_refl _, ?_, ?_, fun a c9 h9 => ⟨c9, h9, rfl, rfl, fun _ _ => rfl⟩⟩
    · obtain ⟨t, ht, -⟩ := State.frames_cons hr
      show T.setVm s.vm = { ((T.setVm s.vm).setFrames (.invoking m args :: below)).setFrames (T.setVm s.vm).frames with heap := T.heap, slotsUsed := T.slotsUsed }
      rw [State.setFrames_setFrames, State.setFrames_self ht]
      rfl
    · show T.slotsUsed = T.slotsUsed + ((T.heap.toList.drop T.heap.size).map (·.slots.size)).sum
      rw [List.drop_eq_nil_of_le (Nat.le_of_eq Array.length_toList)]
      rfl
    · show ((T.heap.toList.drop T.heap.size).map (·.slots.size)).sum ≤ 0
      rw [List.drop_eq_nil_of_le (Nat.le_of_eq Array.length_toList)]
      exact Nat.le_refl _
/-- 'throw new E()': new; dup; invokespecial; athrow -/
theorem vx_throw0 {cc : ByteArray} {pc : Nat} (hexec : p.tables.exec = Jvm.exec) (hb : c.code = cc) (hl : l.stackTraces = false) {own cls : String} {names : List String} {ik ic mc ms : Nat} {A : Nat → Prop}
    (hown : s.vm.findClass own = some m.cls) (hcls : Bundle.fit cls = true) (hnames : ∀ n ∈ names, Bundle.fit n = true)
    (hk : (Cond.classLink own ik cls).before args s = true) (hini : (Cond.initialized cls).before args s = true) (hat : ∀ w ∈ vx_at0 own ic cls names, w.before args s = true)
    (hgood : ∀ w ∈ Cond.classLink own ik cls :: Cond.initialized cls :: vx_at0 own ic cls names, vx_ot w = true)
    (hU : vx_Zq Bundle.tN "UNASSIGNED_STACK" Bundle.steD A s s.heap) (hN : vx_Zq Bundle.tN "SUPPRESSED_SENTINEL" Bundle.listD A s s.heap) (hS : va_S A s.heap H locs) (hsize : ls.size = c.maxLocals)
    (d0 : decode cc pc = .ok (.new ik, 3)) (d3 : decode cc (pc + 3) = .ok (.dup, 1)) (d4 : decode cc (pc + 4) = .ok (.invokespecial ic, 3)) (d7 : decode cc (pc + 7) = .ok (.athrow, 1))
    (hout : ∀ x ∈ c.exceptionTable.toList, covers x (pc + 7) = false)
    (hRframes : names.length + 3 < R.frames) (hRlocals : (rest.map fun v => v.category).sum + (13 * (names.length + 1) + 42) ≤ R.locals) (hRcells : cells + 1 ≤ R.cells) (hRslots : slots + 6 ≤ R.slots) (hlocks : meth.locks = false)
    (hx : ∀ t : State, s.vm.Alike t.vm → H.size ≤ t.heap.size → (∀ q : Nat, q < H.size → t.heap[q]? = H[q]?) → XC cls s t)
    (hf : ∀ z ∈ locs, free z.base) (hc : cells + 1 ≤ mc) (hs : slots + 6 ≤ ms) :
    W p l e R s m args below meth c H locs cells slots (vx_MQ below Qc XC args s mc ms free) (F0 m pc ls rest) := by
  intro T hT X
  have htr : e.platform.stackTraces = false := (show e.platform.stackTraces = l.stackTraces by rw [X.admits.platform]).trans hl
  have Y := vx_rebase X (R' := { frames := R.frames, locals := R.locals, cells := 1, slots := 6 }) (Nat.le_refl _) (Nat.le_refl _) hRcells hRslots
  obtain ⟨s', hA⟩ : ∃ z, z = (T.setVm s.vm).setFrames (.invoking m args :: below) := ⟨_, rfl⟩
  rw [← hA] at Y
  have hvm : s'.vm = s.vm := by rw [hA]; rfl
  have hhp : s'.heap = H := by rw [hA]; exact hT
  have hW0 : s.WarmedH s'.vm := by rw [hvm]; exact State.WarmedH.refl s
  have hat' : ∀ w ∈ vx_at0 own ic cls names, w.before args s' = true := fun w hw => vx_ot_at hW0 hvm.symm (hgood w (List.mem_cons_of_mem _ (List.mem_cons_of_mem _ hw))) (hat w hw)
  have hk' : (Cond.classLink own ik cls).before args s' = true := vx_ot_at hW0 hvm.symm (hgood _ List.mem_cons_self) hk
  have hini' : (Cond.initialized cls).before args s' = true := vx_ot_at hW0 hvm.symm (hgood _ (List.mem_cons_of_mem _ List.mem_cons_self)) hini
  have hU' : vx_Zq Bundle.tN "UNASSIGNED_STACK" Bundle.steD A s' s'.heap := by rw [hhp]; exact vx_Zq.moved hW0.alike (hU.kept hS.2.1)
  have hN' : vx_Zq Bundle.tN "SUPPRESSED_SENTINEL" Bundle.listD A s' s'.heap := by rw [hhp]; exact vx_Zq.moved hW0.alike (hN.kept hS.2.1)
  have h : ∀ w ∈ Bundle.ownAtoms0 own ic cls names, w.before args s' = true := vx_own hat' (vx_isRefq hU'.1) (vx_isRefq hN'.1) hU'.2.word hN'.2.word
  have hown' : s'.vm.findClass own = some m.cls := by rw [hvm]; exact hown
  have hins : (Cond.instantiable cls 6).before args s' = true := h _ (by simp [Bundle.ownAtoms0])
  obtain ⟨vm₁, cX, kX, hfX, hkX, -, -, X₁, st1⟩ := Y.newCold hexec (own := own) (C := cls) (index := ik) (n := 6) hown' hk' hins hini'
    (g := F0 m pc ls rest) rfl (by rw [hb]; exact d0) (Nat.le_refl _) (Nat.le_refl _)
  generalize hT1 : (T.setVm vm₁).pushCell { cls := cX, slots := kX.instanceTypes.map defaultValue, vm := .none } = T1 at X₁ st1
  have hcat : (Value.ref T.heap.size).category = 1 := rfl
  have hcellA : T1.heap[T.heap.size]? = some (freshCell cX kX) := by rw [← hT1]; exact State.heap_pushCell_size _ _
  have d3' : decode c.code (pc + 3) = .ok (.dup, 1) := by rw [hb]; exact d3
  obtain ⟨U, hsteps, hrun, hend, hW, hsame, ce, hce, hO⟩ := X₁.ctorThrow0 hexec htr (own := own) (cls := cls) (names := names) (ic := ic) hown' hcls hnames h (fun x hx => nomatch hx) hfX hkX hcellA (by rw [hhp, hT]; exact Nat.le_refl _)
    (g := { method := m, pc := pc + 4, locals := ls, stack := .ref T.heap.size :: .ref T.heap.size :: rest, locked := none }) rfl hsize rfl rfl (rest := rest) rfl
    (by rw [hb]; exact d4) (by rw [hb]; exact d7) hout hRframes (by simp only [List.map_cons, List.sum_cons, hcat]; omega) hlocks
  obtain ⟨f1, f2⟩ := vx_frame hsame
  rw [hhp] at f1 f2
  have hWs : s.WarmedH U.vm := State.WarmedH.trans hW0 hW
  have hcl : s.vm.findClass cls = some ce.cls := by
    have h9 := hO.cls
    rw [hvm] at h9
    exact h9
  have hall : s.sameButNew ({ U with vm := s.vm } : State) locs mc ms := by
    subst hA
    obtain ⟨e1, e2⟩ := hsame
    rw [State.setFrames_setFrames] at e1
    have h2 : (T.setVm s.vm).sameButNew ({ U with vm := s.vm } : State) [] (0 + 1) (0 + 6) := ⟨e1, e2⟩
    have h3 := X.same.trans h2
    rw [List.append_nil] at h3
    exact h3.mono hc hs
  refine ⟨U, ?_, .threw T.heap.size, hrun, hend, Or.inr ⟨T.heap.size, rfl, cls, ce, locs, hx U hWs.alike f1 (fun q hq => f2 q hq (fun z hz => nomatch hz)), hce, hO.vm, hcl, hWs, hall, hf⟩⟩
  refine st1 _ ?_
  show Steps p.tables e below (T1.setTop { method := m, pc := pc + 3, locals := ls, stack := .ref T.heap.size :: rest, locked := none }) _
  jvm_step X₁.here [X₁.here.top, hexec, d3', Value.category]
  exact hsteps
/-- 'throw new E("text")': new; dup; ldc; invokespecial; athrow -/
theorem vx_throwS {cc : ByteArray} {pc : Nat} (hexec : p.tables.exec = Jvm.exec) (hb : c.code = cc) (hl : l.stackTraces = false) {own cls text : String} {names : List String} {ik is ic mc ms sa : Nat} {A : Nat → Prop}
    (hown : s.vm.findClass own = some m.cls) (hcls : Bundle.fit cls = true) (hnames : ∀ n ∈ names, Bundle.fit n = true)
    (hk : (Cond.classLink own ik cls).before args s = true) (hini : (Cond.initialized cls).before args s = true) (hstr : vk_R own is text sa s) (hat : ∀ w ∈ vx_atS own ic cls names, w.before args s = true)
    (hgood : ∀ w ∈ Cond.classLink own ik cls :: Cond.initialized cls :: vx_atS own ic cls names, vx_ot w = true)
    (hU : vx_Zq Bundle.tN "UNASSIGNED_STACK" Bundle.steD A s s.heap) (hN : vx_Zq Bundle.tN "SUPPRESSED_SENTINEL" Bundle.listD A s s.heap) (hS : va_S A s.heap H locs) (hsize : ls.size = c.maxLocals)
    (d0 : decode cc pc = .ok (.new ik, 3)) (d3 : decode cc (pc + 3) = .ok (.dup, 1)) (d4 : decode cc (pc + 4) = .ok (.ldc is, 2)) (d6 : decode cc (pc + 6) = .ok (.invokespecial ic, 3)) (d9 : decode cc (pc + 9) = .ok (.athrow, 1))
    (hout : ∀ x ∈ c.exceptionTable.toList, covers x (pc + 9) = false)
    (hRframes : names.length + 3 < R.frames) (hRlocals : (rest.map fun v => v.category).sum + (13 * (names.length + 1) + 43) ≤ R.locals) (hRcells : cells + 1 ≤ R.cells) (hRslots : slots + 6 ≤ R.slots) (hlocks : meth.locks = false)
    (hx : ∀ t : State, s.vm.Alike t.vm → H.size ≤ t.heap.size → (∀ q : Nat, q < H.size → t.heap[q]? = H[q]?) → XC cls s t)
    (hf : ∀ z ∈ locs, free z.base) (hc : cells + 1 ≤ mc) (hs : slots + 6 ≤ ms) :
    W p l e R s m args below meth c H locs cells slots (vx_MQ below Qc XC args s mc ms free) (F0 m pc ls rest) := by
  intro T hT X
  have htr : e.platform.stackTraces = false := (show e.platform.stackTraces = l.stackTraces by rw [X.admits.platform]).trans hl
  have Y := vx_rebase X (R' := { frames := R.frames, locals := R.locals, cells := 1, slots := 6 }) (Nat.le_refl _) (Nat.le_refl _) hRcells hRslots
  obtain ⟨s', hA⟩ : ∃ z, z = (T.setVm s.vm).setFrames (.invoking m args :: below) := ⟨_, rfl⟩
  rw [← hA] at Y
  have hvm : s'.vm = s.vm := by rw [hA]; rfl
  have hhp : s'.heap = H := by rw [hA]; exact hT
  have hW0 : s.WarmedH s'.vm := by rw [hvm]; exact State.WarmedH.refl s
  have hat' : ∀ w ∈ vx_atS own ic cls names, w.before args s' = true := fun w hw => vx_ot_at hW0 hvm.symm (hgood w (List.mem_cons_of_mem _ (List.mem_cons_of_mem _ hw))) (hat w hw)
  have hk' : (Cond.classLink own ik cls).before args s' = true := vx_ot_at hW0 hvm.symm (hgood _ List.mem_cons_self) hk
  have hini' : (Cond.initialized cls).before args s' = true := vx_ot_at hW0 hvm.symm (hgood _ (List.mem_cons_of_mem _ List.mem_cons_self)) hini
  have hU' : vx_Zq Bundle.tN "UNASSIGNED_STACK" Bundle.steD A s' s'.heap := by rw [hhp]; exact vx_Zq.moved hW0.alike (hU.kept hS.2.1)
  have hN' : vx_Zq Bundle.tN "SUPPRESSED_SENTINEL" Bundle.listD A s' s'.heap := by rw [hhp]; exact vx_Zq.moved hW0.alike (hN.kept hS.2.1)
  have h : ∀ w ∈ Bundle.ownAtoms own ic cls names, w.before args s' = true := vx_own hat' (vx_isRefq hU'.1) (vx_isRefq hN'.1) hU'.2.word hN'.2.word
  have hown' : s'.vm.findClass own = some m.cls := by rw [hvm]; exact hown
  have hins : (Cond.instantiable cls 6).before args s' = true := h _ (by simp [Bundle.ownAtoms])
  obtain ⟨vm₁, cX, kX, hfX, hkX, -, -, X₁, st1⟩ := Y.newCold hexec (own := own) (C := cls) (index := ik) (n := 6) hown' hk' hins hini'
    (g := F0 m pc ls rest) rfl (by rw [hb]; exact d0) (Nat.le_refl _) (Nat.le_refl _)
  generalize hT1 : (T.setVm vm₁).pushCell { cls := cX, slots := kX.instanceTypes.map defaultValue, vm := .none } = T1 at X₁ st1
  have hcat : (Value.ref T.heap.size).category = 1 := rfl
  have hcellA : T1.heap[T.heap.size]? = some (freshCell cX kX) := by rw [← hT1]; exact State.heap_pushCell_size _ _
  have d3' : decode c.code (pc + 3) = .ok (.dup, 1) := by rw [hb]; exact d3
  have d4' : decode c.code (pc + 4) = .ok (.ldc is, 2) := by rw [hb]; exact d4
  have hstr' : vk_R own is text sa s' := vk_R.warm hW0 hstr
  obtain ⟨U, hsteps, hrun, hend, hW, hsame, ce, hce, hO⟩ := X₁.ctorThrowS hexec htr (own := own) (cls := cls) (names := names) (ic := ic) hown' hcls hnames h (fun x hx => nomatch hx) hfX hkX hcellA (by rw [hhp, hT]; exact Nat.le_refl _) (msg := .ref sa) rfl
    (g := { method := m, pc := pc + 6, locals := ls, stack := .ref sa :: .ref T.heap.size :: .ref T.heap.size :: rest, locked := none }) rfl hsize rfl rfl (rest := rest) rfl
    (by rw [hb]; exact d6) (by rw [hb]; exact d9) hout hRframes (by simp only [List.map_cons, List.sum_cons, hcat]; omega) hlocks
  obtain ⟨f1, f2⟩ := vx_frame hsame
  rw [hhp] at f1 f2
  have hWs : s.WarmedH U.vm := State.WarmedH.trans hW0 hW
  have hcl : s.vm.findClass cls = some ce.cls := by
    have h9 := hO.cls
    rw [hvm] at h9
    exact h9
  have hall : s.sameButNew ({ U with vm := s.vm } : State) locs mc ms := by
    subst hA
    obtain ⟨e1, e2⟩ := hsame
    rw [State.setFrames_setFrames] at e1
    have h2 : (T.setVm s.vm).sameButNew ({ U with vm := s.vm } : State) [] (0 + 1) (0 + 6) := ⟨e1, e2⟩
    have h3 := X.same.trans h2
    rw [List.append_nil] at h3
    exact h3.mono hc hs
  refine ⟨U, ?_, .threw T.heap.size, hrun, hend, Or.inr ⟨T.heap.size, rfl, cls, ce, locs, hx U hWs.alike f1 (fun q hq => f2 q hq (fun z hz => nomatch hz)), hce, hO.vm, hcl, hWs, hall, hf⟩⟩
  refine st1 _ ?_
  show Steps p.tables e below (T1.setTop { method := m, pc := pc + 3, locals := ls, stack := .ref T.heap.size :: rest, locked := none }) _
  jvm_step X₁.here [X₁.here.top, hexec, d3', Value.category]
  exact X₁.ldcString hexec (own := own) (text := text) (index := is) (a := sa) hown' hstr'.1 hstr'.2
    (g := { method := m, pc := pc + 4, locals := ls, stack := .ref T.heap.size :: .ref T.heap.size :: rest, locked := none }) rfl d4' _ hsteps
/-- 'throw new E("text")', the text by a wide index -/
theorem vx_throwSW {cc : ByteArray} {pc : Nat} (hexec : p.tables.exec = Jvm.exec) (hb : c.code = cc) (hl : l.stackTraces = false) {own cls text : String} {names : List String} {ik is ic mc ms sa : Nat} {A : Nat → Prop}
    (hown : s.vm.findClass own = some m.cls) (hcls : Bundle.fit cls = true) (hnames : ∀ n ∈ names, Bundle.fit n = true)
    (hk : (Cond.classLink own ik cls).before args s = true) (hini : (Cond.initialized cls).before args s = true) (hstr : vk_R own is text sa s) (hat : ∀ w ∈ vx_atS own ic cls names, w.before args s = true)
    (hgood : ∀ w ∈ Cond.classLink own ik cls :: Cond.initialized cls :: vx_atS own ic cls names, vx_ot w = true)
    (hU : vx_Zq Bundle.tN "UNASSIGNED_STACK" Bundle.steD A s s.heap) (hN : vx_Zq Bundle.tN "SUPPRESSED_SENTINEL" Bundle.listD A s s.heap) (hS : va_S A s.heap H locs) (hsize : ls.size = c.maxLocals)
    (d0 : decode cc pc = .ok (.new ik, 3)) (d3 : decode cc (pc + 3) = .ok (.dup, 1)) (d4 : decode cc (pc + 4) = .ok (.ldc_w is, 3)) (d7 : decode cc (pc + 7) = .ok (.invokespecial ic, 3)) (d10 : decode cc (pc + 10) = .ok (.athrow, 1))
    (hout : ∀ x ∈ c.exceptionTable.toList, covers x (pc + 10) = false)
    (hRframes : names.length + 3 < R.frames) (hRlocals : (rest.map fun v => v.category).sum + (13 * (names.length + 1) + 43) ≤ R.locals) (hRcells : cells + 1 ≤ R.cells) (hRslots : slots + 6 ≤ R.slots) (hlocks : meth.locks = false)
    (hx : ∀ t : State, s.vm.Alike t.vm → H.size ≤ t.heap.size → (∀ q : Nat, q < H.size → t.heap[q]? = H[q]?) → XC cls s t)
    (hf : ∀ z ∈ locs, free z.base) (hc : cells + 1 ≤ mc) (hs : slots + 6 ≤ ms) :
    W p l e R s m args below meth c H locs cells slots (vx_MQ below Qc XC args s mc ms free) (F0 m pc ls rest) := by
  intro T hT X
  have htr : e.platform.stackTraces = false := (show e.platform.stackTraces = l.stackTraces by rw [X.admits.platform]).trans hl
  have Y := vx_rebase X (R' := { frames := R.frames, locals := R.locals, cells := 1, slots := 6 }) (Nat.le_refl _) (Nat.le_refl _) hRcells hRslots
  obtain ⟨s', hA⟩ : ∃ z, z = (T.setVm s.vm).setFrames (.invoking m args :: below) := ⟨_, rfl⟩
  rw [← hA] at Y
  have hvm : s'.vm = s.vm := by rw [hA]; rfl
  have hhp : s'.heap = H := by rw [hA]; exact hT
  have hW0 : s.WarmedH s'.vm := by rw [hvm]; exact State.WarmedH.refl s
  have hat' : ∀ w ∈ vx_atS own ic cls names, w.before args s' = true := fun w hw => vx_ot_at hW0 hvm.symm (hgood w (List.mem_cons_of_mem _ (List.mem_cons_of_mem _ hw))) (hat w hw)
  have hk' : (Cond.classLink own ik cls).before args s' = true := vx_ot_at hW0 hvm.symm (hgood _ List.mem_cons_self) hk
  have hini' : (Cond.initialized cls).before args s' = true := vx_ot_at hW0 hvm.symm (hgood _ (List.mem_cons_of_mem _ List.mem_cons_self)) hini
  have hU' : vx_Zq Bundle.tN "UNASSIGNED_STACK" Bundle.steD A s' s'.heap := by rw [hhp]; exact vx_Zq.moved hW0.alike (hU.kept hS.2.1)
  have hN' : vx_Zq Bundle.tN "SUPPRESSED_SENTINEL" Bundle.listD A s' s'.heap := by rw [hhp]; exact vx_Zq.moved hW0.alike (hN.kept hS.2.1)
  have h : ∀ w ∈ Bundle.ownAtoms own ic cls names, w.before args s' = true := vx_own hat' (vx_isRefq hU'.1) (vx_isRefq hN'.1) hU'.2.word hN'.2.word
  have hown' : s'.vm.findClass own = some m.cls := by rw [hvm]; exact hown
  have hins : (Cond.instantiable cls 6).before args s' = true := h _ (by simp [Bundle.ownAtoms])
  obtain ⟨vm₁, cX, kX, hfX, hkX, -, -, X₁, st1⟩ := Y.newCold hexec (own := own) (C := cls) (index := ik) (n := 6) hown' hk' hins hini'
    (g := F0 m pc ls rest) rfl (by rw [hb]; exact d0) (Nat.le_refl _) (Nat.le_refl _)
  generalize hT1 : (T.setVm vm₁).pushCell { cls := cX, slots := kX.instanceTypes.map defaultValue, vm := .none } = T1 at X₁ st1
  have hcat : (Value.ref T.heap.size).category = 1 := rfl
  have hcellA : T1.heap[T.heap.size]? = some (freshCell cX kX) := by rw [← hT1]; exact State.heap_pushCell_size _ _
  have d3' : decode c.code (pc + 3) = .ok (.dup, 1) := by rw [hb]; exact d3
  have d4' : decode c.code (pc + 4) = .ok (.ldc_w is, 3) := by rw [hb]; exact d4
  have hstr' : vk_R own is text sa s' := vk_R.warm hW0 hstr
  obtain ⟨U, hsteps, hrun, hend, hW, hsame, ce, hce, hO⟩ := X₁.ctorThrowS hexec htr (own := own) (cls := cls) (names := names) (ic := ic) hown' hcls hnames h (fun x hx => nomatch hx) hfX hkX hcellA (by rw [hhp, hT]; exact Nat.le_refl _) (msg := .ref sa) rfl
    (g := { method := m, pc := pc + 7, locals := ls, stack := .ref sa :: .ref T.heap.size :: .ref T.heap.size :: rest, locked := none }) rfl hsize rfl rfl (rest := rest) rfl
    (by rw [hb]; exact d7) (by rw [hb]; exact d10) hout hRframes (by simp only [List.map_cons, List.sum_cons, hcat]; omega) hlocks
  obtain ⟨f1, f2⟩ := vx_frame hsame
  rw [hhp] at f1 f2
  have hWs : s.WarmedH U.vm := State.WarmedH.trans hW0 hW
  have hcl : s.vm.findClass cls = some ce.cls := by
    have h9 := hO.cls
    rw [hvm] at h9
    exact h9
  have hall : s.sameButNew ({ U with vm := s.vm } : State) locs mc ms := by
    subst hA
    obtain ⟨e1, e2⟩ := hsame
    rw [State.setFrames_setFrames] at e1
    have h2 : (T.setVm s.vm).sameButNew ({ U with vm := s.vm } : State) [] (0 + 1) (0 + 6) := ⟨e1, e2⟩
    have h3 := X.same.trans h2
    rw [List.append_nil] at h3
    exact h3.mono hc hs
  refine ⟨U, ?_, .threw T.heap.size, hrun, hend, Or.inr ⟨T.heap.size, rfl, cls, ce, locs, hx U hWs.alike f1 (fun q hq => f2 q hq (fun z hz => nomatch hz)), hce, hO.vm, hcl, hWs, hall, hf⟩⟩
  refine st1 _ ?_
  show Steps p.tables e below (T1.setTop { method := m, pc := pc + 3, locals := ls, stack := .ref T.heap.size :: rest, locked := none }) _
  jvm_step X₁.here [X₁.here.top, hexec, d3', Value.category]
  exact X₁.ldcStringW hexec (own := own) (text := text) (index := is) (a := sa) hown' hstr'.1 hstr'.2
    (g := { method := m, pc := pc + 4, locals := ls, stack := .ref T.heap.size :: .ref T.heap.size :: rest, locked := none }) rfl d4' _ hsteps
end Ends
section Bodies
variable {l : Launch}
theorem vx_ofW {y : MethodName} {ws ws' : List Cond} {rm : Room} {Pc : Array Value → State → Prop} {Qc : Array Value → State → Outcome → State → Prop} {XC : String → State → State → Prop} {mc ms : Nat} {free : Addr → Prop} {cc : ByteArray} {maxL : Nat} {ret : Option FieldType}
    (hy : plainName y.cls = true) (hw : ws = Cond.code y cc maxL ret :: ws')
    (body : ∀ p e s m args below meth c s₁, BodyLoose p l y (headSpec ws rm) cc maxL ret e s m args below meth c s₁ → c.maxLocals = maxL → (∀ x ∈ c.exceptionTable.toList, False) → Pc args s →
      W p l e (headSpec ws rm).room s m args below meth c s.heap [] 0 0 (vx_MQ below Qc XC args s mc ms free) (entryFrame m args maxL)) : vx_Met l y ws rm Pc Qc XC mc ms free := by
  refine MetFree.of_bodyS (code := cc) (maxLocals := maxL) (ret := ret) hy ?_ ?_
  · intro args s m h hn
    obtain ⟨meth, c, h1, h2, h3, h4, h5, h6, -, -⟩ := Cond.code_spec hn (atoms_spec (ws := ws) h _ (by rw [hw]; exact List.mem_cons_self))
    exact ⟨meth, c, h1, h2, h3, h4, h5, h6⟩
  · intro p e s m args below meth c s₁ B hml hP _
    have hh0 : s₁.heap = s.heap := by rw [B.state]; rfl
    have ht : ∀ x ∈ c.exceptionTable.toList, False := by
      obtain ⟨meth9, c9, h1, h2, -, -, -, -, h7, -⟩ := Cond.code_spec B.named (atoms_spec (ws := ws) B.pre _ (by rw [hw]; exact List.mem_cons_self))
      cases Option.some.inj (h1.symm.trans B.method)
      cases Option.some.inj (h2.symm.trans (Stand.of_body B).code)
      intro x hx
      rw [Array.isEmpty_iff.mp h7] at hx
      cases hx
    obtain ⟨t, a1, o, b1, b2, b3⟩ := body p e s m args below meth c s₁ B hml ht hP s₁ hh0 (Stand.of_body B)
    exact ⟨t, o, a1, b1, b2, b3⟩
/-- the table of a body with handlers -/
theorem vx_table {p : Program} {x y : MethodName} {S : Spec} {cc bytes : ByteArray} {maxL maxL' : Nat} {ret ret' : Option FieldType} {e : Env} {s s₁ : State} {m : MethodId} {args : Array Value} {below : List Frame} {meth : Method} {c : Code} {hh : List (Nat × Nat × Nat × Nat)}
    (B : BodyLoose p l y S cc maxL ret e s m args below meth c s₁) (h : (Cond.codeWith y bytes maxL' ret' hh).before args s = true) : c.exceptionTable.toList = tableOf hh := by
  obtain ⟨m9, meth9, c9, hn9, h1, h2, -, -, h6, -⟩ := Cond.codeWith_spec h
  cases Option.some.inj (hn9.symm.trans B.named)
  cases Option.some.inj (h1.symm.trans B.method)
  cases Option.some.inj (h2.symm.trans (Stand.of_body B).code)
  rw [← h6, table_eq]
end Bodies
end VXA
/-! ===== END ===== -/
/-! ===== BEGIN a static call of a method with an exception table ===== -/
section VXS
variable {p : Program} {l : Launch} {e : Env} {R : Room} {s : State} {m : MethodId} {args : Array Value} {below : List Frame} {meth : Method} {c : Code} {T : State} {H : Heap} {locs : List Loc} {cells slots : Nat}
abbrev vx_CSW (R : Room) (s : State) (args : Array Value) (own : String) (index : Nat) (y : MethodName) (bytes : ByteArray) (maxL : Nat) (ret : Option FieldType) (hh : List (Nat × Nat × Nat × Nat)) (ws : List Cond) (rm : Room) (mc ms n : Nat) : Prop :=
  (rm.cells = mc ∧ rm.slots = ms ∧ rm.frames + 1 ≤ R.frames ∧ 8 + (maxL + 11) + rm.locals ≤ R.locals ∧ (∀ w ∈ ws, ∀ (a' : Array Value) (U : State), s.WarmedH U.vm → w.before a' U = true) ∧ Cond.codeWith y bytes maxL ret hh ∈ ws) ∧
  (Cond.codeWith y bytes maxL ret hh).before args s = true ∧ (Cond.initialized y.cls).before args s = true ∧ (y.cls ≠ "java/lang/invoke/MethodHandle" ∧ y.cls ≠ "java/lang/invoke/VarHandle") ∧
  (∀ sig, parseMethodDescriptor y.desc = some sig → n = sig.parameters.length) ∧ (Cond.methodLink own index y).before args s = true ∧ (Cond.static y).before args s = true
theorem vx_cwSW {own : String} {index maxL mc ms : Nat} {y : MethodName} {bytes : ByteArray} {ret : Option FieldType} {hh : List (Nat × Nat × Nat × Nat)} {Ts ws ws' : List Cond} {rm : Room} (n : Nat) (ht : ∀ w ∈ Ts, w.before args s = true) (hT : GoodIn Ts (va_wsS own index y ws)) (hw : ws = Cond.codeWith y bytes maxL ret hh :: ws') (hrc : rm.cells = mc) (hrs : rm.slots = ms)
    (hd : y.cls ≠ "java/lang/invoke/MethodHandle" ∧ y.cls ≠ "java/lang/invoke/VarHandle" ∧ (parseMethodDescriptor y.desc).map (fun d => d.parameters.length) = some n) (hR : rm.frames + 1 ≤ R.frames ∧ 8 + (maxL + 11) + rm.locals ≤ R.locals) :
    vx_CSW R s args own index y bytes maxL ret hh ws rm mc ms n := by
  have ok : ∀ w ∈ va_wsS own index y ws, w.before args s = true := fun w h => ht w (hT w h).1
  have hG : GoodIn Ts ws := fun w h => hT w (by unfold va_wsS; exact List.mem_append_right _ h)
  have hc : Cond.codeWith y bytes maxL ret hh ∈ ws := by rw [hw]; exact List.mem_cons_self
  refine ⟨⟨hrc, hrs, hR.1, hR.2, pay_in ht hG, hc⟩, ht _ (hG _ hc).1, ok _ (by simp [va_wsS]), ⟨hd.1, hd.2.1⟩, fun sig h => ?_, ok _ (by simp [va_wsS]), ok _ (by simp [va_wsS])⟩
  have h2 := hd.2.2
  rw [h] at h2
  exact (Option.some.inj h2).symm
theorem vx_callSW (X : Stand p l e R s m args below meth c T locs cells slots) (hexec : p.tables.exec = Jvm.exec) {own : String} {index : Nat} {y : MethodName} {bytes : ByteArray} {maxL : Nat} {ret : Option FieldType} {hh : List (Nat × Nat × Nat × Nat)}
    (hown : s.vm.findClass own = some m.cls) (hlink : (Cond.methodLink own index y).before args s = true) (hstat : (Cond.static y).before args s = true) (hinit : (Cond.initialized y.cls).before args s = true)
    (hcode : (Cond.codeWith y bytes maxL ret hh).before args s = true) (hy : y.cls ≠ "java/lang/invoke/MethodHandle" ∧ y.cls ≠ "java/lang/invoke/VarHandle")
    {W9 : Nat} {Pre : Pt → Array Value → Prop} {Post : Pt → Array Value → Option Value → Pt → Prop} (hK : Back l R p e below s args y 3 W9 Pre Post)
    {g : JFrame} (hg : g.method = m) (hsize : g.locals.size = c.maxLocals) {argsL rest : List Value} (hlen : ∀ sig, parseMethodDescriptor y.desc = some sig → argsL.length = sig.parameters.length)
    (hstack : g.stack = argsL.reverse ++ rest) (hW : 2 * g.monitorRoom + (rest.map fun v => v.category).sum ≤ W9) (hdg : decode c.code g.pc = .ok (.invokestatic index, 3))
    (hpre : ∀ vm₁, s.WarmedH vm₁ → Pre ⟨T.setVm vm₁, locs, cells, slots⟩ argsL.toArray) :
    ∃ (v : Option Value) (vm₁ : Vm) (B : Pt), s.WarmedH vm₁ ∧ Stand p l e R s m args below meth c B.U B.locs B.cells B.slots ∧ Post ⟨T.setVm vm₁, locs, cells, slots⟩ argsL.toArray v B ∧
      ∀ target, Steps p.tables e below (B.U.setTop { g with pc := g.pc + 3, stack := v.toList ++ rest }) target → Steps p.tables e below (T.setTop g) target := by
  obtain ⟨mk, methM, cM, hnamed, hmethM, -, -, -, -, -, -, hsigM⟩ := Cond.codeWith_spec hcode
  have hstatic : methM.isStatic = true := Cond.static_spec hnamed hmethM hstat
  obtain ⟨kP, hkP, -⟩ := className_of_methodNamed hnamed
  have hinitP : kP.init = .initialized := Cond.initialized_spec (findClass_of_methodNamed hnamed) hkP hinit
  obtain ⟨vm₁, X₁, hstep₁⟩ := X.invokestatic hexec hown hlink hnamed hmethM hstatic hkP hinitP hy (g := g) hg (argsL := argsL) (rest := rest) (hlen _ hsigM) hstack hdg
  obtain ⟨v, B, X', hpost, hsteps⟩ := hK m meth c ⟨T.setVm vm₁, locs, cells, slots⟩ { g with stack := rest } (.invokestatic index) mk argsL.toArray X₁ hg hsize hdg hW (X₁.named hnamed) (hpre vm₁ X₁.warmed)
  exact ⟨v, vm₁, B, X₁.warmed, X', hpost, fun target h => hstep₁ _ fun acts => by rw [doInvoke_state]; exact hsteps.trans h⟩
theorem vx_runSW {y : MethodName} {bytes cc : ByteArray} {maxL nL mc ms n index : Nat} {ret : Option FieldType} {hh : List (Nat × Nat × Nat × Nat)} {ws : List Cond} {rm : Room} {Pc : Array Value → State → Prop} {Qc : Array Value → State → Outcome → State → Prop} {free : Addr → Prop} {Ts : List Cond} {own : String} {As rest : List Value} {g : JFrame}
    (S : CallFix p m c cc nL s args Ts own) (hM : Met l y ws rm Pc Qc mc ms free) (cw : vx_CSW R s args own index y bytes maxL ret hh ws rm mc ms n) (hp : PreS s H Pc As)
    (hg : g.method = m) (hn : As.length = n) (hsize : g.locals.size = nL) (hstack : g.stack = As.reverse ++ rest) (hW : 2 * g.monitorRoom + (rest.map fun v => v.category).sum ≤ 8) (hdg : decode cc g.pc = .ok (.invokestatic index, 3)) (hf : cells + mc ≤ R.cells ∧ slots + ms ≤ R.slots) :
    va_Run p l e R s m args below meth c H locs cells slots mc ms g rest (Qc As.toArray) (free) := by
  obtain ⟨⟨hrc, hrs, hfr, hlo, hws, hcw⟩, hcode, hini, hy, hlen, hl, hstt⟩ := cw
  have hK : Back l R p e below s args y 3 8 (PreOf R mc ms Pc) (PostOf Qc mc ms free) := va_backW (hh := hh) (bytes := bytes) (maxL := maxL) (ret := ret) hM hp.1 hrc hrs hfr hlo hws hcw (fun a' U hW => word_at hW (Or.inl (by first | rfl | simp [Cond.onTables, Cond.keeps, Cond.steady])) hini)
  obtain ⟨hx, hb, hml, ho, -⟩ := S
  intro T hT X
  obtain ⟨v, vm₁, ⟨U', l2, c2, s2⟩, hW₁, X', ⟨g', mk, t, L, e1, e2, hq, h1, hL, h2, h3⟩, st⟩ := vx_callSW X hx (hh := hh) (bytes := bytes) (maxL := maxL) (ret := ret) ho hl hstt hini hcode hy hK hg (hsize.trans hml.symm) (argsL := As) (rest := rest) (fun sig h => hn.trans (hlen sig h)) hstack hW (by rw [hb]; exact hdg)
    (fun vm₁ hW₁ => ⟨hf.1, hf.2, hp.2 (T.setVm vm₁) hT hW₁⟩)
  dsimp only [Pt.U, Pt.locs, Pt.cells, Pt.slots] at X' e1 e2 h1 h2 h3 st
  subst h1; subst h2; subst h3
  exact ⟨v, (T.setVm vm₁).calling g' mk As.toArray, t, U', L, hT, X', hL, e1, e2, hq, st⟩
/-- not caught here, past rows that name other classes: it goes on to the caller -/
theorem vx_outP {p : Program} {l : Launch} {e : Env} {R : Room} {s : State} {m : MethodId} {args : Array Value} {below : List Frame} {meth : Method} {c : Code} {H : Heap} {locs : List Loc} {cells slots : Nat} {free : Addr → Prop} {ls : Array Slot} {rest : List Value} {Qc : Array Value → State → Outcome → State → Prop} {XC : String → State → State → Prop}
    {pc : Nat} {own E : String} {ce : Cell} {q : Addr} {mc ms : Nat} (hown : s.vm.findClass own = some m.cls) (hlocks : meth.locks = false)
    (hpass : ∀ z ∈ c.exceptionTable.toList, covers z pc = false ∨ (z.catchType ≠ 0 ∧ ∃ nm : String, (Cond.classLink own z.catchType nm).before args s = true ∧ va_Nc E nm s)) (hcell : H[q]? = some ce) (hv : ce.vm = .none) (hcl : s.vm.findClass E = some ce.cls)
    (hx : ∀ t : State, t.heap = H → s.vm.Alike t.vm → XC E s t) (hf : ∀ z ∈ locs, free z.base) (hc : cells ≤ mc) (hs : slots ≤ ms) :
    vx_W p l e R s m args below meth c H locs cells slots (vx_MQ below Qc XC args s mc ms free) (F0 m pc ls rest) q := by
  intro T hT X
  have hpl : e.platform.magicAccessors = ({} : Platform).magicAccessors := by rw [X.admits.platform]
  obtain ⟨vm', hW', X', st⟩ := X.outThrough hlocks q (g := F0 m pc ls rest) rfl rfl rfl (cell := ce) (by rw [hT]; exact hcell) (by rw [hv]; rfl)
    (by obtain ⟨k9, h9, -⟩ := Vm.findClass_spec hcl; exact ⟨k9, h9⟩) (fun z hz => by
      rcases hpass z hz with h | ⟨hz0, nm, hl1, hn1⟩
      · exact Or.inl h
      · obtain ⟨c6, hc6, hcl6⟩ := Cond.classLink_spec hown hl1 e.platform hpl
        obtain ⟨a8, b8, h1, h2, h3⟩ := hn1
        cases Option.some.inj (h1.symm.trans hcl)
        cases Option.some.inj (h2.symm.trans hc6)
        exact Or.inr ⟨hz0, _, hcl6, h3⟩)
  obtain ⟨g₀, hfr⟩ := X'.frames_eq
  have hcell9 : ((T.setVm vm').setFrames (.throwing q :: below)).heap[q]? = some ce := by
    show T.heap[q]? = some ce
    rw [hT]; exact hcell
  have hend : Ended ((T.setVm vm').setFrames (.throwing q :: below)) below (.threw q) := State.frames_setFrames _ (State.cur_lt_of_frames hfr)
  refine ⟨(T.setVm vm').setFrames (.throwing q :: below), ?_, .threw q, X'.here.running, hend, Or.inr ⟨q, rfl, E, ce, locs, hx _ hT (X'.ends _).1.alike, hcell9, hv, hcl, (X'.ends _).1, (X'.ends _).2.mono hc hs, hf⟩⟩
  rw [X.pushThrowing_eq]
  exact st
/-- a thing of a world lies in the heap -/
theorem vx_lt {D : va_G} {cl : List vw_C} {ws : va_W} {H1 : Heap} (h : va_P D cl ws H1) {k : Nat} {q : Nat × va_E} (hk : ws[k]? = some q) : q.1 < H1.size := (h k q hk).lt
end VXS
/-! ===== END ===== -/
/-! ===== BEGIN methods with a table of their own: called by a name, returning or throwing ===== -/
section VXH
/-! vx_backW, vx_callVX, vx_callSX, vx_callVW, vx_runVW, vx_runVX, vx_runSX, vx_ofWH follow the same proofs as their sisters above (Free/Laws.lean, Shelf42/LK1.lean); vx_outP calls Shelf42/NT130.lean (outThrough). -/
section
variable {l : Launch} {R : Room} {p : Program} {e : Env} {below : List Frame} {s : State} {sargs : Array Value} {y : MethodName} {len W9 : Nat}
theorem vx_backW {ws : List Cond} {rm : Room} {Pc : Array Value → State → Prop} {Qc : Array Value → State → Outcome → State → Prop} {XC : String → State → State → Prop} {mc ms : Nat} {free : Addr → Prop} {bytes : ByteArray} {maxL : Nat} {ret : Option FieldType} {hh : List (Nat × Nat × Nat × Nat)}
    (hM : vx_Met l y ws rm Pc Qc XC mc ms free) (hblind : FrameBlind Pc) (hrc : rm.cells = mc) (hrs : rm.slots = ms)
    (hframes : rm.frames + 1 ≤ R.frames) (hlocals : W9 + (maxL + 11) + rm.locals ≤ R.locals)
    (hws : ∀ w ∈ ws, ∀ a' U, s.WarmedH U.vm → w.before a' U = true) (hcode : Cond.codeWith y bytes maxL ret hh ∈ ws) (hinit : ∀ a' U, s.WarmedH U.vm → (Cond.initialized y.cls).before a' U = true) :
    vx_Back l R p e below s sargs y len W9 (PreOf R mc ms Pc) (PostOf Qc mc ms free) (vx_Post XC mc ms free) := by
  intro m meth c A g ig mk a X hg hsize hdg hW hn hp
  have h1 : (headSpec ws rm).pre.before a A.U = true := atoms_intro fun w hw => hws w hw _ _ X.warmed
  have h2 : (Cond.codeWith y bytes maxL ret hh).before a A.U = true := hws _ hcode _ _ X.warmed
  have h3 : (Cond.initialized y.cls).before a A.U = true := hinit _ _ X.warmed
  have h4 : A.cells + (headSpec ws rm).room.cells ≤ R.cells := by rw [show (headSpec ws rm).room.cells = mc from hrc]; exact hp.1
  have h5 : A.slots + (headSpec ws rm).room.slots ≤ R.slots := by rw [show (headSpec ws rm).room.slots = ms from hrs]; exact hp.2.1
  have hPc : Pc a (A.U.calling g mk a) := hblind _ _ _ _ hp.2.2
  obtain ⟨U, Ls, c0, s0⟩ := A
  dsimp only [Pt.U, Pt.locs, Pt.cells, Pt.slots] at h1 h2 h3 h4 h5 X hn hPc ⊢
  obtain ⟨m9, methY, cY, hn9, hmY, hcY, -, hlY, -⟩ := Cond.codeWith_spec h2
  cases Option.some.inj (hn9.symm.trans hn)
  obtain ⟨kY, hkY, -⟩ := className_of_methodNamed hn
  have hinitY : kY.init = .initialized := Cond.initialized_spec (findClass_of_methodNamed hn) hkY h3
  have h : At U g.method c below := by rw [hg]; exact X.here
  have hlocals9 : W9 + (maxL + 11) + (headSpec ws rm).room.locals ≤ R.locals := hlocals
  have happ : (headSpec ws rm).appliesLoose y e.platform (U.calling g mk a) = true :=
    Spec.appliesLoose_calling (g := g) h hdg hn hkY hinitY
      (X.room_calling (g := g) (R' := (headSpec ws rm).room) hsize hmY hcY hframes (by rw [hlY]; omega) h4 h5) h1
  obtain ⟨mid, hmid⟩ := h.above
  have hfr : (U.setTop g).frames = (.java g :: mid) ++ below := by rw [State.frames_setTop' g h.top, hmid]; rfl
  obtain ⟨o, s₂, hsteps, -, hend, hq⟩ := Steps.callFree hM p X.admits X.cas X.clock (acts := []) hfr happ hPc trivial
  have hq' : vx_Q Qc XC mc ms free a (U.calling g mk a) o s₂ := hq
  rw [State.frames_setTop' g h.top] at hend
  obtain ⟨g₀, hg0⟩ := Option.isSome_iff_exists.mp h.top
  obtain ⟨r, hr⟩ := State.topJava?_eq_some.mp hg0
  have hr' : (({ U with heap := s₂.heap, slotsUsed := s₂.slotsUsed } : State).setVm s₂.vm).frames = .java g₀ :: r := hr
  rcases hq' with ⟨hqc, L, hfe, hL⟩ | ⟨q, rfl, E, ce, L, hx, hce, hcv, hcl, hW₂, hsm, hL⟩
  · obtain ⟨⟨v, rfl⟩, hW₂, e2, q2, q3, q4, q5, q6⟩ := id hfe
    have e3 : s₂ = ({ (U.calling g mk a).setFrames s₂.frames with heap := s₂.heap, slotsUsed := s₂.slotsUsed } : State).setVm s₂.vm := by
      have : s₂ = ({ s₂ with vm := (U.calling g mk a).vm } : State).setVm s₂.vm := rfl
      rw [e2] at this
      exact this
    obtain ⟨c₂, i₂, len₂, hc₂, hd₂, hf₂⟩ := hend
    have hW' : U.WarmedH s₂.vm := hW₂
    have hcc : c₂ = c := by
      have h1 : s₂.code? g.method = U.code? g.method := by
        rw [State.code?_eq, State.code?_eq, hW'.alike.method?]
      exact Option.some.inj (hc₂.symm.trans (h1.trans h.code))
    subst hcc
    have hlen : len₂ = len := by rw [hdg] at hd₂; cases hd₂; rfl
    subst hlen
    have hs₂ : s₂ = (({ U with heap := s₂.heap, slotsUsed := s₂.slotsUsed } : State).setVm s₂.vm).setTop { g with pc := g.pc + len₂, stack := v.toList ++ g.stack } := by
      refine e3.trans ?_
      rw [hf₂, State.calling_eq h.top, State.setFrames_setFrames, State.setTop_of_frames _ hr', hr]
      rfl
    have hsame : U.sameButNew ({ U with heap := s₂.heap, slotsUsed := s₂.slotsUsed } : State) L mc ms := by
      refine ⟨?_, q2, q3, q4, q5, q6⟩
      obtain ⟨t, ht, -⟩ := State.frames_cons hr
      show ({ U with heap := s₂.heap, slotsUsed := s₂.slotsUsed } : State) = { U.setFrames U.frames with heap := s₂.heap, slotsUsed := s₂.slotsUsed }
      rw [State.setFrames_self ht]
    subst hg
    refine Or.inl ⟨v, ⟨(({ U with heap := s₂.heap, slotsUsed := s₂.slotsUsed } : State).setVm s₂.vm), Ls ++ L, c0 + mc, s0 + ms⟩,
      ⟨X.admits, X.cas, X.clock, X.frames, X.room, X.hears, X.method, X.code, (X.here.setHeapUsed s₂.heap s₂.slotsUsed).setVm hW'.alike, X.tail, State.WarmedH.trans X.warmed hW', X.limits, X.bytes, X.same.trans (hsame.setVm s.vm)⟩,
      ⟨g, mk, s₂, L, rfl, rfl, hqc, rfl, hL, rfl, rfl⟩, ?_⟩
    show Steps p.tables e below _ ((({ U with heap := s₂.heap, slotsUsed := s₂.slotsUsed } : State).setVm s₂.vm).setTop { g with pc := g.pc + len₂, stack := v.toList ++ g.stack })
    rw [← hs₂]
    exact hsteps
  · obtain ⟨e2, q2, q3, q4, q5, q6⟩ := id hsm
    have e3 : s₂ = ({ (U.calling g mk a).setFrames s₂.frames with heap := s₂.heap, slotsUsed := s₂.slotsUsed } : State).setVm s₂.vm := by
      have : s₂ = ({ s₂ with vm := (U.calling g mk a).vm } : State).setVm s₂.vm := rfl
      rw [e2] at this
      exact this
    have hf₂ : s₂.frames = .throwing q :: .java g :: U.frames.tail := hend
    have hW' : U.WarmedH s₂.vm := hW₂
    have hs₂ : s₂ = ((({ U with heap := s₂.heap, slotsUsed := s₂.slotsUsed } : State).setVm s₂.vm).setTop g).pushFrame (.throwing q) := by
      refine e3.trans ?_
      rw [hf₂, State.calling_eq h.top, State.setFrames_setFrames, State.pushFrame, State.frames_setTop _ hr', State.setTop_of_frames _ hr', State.setFrames_setFrames, hr]
      rfl
    have hsame : U.sameButNew ({ U with heap := s₂.heap, slotsUsed := s₂.slotsUsed } : State) L mc ms := by
      refine ⟨?_, q2, q3, q4, q5, q6⟩
      obtain ⟨t, ht, -⟩ := State.frames_cons hr
      show ({ U with heap := s₂.heap, slotsUsed := s₂.slotsUsed } : State) = { U.setFrames U.frames with heap := s₂.heap, slotsUsed := s₂.slotsUsed }
      rw [State.setFrames_self ht]
    subst hg
    refine Or.inr ⟨q, ⟨(({ U with heap := s₂.heap, slotsUsed := s₂.slotsUsed } : State).setVm s₂.vm), Ls ++ L, c0 + mc, s0 + ms⟩,
      ⟨X.admits, X.cas, X.clock, X.frames, X.room, X.hears, X.method, X.code, (X.here.setHeapUsed s₂.heap s₂.slotsUsed).setVm hW'.alike, X.tail, State.WarmedH.trans X.warmed hW', X.limits, X.bytes, X.same.trans (hsame.setVm s.vm)⟩,
      ⟨g, mk, s₂, L, E, ce, rfl, rfl, hx, hce, hcv, hcl, rfl, hL, rfl, rfl⟩, ?_⟩
    show Steps p.tables e below _ (((({ U with heap := s₂.heap, slotsUsed := s₂.slotsUsed } : State).setVm s₂.vm).setTop g).pushFrame (.throwing q))
    rw [← hs₂]
    exact hsteps
end
variable {p : Program} {l : Launch} {e : Env} {R : Room} {s : State} {m : MethodId} {args : Array Value} {below : List Frame} {meth : Method} {c : Code} {T : State} {H : Heap} {locs : List Loc} {cells slots : Nat}
theorem vx_callVX (X : Stand p l e R s m args below meth c T locs cells slots) (hexec : p.tables.exec = Jvm.exec) {own C : String} {index : Nat} {y : MethodName} {bytes : ByteArray} {maxL : Nat} {ret : Option FieldType} {hh : List (Nat × Nat × Nat × Nat)}
    (hown : s.vm.findClass own = some m.cls) (hlink : (Cond.methodLink own index y).before args s = true) (hinst : (Cond.instanceMethod y).before args s = true) (hsel : (Cond.selects C y y).before args s = true)
    (hcode : (Cond.codeWith y bytes maxL ret hh).before args s = true) (hy : y.cls ≠ "java/lang/invoke/MethodHandle" ∧ y.cls ≠ "java/lang/invoke/VarHandle")
    {W9 : Nat} {Pre : Pt → Array Value → Prop} {Post : Pt → Array Value → Option Value → Pt → Prop} {PostX : Pt → Array Value → Addr → Pt → Prop} (hK : vx_Back l R p e below s args y 3 W9 Pre Post PostX)
    {b : Addr} {cellB : Cell} (hcell : T.heap[b]? = some cellB) (hobj : cellB.vm.isStatics = false) (hcls : s.vm.findClass C = some cellB.cls)
    {g : JFrame} (hg : g.method = m) (hsize : g.locals.size = c.maxLocals) {argsL rest : List Value} (hlen : ∀ sig, parseMethodDescriptor y.desc = some sig → argsL.length = sig.parameters.length)
    (hstack : g.stack = argsL.reverse ++ .ref b :: rest) (hW : 2 * g.monitorRoom + (rest.map fun v => v.category).sum ≤ W9) (hdg : decode c.code g.pc = .ok (.invokevirtual index, 3))
    (hpre : ∀ vm₁, s.WarmedH vm₁ → Pre ⟨T.setVm vm₁, locs, cells, slots⟩ (Value.ref b :: argsL).toArray) :
    (∃ (v : Option Value) (vm₁ : Vm) (B : Pt), s.WarmedH vm₁ ∧ Stand p l e R s m args below meth c B.U B.locs B.cells B.slots ∧ Post ⟨T.setVm vm₁, locs, cells, slots⟩ (Value.ref b :: argsL).toArray v B ∧
      ∀ target, Steps p.tables e below (B.U.setTop { g with pc := g.pc + 3, stack := v.toList ++ rest }) target → Steps p.tables e below (T.setTop g) target) ∨
    (∃ (q : Addr) (vm₁ : Vm) (B : Pt), s.WarmedH vm₁ ∧ Stand p l e R s m args below meth c B.U B.locs B.cells B.slots ∧ PostX ⟨T.setVm vm₁, locs, cells, slots⟩ (Value.ref b :: argsL).toArray q B ∧
      Steps p.tables e below (T.setTop g) ((B.U.setTop { g with stack := rest }).pushFrame (.throwing q))) := by
  obtain ⟨mk, methM, hnamed, hmethM, hstM, habM⟩ := Cond.instanceMethod_spec hinst
  obtain ⟨m8, methM', cM, hn8, hmethM', -, -, -, -, -, -, hsigM⟩ := Cond.codeWith_spec hcode
  cases Option.some.inj (hn8.symm.trans hnamed)
  cases hmethM.symm.trans hmethM'
  obtain ⟨c2, r2, m2, q1, q2, q3, q4, kP, hkP, hkPi⟩ := Cond.selects_spec hsel
  cases hcls.symm.trans q1
  cases (State.methodFound?_of_named hnamed hy).symm.trans q2
  cases hnamed.symm.trans q3
  have hselP : selectMethod e.platform s.vm cellB.cls mk = .method mk := by rw [Launch.admits_selectMethod X.admits]; exact q4
  obtain ⟨vm₁, X₁, hstep₁⟩ := X.invokevirtual hexec hown hlink hnamed hmethM hstM hkP hkPi hy (a := b) (cell := cellB) hcell
    (fun z h => by rw [h] at hobj; cases hobj) hselP hmethM habM hkP hkPi (g := g) hg (argsL := argsL) (rest := rest) (hlen _ hsigM) hstack hdg
  rcases hK m meth c ⟨T.setVm vm₁, locs, cells, slots⟩ { g with stack := rest } (.invokevirtual index) mk (Value.ref b :: argsL).toArray X₁ hg hsize hdg hW (X₁.named hnamed) (hpre vm₁ X₁.warmed) with ⟨v, B, X', hpost, hsteps⟩ | ⟨q, B, X', hpost, hsteps⟩
  · exact Or.inl ⟨v, vm₁, B, X₁.warmed, X', hpost, fun target h => hstep₁ _ fun acts => by rw [doInvoke_state]; exact hsteps.trans h⟩
  · exact Or.inr ⟨q, vm₁, B, X₁.warmed, X', hpost, hstep₁ _ fun acts => by rw [doInvoke_state]; exact hsteps⟩
theorem vx_callSX (X : Stand p l e R s m args below meth c T locs cells slots) (hexec : p.tables.exec = Jvm.exec) {own : String} {index : Nat} {y : MethodName} {bytes : ByteArray} {maxL : Nat} {ret : Option FieldType} {hh : List (Nat × Nat × Nat × Nat)}
    (hown : s.vm.findClass own = some m.cls) (hlink : (Cond.methodLink own index y).before args s = true) (hstat : (Cond.static y).before args s = true) (hinit : (Cond.initialized y.cls).before args s = true)
    (hcode : (Cond.codeWith y bytes maxL ret hh).before args s = true) (hy : y.cls ≠ "java/lang/invoke/MethodHandle" ∧ y.cls ≠ "java/lang/invoke/VarHandle")
    {W9 : Nat} {Pre : Pt → Array Value → Prop} {Post : Pt → Array Value → Option Value → Pt → Prop} {PostX : Pt → Array Value → Addr → Pt → Prop} (hK : vx_Back l R p e below s args y 3 W9 Pre Post PostX)
    {g : JFrame} (hg : g.method = m) (hsize : g.locals.size = c.maxLocals) {argsL rest : List Value} (hlen : ∀ sig, parseMethodDescriptor y.desc = some sig → argsL.length = sig.parameters.length)
    (hstack : g.stack = argsL.reverse ++ rest) (hW : 2 * g.monitorRoom + (rest.map fun v => v.category).sum ≤ W9) (hdg : decode c.code g.pc = .ok (.invokestatic index, 3))
    (hpre : ∀ vm₁, s.WarmedH vm₁ → Pre ⟨T.setVm vm₁, locs, cells, slots⟩ argsL.toArray) :
    (∃ (v : Option Value) (vm₁ : Vm) (B : Pt), s.WarmedH vm₁ ∧ Stand p l e R s m args below meth c B.U B.locs B.cells B.slots ∧ Post ⟨T.setVm vm₁, locs, cells, slots⟩ argsL.toArray v B ∧
      ∀ target, Steps p.tables e below (B.U.setTop { g with pc := g.pc + 3, stack := v.toList ++ rest }) target → Steps p.tables e below (T.setTop g) target) ∨
    (∃ (q : Addr) (vm₁ : Vm) (B : Pt), s.WarmedH vm₁ ∧ Stand p l e R s m args below meth c B.U B.locs B.cells B.slots ∧ PostX ⟨T.setVm vm₁, locs, cells, slots⟩ argsL.toArray q B ∧
      Steps p.tables e below (T.setTop g) ((B.U.setTop { g with stack := rest }).pushFrame (.throwing q))) := by
  obtain ⟨mk, methM, cM, hnamed, hmethM, -, -, -, -, -, -, hsigM⟩ := Cond.codeWith_spec hcode
  have hstatic : methM.isStatic = true := Cond.static_spec hnamed hmethM hstat
  obtain ⟨kP, hkP, -⟩ := className_of_methodNamed hnamed
  have hinitP : kP.init = .initialized := Cond.initialized_spec (findClass_of_methodNamed hnamed) hkP hinit
  obtain ⟨vm₁, X₁, hstep₁⟩ := X.invokestatic hexec hown hlink hnamed hmethM hstatic hkP hinitP hy (g := g) hg (argsL := argsL) (rest := rest) (hlen _ hsigM) hstack hdg
  rcases hK m meth c ⟨T.setVm vm₁, locs, cells, slots⟩ { g with stack := rest } (.invokestatic index) mk argsL.toArray X₁ hg hsize hdg hW (X₁.named hnamed) (hpre vm₁ X₁.warmed) with ⟨v, B, X', hpost, hsteps⟩ | ⟨q, B, X', hpost, hsteps⟩
  · exact Or.inl ⟨v, vm₁, B, X₁.warmed, X', hpost, fun target h => hstep₁ _ fun acts => by rw [doInvoke_state]; exact hsteps.trans h⟩
  · exact Or.inr ⟨q, vm₁, B, X₁.warmed, X', hpost, hstep₁ _ fun acts => by rw [doInvoke_state]; exact hsteps⟩
theorem vx_callVW (X : Stand p l e R s m args below meth c T locs cells slots) (hexec : p.tables.exec = Jvm.exec) {own C : String} {index : Nat} {y : MethodName} {bytes : ByteArray} {maxL : Nat} {ret : Option FieldType} {hh : List (Nat × Nat × Nat × Nat)}
    (hown : s.vm.findClass own = some m.cls) (hlink : (Cond.methodLink own index y).before args s = true) (hinst : (Cond.instanceMethod y).before args s = true) (hsel : (Cond.selects C y y).before args s = true)
    (hcode : (Cond.codeWith y bytes maxL ret hh).before args s = true) (hy : y.cls ≠ "java/lang/invoke/MethodHandle" ∧ y.cls ≠ "java/lang/invoke/VarHandle")
    {W9 : Nat} {Pre : Pt → Array Value → Prop} {Post : Pt → Array Value → Option Value → Pt → Prop} (hK : Back l R p e below s args y 3 W9 Pre Post)
    {b : Addr} {cellB : Cell} (hcell : T.heap[b]? = some cellB) (hobj : cellB.vm.isStatics = false) (hcls : s.vm.findClass C = some cellB.cls)
    {g : JFrame} (hg : g.method = m) (hsize : g.locals.size = c.maxLocals) {argsL rest : List Value} (hlen : ∀ sig, parseMethodDescriptor y.desc = some sig → argsL.length = sig.parameters.length)
    (hstack : g.stack = argsL.reverse ++ .ref b :: rest) (hW : 2 * g.monitorRoom + (rest.map fun v => v.category).sum ≤ W9) (hdg : decode c.code g.pc = .ok (.invokevirtual index, 3))
    (hpre : ∀ vm₁, s.WarmedH vm₁ → Pre ⟨T.setVm vm₁, locs, cells, slots⟩ (Value.ref b :: argsL).toArray) :
    ∃ (v : Option Value) (vm₁ : Vm) (B : Pt), s.WarmedH vm₁ ∧ Stand p l e R s m args below meth c B.U B.locs B.cells B.slots ∧ Post ⟨T.setVm vm₁, locs, cells, slots⟩ (Value.ref b :: argsL).toArray v B ∧
      ∀ target, Steps p.tables e below (B.U.setTop { g with pc := g.pc + 3, stack := v.toList ++ rest }) target → Steps p.tables e below (T.setTop g) target := by
  obtain ⟨mk, methM, hnamed, hmethM, hstM, habM⟩ := Cond.instanceMethod_spec hinst
  obtain ⟨m8, methM', cM, hn8, hmethM', -, -, -, -, -, -, hsigM⟩ := Cond.codeWith_spec hcode
  cases Option.some.inj (hn8.symm.trans hnamed)
  cases hmethM.symm.trans hmethM'
  obtain ⟨c2, r2, m2, q1, q2, q3, q4, kP, hkP, hkPi⟩ := Cond.selects_spec hsel
  cases hcls.symm.trans q1
  cases (State.methodFound?_of_named hnamed hy).symm.trans q2
  cases hnamed.symm.trans q3
  have hselP : selectMethod e.platform s.vm cellB.cls mk = .method mk := by rw [Launch.admits_selectMethod X.admits]; exact q4
  obtain ⟨vm₁, X₁, hstep₁⟩ := X.invokevirtual hexec hown hlink hnamed hmethM hstM hkP hkPi hy (a := b) (cell := cellB) hcell
    (fun z h => by rw [h] at hobj; cases hobj) hselP hmethM habM hkP hkPi (g := g) hg (argsL := argsL) (rest := rest) (hlen _ hsigM) hstack hdg
  obtain ⟨v, B, X', hpost, hsteps⟩ := hK m meth c ⟨T.setVm vm₁, locs, cells, slots⟩ { g with stack := rest } (.invokevirtual index) mk (Value.ref b :: argsL).toArray X₁ hg hsize hdg hW (X₁.named hnamed) (hpre vm₁ X₁.warmed)
  exact ⟨v, vm₁, B, X₁.warmed, X', hpost, fun target h => hstep₁ _ fun acts => by rw [doInvoke_state]; exact hsteps.trans h⟩
abbrev vx_CVW (R : Room) (s : State) (args : Array Value) (own C : String) (index : Nat) (y : MethodName) (bytes : ByteArray) (maxL : Nat) (ret : Option FieldType) (hh : List (Nat × Nat × Nat × Nat)) (ws : List Cond) (rm : Room) (mc ms n : Nat) : Prop :=
  (rm.cells = mc ∧ rm.slots = ms ∧ rm.frames + 1 ≤ R.frames ∧ 8 + (maxL + 11) + rm.locals ≤ R.locals ∧ (∀ w ∈ ws, ∀ (a' : Array Value) (U : State), s.WarmedH U.vm → w.before a' U = true) ∧ Cond.codeWith y bytes maxL ret hh ∈ ws) ∧
  (Cond.codeWith y bytes maxL ret hh).before args s = true ∧ (Cond.initialized y.cls).before args s = true ∧ (y.cls ≠ "java/lang/invoke/MethodHandle" ∧ y.cls ≠ "java/lang/invoke/VarHandle") ∧
  (∀ sig, parseMethodDescriptor y.desc = some sig → n = sig.parameters.length) ∧ (Cond.methodLink own index y).before args s = true ∧ (Cond.instanceMethod y).before args s = true ∧ (Cond.selects C y y).before args s = true
theorem vx_cwVW {own C : String} {index maxL mc ms : Nat} {y : MethodName} {bytes : ByteArray} {ret : Option FieldType} {hh : List (Nat × Nat × Nat × Nat)} {Ts ws ws' : List Cond} {rm : Room} (n : Nat) (ht : ∀ w ∈ Ts, w.before args s = true) (hT : GoodIn Ts (wsV own index C y ws)) (hw : ws = Cond.codeWith y bytes maxL ret hh :: ws') (hrc : rm.cells = mc) (hrs : rm.slots = ms)
    (hd : y.cls = C ∧ y.cls ≠ "java/lang/invoke/MethodHandle" ∧ y.cls ≠ "java/lang/invoke/VarHandle" ∧ (parseMethodDescriptor y.desc).map (fun d => d.parameters.length) = some n) (hR : rm.frames + 1 ≤ R.frames ∧ 8 + (maxL + 11) + rm.locals ≤ R.locals) :
    vx_CVW R s args own C index y bytes maxL ret hh ws rm mc ms n := by
  obtain ⟨hC, hd⟩ := hd
  subst hC
  have ok : ∀ w ∈ wsV own index y.cls y ws, w.before args s = true := fun w h => ht w (hT w h).1
  have hG : GoodIn Ts ws := fun w h => hT w (by unfold wsV; exact List.mem_append_right _ h)
  have hc : Cond.codeWith y bytes maxL ret hh ∈ ws := by rw [hw]; exact List.mem_cons_self
  refine ⟨⟨hrc, hrs, hR.1, hR.2, pay_in ht hG, hc⟩, ht _ (hG _ hc).1, ok _ (by simp [wsV]), ⟨hd.1, hd.2.1⟩, fun sig h => ?_, ok _ (by simp [wsV]), ok _ (by simp [wsV]), ok _ (by simp [wsV])⟩
  have h2 := hd.2.2
  rw [h] at h2
  exact (Option.some.inj h2).symm
theorem vx_runVW {y : MethodName} {bytes cc : ByteArray} {maxL nL mc ms n index : Nat} {ret : Option FieldType} {hh : List (Nat × Nat × Nat × Nat)} {ws : List Cond} {rm : Room} {Pc : Array Value → State → Prop} {Qc : Array Value → State → Outcome → State → Prop} {free : Addr → Prop} {Ts : List Cond} {own C : String} {b : Addr} {As rest : List Value} {g : JFrame}
    (S : CallFix p m c cc nL s args Ts own) (hM : Met l y ws rm Pc Qc mc ms free) (cw : vx_CVW R s args own C index y bytes maxL ret hh ws rm mc ms n) (hp : PreV s H C b Pc As)
    (hg : g.method = m) (hn : As.length = n) (hsize : g.locals.size = nL) (hstack : g.stack = As.reverse ++ .ref b :: rest) (hW : 2 * g.monitorRoom + (rest.map fun v => v.category).sum ≤ 8) (hdg : decode cc g.pc = .ok (.invokevirtual index, 3)) (hf : cells + mc ≤ R.cells ∧ slots + ms ≤ R.slots) :
    va_Run p l e R s m args below meth c H locs cells slots mc ms g rest (Qc (Value.ref b :: As).toArray) free := by
  obtain ⟨⟨hrc, hrs, hfr, hlo, hws, hcw⟩, hcode, hini, hy, hlen, hl, hin, hse⟩ := cw
  have hK : Back l R p e below s args y 3 8 (PreOf R mc ms Pc) (PostOf Qc mc ms free) := va_backW (hh := hh) (bytes := bytes) (maxL := maxL) (ret := ret) hM hp.1 hrc hrs hfr hlo hws hcw (fun a' U hW => word_at hW (Or.inl (by first | rfl | simp [Cond.onTables, Cond.keeps, Cond.steady])) hini)
  obtain ⟨hx, hb, hml, ho, -⟩ := S
  obtain ⟨-, ⟨cellB, hcB, hoB, hclB⟩, hPc⟩ := hp
  intro T hT X
  obtain ⟨v, vm₁, ⟨U', l2, c2, s2⟩, hW₁, X', ⟨g', mk, t, L, e1, e2, hq, h1, hL, h2, h3⟩, st⟩ := vx_callVW X hx (C := C) (hh := hh) (bytes := bytes) (maxL := maxL) (ret := ret) ho hl hin hse hcode hy hK (by rw [hT]; exact hcB) hoB hclB hg (hsize.trans hml.symm) (argsL := As) (rest := rest) (fun sig h => hn.trans (hlen sig h)) hstack hW (by rw [hb]; exact hdg)
    (fun vm₁ hW₁ => ⟨hf.1, hf.2, hPc (T.setVm vm₁) hT hW₁⟩)
  dsimp only [Pt.U, Pt.locs, Pt.cells, Pt.slots] at X' e1 e2 h1 h2 h3 st
  subst h1; subst h2; subst h3
  exact ⟨v, (T.setVm vm₁).calling g' mk (Value.ref b :: As).toArray, t, U', L, hT, X', hL, e1, e2, hq, st⟩
section
variable {y : MethodName} {bytes cc : ByteArray} {maxL nL mc ms n index : Nat} {ret : Option FieldType} {ws : List Cond} {rm : Room} {Pc : Array Value → State → Prop} {Qc : Array Value → State → Outcome → State → Prop} {XC : String → State → State → Prop} {free : Addr → Prop} {Ts : List Cond} {own C : String} {b : Addr} {As rest : List Value} {g : JFrame}
theorem vx_runVX {hh : List (Nat × Nat × Nat × Nat)} (S : CallFix p m c cc nL s args Ts own) (hM : vx_Met l y ws rm Pc Qc XC mc ms free) (cw : vx_CVW R s args own C index y bytes maxL ret hh ws rm mc ms n) (hp : PreV s H C b Pc As)
    (hg : g.method = m) (hn : As.length = n) (hsize : g.locals.size = nL) (hstack : g.stack = As.reverse ++ .ref b :: rest) (hW : 2 * g.monitorRoom + (rest.map fun v => v.category).sum ≤ 8) (hdg : decode cc g.pc = .ok (.invokevirtual index, 3)) (hf : cells + mc ≤ R.cells ∧ slots + ms ≤ R.slots) :
    vx_Run p l e R s m args below meth c H locs cells slots mc ms g rest (Qc (Value.ref b :: As).toArray) XC free := by
  obtain ⟨⟨hrc, hrs, hfr, hlo, hws, hcw⟩, hcode, hini, hy, hlen, hl, hin, hse⟩ := cw
  have hK : vx_Back l R p e below s args y 3 8 (PreOf R mc ms Pc) (PostOf Qc mc ms free) (vx_Post XC mc ms free) := vx_backW (hh := hh) (bytes := bytes) (maxL := maxL) (ret := ret) hM hp.1 hrc hrs hfr hlo hws hcw (fun a' U hW => word_at hW (Or.inl (by first | rfl | simp [Cond.onTables, Cond.keeps, Cond.steady])) hini)
  obtain ⟨hx, hb, hml, ho, -⟩ := S
  obtain ⟨-, ⟨cellB, hcB, hoB, hclB⟩, hPc⟩ := hp
  intro T hT X
  rcases vx_callVX X hx (C := C) (hh := hh) (bytes := bytes) (maxL := maxL) (ret := ret) ho hl hin hse hcode hy hK (by rw [hT]; exact hcB) hoB hclB hg (hsize.trans hml.symm) (argsL := As) (rest := rest) (fun sig h => hn.trans (hlen sig h)) hstack hW (by rw [hb]; exact hdg)
    (fun vm₁ hW₁ => ⟨hf.1, hf.2, hPc (T.setVm vm₁) hT hW₁⟩) with ⟨v, vm₁, ⟨U', l2, c2, s2⟩, hW₁, X', ⟨g', mk, t, L, e1, e2, hq, h1, hL, h2, h3⟩, st⟩ | ⟨q, vm₁, ⟨U', l2, c2, s2⟩, hW₁, X', ⟨g', mk, t, L, E, ce, e1, e2, hq, hce, hcv, hcl, h1, hL, h2, h3⟩, st⟩
  · dsimp only [Pt.U, Pt.locs, Pt.cells, Pt.slots] at X' e1 e2 h1 h2 h3 st
    subst h1; subst h2; subst h3
    exact Or.inl ⟨v, (T.setVm vm₁).calling g' mk (Value.ref b :: As).toArray, t, U', L, hT, X', hL, e1, e2, hq, st⟩
  · dsimp only [Pt.U, Pt.locs, Pt.cells, Pt.slots] at X' e1 e2 h1 h2 h3 st hcl
    subst h1; subst h2; subst h3
    exact Or.inr ⟨q, (T.setVm vm₁).calling g' mk (Value.ref b :: As).toArray, t, U', L, E, ce, hT, X', hL, e1, e2, hq, hce, hcv, vx_cls hW₁ hcl, st⟩
theorem vx_runSX {hh : List (Nat × Nat × Nat × Nat)} (S : CallFix p m c cc nL s args Ts own) (hM : vx_Met l y ws rm Pc Qc XC mc ms free) (cw : vx_CSW R s args own index y bytes maxL ret hh ws rm mc ms n) (hp : PreS s H Pc As)
    (hg : g.method = m) (hn : As.length = n) (hsize : g.locals.size = nL) (hstack : g.stack = As.reverse ++ rest) (hW : 2 * g.monitorRoom + (rest.map fun v => v.category).sum ≤ 8) (hdg : decode cc g.pc = .ok (.invokestatic index, 3)) (hf : cells + mc ≤ R.cells ∧ slots + ms ≤ R.slots) :
    vx_Run p l e R s m args below meth c H locs cells slots mc ms g rest (Qc As.toArray) XC free := by
  obtain ⟨⟨hrc, hrs, hfr, hlo, hws, hcw⟩, hcode, hini, hy, hlen, hl, hstt⟩ := cw
  have hK : vx_Back l R p e below s args y 3 8 (PreOf R mc ms Pc) (PostOf Qc mc ms free) (vx_Post XC mc ms free) := vx_backW (hh := hh) (bytes := bytes) (maxL := maxL) (ret := ret) hM hp.1 hrc hrs hfr hlo hws hcw (fun a' U hW => word_at hW (Or.inl (by first | rfl | simp [Cond.onTables, Cond.keeps, Cond.steady])) hini)
  obtain ⟨hx, hb, hml, ho, -⟩ := S
  intro T hT X
  rcases vx_callSX X hx (hh := hh) (bytes := bytes) (maxL := maxL) (ret := ret) ho hl hstt hini hcode hy hK hg (hsize.trans hml.symm) (argsL := As) (rest := rest) (fun sig h => hn.trans (hlen sig h)) hstack hW (by rw [hb]; exact hdg)
    (fun vm₁ hW₁ => ⟨hf.1, hf.2, hp.2 (T.setVm vm₁) hT hW₁⟩) with ⟨v, vm₁, ⟨U', l2, c2, s2⟩, hW₁, X', ⟨g', mk, t, L, e1, e2, hq, h1, hL, h2, h3⟩, st⟩ | ⟨q, vm₁, ⟨U', l2, c2, s2⟩, hW₁, X', ⟨g', mk, t, L, E, ce, e1, e2, hq, hce, hcv, hcl, h1, hL, h2, h3⟩, st⟩
  · dsimp only [Pt.U, Pt.locs, Pt.cells, Pt.slots] at X' e1 e2 h1 h2 h3 st
    subst h1; subst h2; subst h3
    exact Or.inl ⟨v, (T.setVm vm₁).calling g' mk As.toArray, t, U', L, hT, X', hL, e1, e2, hq, st⟩
  · dsimp only [Pt.U, Pt.locs, Pt.cells, Pt.slots] at X' e1 e2 h1 h2 h3 st hcl
    subst h1; subst h2; subst h3
    exact Or.inr ⟨q, (T.setVm vm₁).calling g' mk As.toArray, t, U', L, E, ce, hT, X', hL, e1, e2, hq, hce, hcv, vx_cls hW₁ hcl, st⟩
end
end VXH
theorem vx_ofWH {l : Launch} {y : MethodName} {ws ws' : List Cond} {rm : Room} {Pc : Array Value → State → Prop} {Qc : Array Value → State → Outcome → State → Prop} {XC : String → State → State → Prop} {mc ms : Nat} {free : Addr → Prop} {cc : ByteArray} {maxL : Nat} {ret : Option FieldType} {hh : List (Nat × Nat × Nat × Nat)}
    (hy : plainName y.cls = true) (hw : ws = Cond.codeWith y cc maxL ret hh :: ws')
    (body : ∀ p e s m args below meth c s₁, BodyLoose p l y (headSpec ws rm) cc maxL ret e s m args below meth c s₁ → c.maxLocals = maxL → Pc args s →
      W p l e (headSpec ws rm).room s m args below meth c s.heap [] 0 0 (vx_MQ below Qc XC args s mc ms free) (entryFrame m args maxL)) : vx_Met l y ws rm Pc Qc XC mc ms free := by
  refine MetFree.of_bodyS (code := cc) (maxLocals := maxL) (ret := ret) hy ?_ ?_
  · intro args s m h hn
    obtain ⟨m9, meth, c, hn9, h1, h2, h3, h4, -, h5, h6, -⟩ := Cond.codeWith_spec (atoms_spec (ws := ws) h _ (by rw [hw]; exact List.mem_cons_self))
    cases hn.symm.trans hn9
    exact ⟨meth, c, h1, h2, h3, h4, h5, h6⟩
  · intro p e s m args below meth c s₁ B hml hP _
    have hh0 : s₁.heap = s.heap := by rw [B.state]; rfl
    obtain ⟨t, a1, o, b1, b2, b3⟩ := body p e s m args below meth c s₁ B hml hP s₁ hh0 (Stand.of_body B)
    exact ⟨t, o, a1, b1, b2, b3⟩
/-! ===== END ===== -/
/-! ===== BEGIN a constructor that throws (launches without stack traces) ===== -/
section VXIA
variable {p : Program} {l : Launch} {e : Env} {R : Room} {s : State} {m : MethodId} {args : Array Value} {below : List Frame} {meth : Method} {c : Code} {T : State} {locs : List Loc} {cells slots : Nat}
theorem vx_callI (X : Stand p l e R s m args below meth c T locs cells slots) (hexec : p.tables.exec = Jvm.exec) {own : String} {index : Nat} {y : MethodName} {bytes : ByteArray} {maxL : Nat}
    (hown : s.vm.findClass own = some m.cls) (hy1 : y.name = "<init>") (hlink : (Cond.methodLink own index y).before args s = true) (hinst : (Cond.instanceMethod y).before args s = true)
    (hcode : (Cond.code y bytes maxL none).before args s = true) (hy : y.cls ≠ "java/lang/invoke/MethodHandle" ∧ y.cls ≠ "java/lang/invoke/VarHandle")
    {W9 : Nat} {Pre : Pt → Array Value → Prop} {Post : Pt → Array Value → Option Value → Pt → Prop} {PostX : Pt → Array Value → Addr → Pt → Prop} (hK : vx_Back l R p e below s args y 3 W9 Pre Post PostX)
    {g : JFrame} (hg : g.method = m) (hsize : g.locals.size = c.maxLocals) {a : Addr} {argsL rest : List Value} (hlen : ∀ sig, parseMethodDescriptor y.desc = some sig → argsL.length = sig.parameters.length)
    (hstack : g.stack = argsL.reverse ++ .ref a :: rest) (hW : 2 * g.monitorRoom + (rest.map fun v => v.category).sum ≤ W9) (hdg : decode c.code g.pc = .ok (.invokespecial index, 3))
    (hpre : ∀ vm₁, s.WarmedH vm₁ → Pre ⟨T.setVm vm₁, locs, cells, slots⟩ (Value.ref a :: argsL).toArray) :
    (∃ (v : Option Value) (vm₁ : Vm) (B : Pt), s.WarmedH vm₁ ∧ Stand p l e R s m args below meth c B.U B.locs B.cells B.slots ∧ Post ⟨T.setVm vm₁, locs, cells, slots⟩ (Value.ref a :: argsL).toArray v B ∧
      ∀ target, Steps p.tables e below (B.U.setTop { g with pc := g.pc + 3, stack := v.toList ++ rest }) target → Steps p.tables e below (T.setTop g) target) ∨
    (∃ (q : Addr) (vm₁ : Vm) (B : Pt), s.WarmedH vm₁ ∧ Stand p l e R s m args below meth c B.U B.locs B.cells B.slots ∧ PostX ⟨T.setVm vm₁, locs, cells, slots⟩ (Value.ref a :: argsL).toArray q B ∧
      Steps p.tables e below (T.setTop g) ((B.U.setTop { g with stack := rest }).pushFrame (.throwing q))) := by
  subst hg
  have hpl : e.platform.magicAccessors = ({} : Platform).magicAccessors := by rw [X.admits.platform]
  obtain ⟨mk, methM, cM, kP, vm₁, hnamed, hmethM, hcodeM, -, hlocalsM, -, hkP, -, hW₁, hstep₁⟩ := Steps.initColdArgs (e := e) X.here hexec X.warmed hpl hown hy1 hy hlink hinst hcode (f := g) rfl hlen hstack hdg
  have X₁ := X.noted hW₁
  rcases hK g.method meth c ⟨T.setVm vm₁, locs, cells, slots⟩ { g with stack := rest } (.invokespecial index) mk (Value.ref a :: argsL).toArray X₁ rfl hsize hdg hW (X₁.named hnamed) (hpre vm₁ X₁.warmed) with ⟨v, B, X', hpost, hsteps⟩ | ⟨q, B, X', hpost, hsteps⟩
  · exact Or.inl ⟨v, vm₁, B, X₁.warmed, X', hpost, fun target h => hstep₁ _ fun acts => by rw [doInvoke_state]; exact hsteps.trans h⟩
  · exact Or.inr ⟨q, vm₁, B, X₁.warmed, X', hpost, hstep₁ _ fun acts => by rw [doInvoke_state]; exact hsteps⟩
end VXIA
section VXIB
variable {p : Program} {l : Launch} {e : Env} {R : Room} {s : State} {m : MethodId} {args : Array Value} {below : List Frame} {meth : Method} {c : Code} {H : Heap} {locs : List Loc} {cells slots : Nat}
variable {y : MethodName} {bytes cc : ByteArray} {maxL nL mc ms n index : Nat} {ret : Option FieldType} {ws : List Cond} {rm : Room} {Pc : Array Value → State → Prop} {Qc : Array Value → State → Outcome → State → Prop} {XC : String → State → State → Prop} {free : Addr → Prop} {Ts : List Cond} {own C : String} {b : Addr} {As rest : List Value} {g : JFrame}
theorem vx_runI (S : CallFix p m c cc nL s args Ts own) (hM : vx_Met l y ws rm Pc Qc XC mc ms free) (cw : CallB R s args own index y bytes maxL none ws rm mc ms n ∧ y.name = "<init>" ∧ (Cond.instanceMethod y).before args s = true) (hp : PreS s H Pc (.ref b :: As))
    (hg : g.method = m) (hn : As.length = n) (hsize : g.locals.size = nL) (hstack : g.stack = As.reverse ++ .ref b :: rest) (hW : 2 * g.monitorRoom + (rest.map fun v => v.category).sum ≤ 8) (hdg : decode cc g.pc = .ok (.invokespecial index, 3)) (hf : cells + mc ≤ R.cells ∧ slots + ms ≤ R.slots) :
    vx_Run p l e R s m args below meth c H locs cells slots mc ms g rest (Qc (Value.ref b :: As).toArray) XC free := by
  have hK : vx_Back l R p e below s args y 3 8 (PreOf R mc ms Pc) (PostOf Qc mc ms free) (vx_Post XC mc ms free) := vx_callBack cw.1 hM hp.1
  obtain ⟨⟨-, -, -, -, -, -, hcode, -, hy, hlen, hl⟩, hy1, hin⟩ := cw
  obtain ⟨hx, hb, hml, ho, -⟩ := S
  have hPc := hp.2
  intro T hT X
  rcases vx_callI X hx (bytes := bytes) (maxL := maxL) ho hy1 hl hin hcode hy hK hg (hsize.trans hml.symm) (a := b) (argsL := As) (rest := rest) (fun sig h => hn.trans (hlen sig h)) hstack hW (by rw [hb]; exact hdg)
    (fun vm₁ hW₁ => ⟨hf.1, hf.2, hPc (T.setVm vm₁) hT hW₁⟩) with ⟨v, vm₁, ⟨U', l2, c2, s2⟩, hW₁, X', ⟨g', mk, t, L, e1, e2, hq, h1, hL, h2, h3⟩, st⟩ | ⟨q, vm₁, ⟨U', l2, c2, s2⟩, hW₁, X', ⟨g', mk, t, L, E, ce, e1, e2, hq, hce, hcv, hcl, h1, hL, h2, h3⟩, st⟩
  · dsimp only [Pt.U, Pt.locs, Pt.cells, Pt.slots] at X' e1 e2 h1 h2 h3 st
    subst h1; subst h2; subst h3
    exact Or.inl ⟨v, (T.setVm vm₁).calling g' mk (Value.ref b :: As).toArray, t, U', L, hT, X', hL, e1, e2, hq, st⟩
  · dsimp only [Pt.U, Pt.locs, Pt.cells, Pt.slots] at X' e1 e2 h1 h2 h3 st hcl
    subst h1; subst h2; subst h3
    exact Or.inr ⟨q, (T.setVm vm₁).calling g' mk (Value.ref b :: As).toArray, t, U', L, E, ce, hT, X', hL, e1, e2, hq, hce, hcv, vx_cls hW₁ hcl, st⟩
end VXIB
/-! ===== END ===== -/
/-! ===== BEGIN a private constructor of a nest mate that throws ===== -/
section VXIC
variable {p : Program} {l : Launch} {e : Env} {R : Room} {s : State} {m : MethodId} {args : Array Value} {below : List Frame} {meth : Method} {c : Code} {T : State} {locs : List Loc} {cells slots : Nat}
theorem vx_callIN (X : Stand p l e R s m args below meth c T locs cells slots) (hexec : p.tables.exec = Jvm.exec) {own : String} {index : Nat} {host : String} {y : MethodName} {bytes : ByteArray} {maxL : Nat}
    (hown : s.vm.findClass own = some m.cls) (hy1 : y.name = "<init>") (hlink : (Cond.methodLinkNest own index y host).before args s = true) (hinst : (Cond.instanceMethod y).before args s = true)
    (hcode : (Cond.code y bytes maxL none).before args s = true) (hy : y.cls ≠ "java/lang/invoke/MethodHandle" ∧ y.cls ≠ "java/lang/invoke/VarHandle")
    {W9 : Nat} {Pre : Pt → Array Value → Prop} {Post : Pt → Array Value → Option Value → Pt → Prop} {PostX : Pt → Array Value → Addr → Pt → Prop} (hK : vx_Back l R p e below s args y 3 W9 Pre Post PostX)
    {g : JFrame} (hg : g.method = m) (hsize : g.locals.size = c.maxLocals) {a : Addr} {argsL rest : List Value} (hlen : ∀ sig, parseMethodDescriptor y.desc = some sig → argsL.length = sig.parameters.length)
    (hstack : g.stack = argsL.reverse ++ .ref a :: rest) (hW : 2 * g.monitorRoom + (rest.map fun v => v.category).sum ≤ W9) (hdg : decode c.code g.pc = .ok (.invokespecial index, 3))
    (hpre : ∀ vm₁, s.WarmedH vm₁ → Pre ⟨T.setVm vm₁, locs, cells, slots⟩ (Value.ref a :: argsL).toArray) :
    (∃ (v : Option Value) (vm₁ : Vm) (B : Pt), s.WarmedH vm₁ ∧ Stand p l e R s m args below meth c B.U B.locs B.cells B.slots ∧ Post ⟨T.setVm vm₁, locs, cells, slots⟩ (Value.ref a :: argsL).toArray v B ∧
      ∀ target, Steps p.tables e below (B.U.setTop { g with pc := g.pc + 3, stack := v.toList ++ rest }) target → Steps p.tables e below (T.setTop g) target) ∨
    (∃ (q : Addr) (vm₁ : Vm) (B : Pt), s.WarmedH vm₁ ∧ Stand p l e R s m args below meth c B.U B.locs B.cells B.slots ∧ PostX ⟨T.setVm vm₁, locs, cells, slots⟩ (Value.ref a :: argsL).toArray q B ∧
      Steps p.tables e below (T.setTop g) ((B.U.setTop { g with stack := rest }).pushFrame (.throwing q))) := by
  subst hg
  have hpl : e.platform.magicAccessors = ({} : Platform).magicAccessors := by rw [X.admits.platform]
  obtain ⟨mk, methM, cM, kP, vm₁, hnamed, hmethM, hcodeM, -, hlocalsM, -, hkP, -, hW₁, hstep₁⟩ := Steps.initColdArgsNest (e := e) X.here hexec X.warmed hpl hown hy1 hy hlink hinst hcode (f := g) rfl hlen hstack hdg
  have X₁ := X.noted hW₁
  rcases hK g.method meth c ⟨T.setVm vm₁, locs, cells, slots⟩ { g with stack := rest } (.invokespecial index) mk (Value.ref a :: argsL).toArray X₁ rfl hsize hdg hW (X₁.named hnamed) (hpre vm₁ X₁.warmed) with ⟨v, B, X', hpost, hsteps⟩ | ⟨q, B, X', hpost, hsteps⟩
  · exact Or.inl ⟨v, vm₁, B, X₁.warmed, X', hpost, fun target h => hstep₁ _ fun acts => by rw [doInvoke_state]; exact hsteps.trans h⟩
  · exact Or.inr ⟨q, vm₁, B, X₁.warmed, X', hpost, hstep₁ _ fun acts => by rw [doInvoke_state]; exact hsteps⟩
end VXIC
section VXID
variable {p : Program} {l : Launch} {e : Env} {R : Room} {s : State} {m : MethodId} {args : Array Value} {below : List Frame} {meth : Method} {c : Code} {H : Heap} {locs : List Loc} {cells slots : Nat}
theorem vx_runIN {y : MethodName} {bytes cc : ByteArray} {maxL nL mc ms n index : Nat} {ws : List Cond} {rm : Room} {Pc : Array Value → State → Prop} {Qc : Array Value → State → Outcome → State → Prop} {XC : String → State → State → Prop} {free : Addr → Prop} {Ts : List Cond} {own host : String} {b : Addr} {As rest : List Value} {g : JFrame}
    (S : CallFix p m c cc nL s args Ts own) (hM : vx_Met l y ws rm Pc Qc XC mc ms free) (cw : va_CN R s args own index y host bytes maxL none ws rm mc ms n ∧ y.name = "<init>" ∧ (Cond.instanceMethod y).before args s = true) (hp : PreS s H Pc (.ref b :: As))
    (hg : g.method = m) (hn : As.length = n) (hsize : g.locals.size = nL) (hstack : g.stack = As.reverse ++ .ref b :: rest) (hW : 2 * g.monitorRoom + (rest.map fun v => v.category).sum ≤ 8) (hdg : decode cc g.pc = .ok (.invokespecial index, 3)) (hf : cells + mc ≤ R.cells ∧ slots + ms ≤ R.slots) :
    vx_Run p l e R s m args below meth c H locs cells slots mc ms g rest (Qc (Value.ref b :: As).toArray) XC free := by
  obtain ⟨⟨⟨hrc, hrs, hfr, hlo, hws, hcw⟩, hcode, hini, hy, hlen, hl⟩, hx1, hx2⟩ := cw
  have hK : vx_Back l R p e below s args y 3 8 (PreOf R mc ms Pc) (PostOf Qc mc ms free) (vx_Post XC mc ms free) := vx_back (bytes := bytes) (maxL := maxL) (ret := none) hM hp.1 hrc hrs hfr hlo hws hcw (fun a' U hW => word_at hW (Or.inl (by first | rfl | simp [Cond.onTables, Cond.keeps, Cond.steady])) hini)
  obtain ⟨hx, hb, hml, ho, -⟩ := S
  have hPc := hp.2
  intro T hT X
  rcases vx_callIN X hx (bytes := bytes) (maxL := maxL) ho hx1 hl hx2 hcode hy hK hg (hsize.trans hml.symm) (a := b) (argsL := As) (rest := rest) (fun sig h => hn.trans (hlen sig h)) hstack hW (by rw [hb]; exact hdg)
    (fun vm₁ hW₁ => ⟨hf.1, hf.2, hPc (T.setVm vm₁) hT hW₁⟩) with ⟨v, vm₁, ⟨U', l2, c2, s2⟩, hW₁, X', ⟨g', mk, t, L, e1, e2, hq, h1, hL, h2, h3⟩, st⟩ | ⟨q, vm₁, ⟨U', l2, c2, s2⟩, hW₁, X', ⟨g', mk, t, L, E, ce, e1, e2, hq, hce, hcv, hcl, h1, hL, h2, h3⟩, st⟩
  · dsimp only [Pt.U, Pt.locs, Pt.cells, Pt.slots] at X' e1 e2 h1 h2 h3 st
    subst h1; subst h2; subst h3
    exact Or.inl ⟨v, (T.setVm vm₁).calling g' mk (Value.ref b :: As).toArray, t, U', L, hT, X', hL, e1, e2, hq, st⟩
  · dsimp only [Pt.U, Pt.locs, Pt.cells, Pt.slots] at X' e1 e2 h1 h2 h3 st hcl
    subst h1; subst h2; subst h3
    exact Or.inr ⟨q, (T.setVm vm₁).calling g' mk (Value.ref b :: As).toArray, t, U', L, E, ce, hT, X', hL, e1, e2, hq, hce, hcv, vx_cls hW₁ hcl, st⟩
end VXID
/-! ===== BEGIN a private method of a nest mate that may throw (follows va_callVN, va_callSN, va_runVN, va_runSN) ===== -/
section
variable {p : Program} {l : Launch} {e : Env} {R : Room} {s : State} {m : MethodId} {args : Array Value} {below : List Frame} {meth : Method} {c : Code} {H : Heap} {locs : List Loc} {cells slots : Nat}
variable {T : State}
theorem vx_callVN (X : Stand p l e R s m args below meth c T locs cells slots) (hexec : p.tables.exec = Jvm.exec) {own C : String} {index : Nat} {host : String} {y : MethodName} {bytes : ByteArray} {maxL : Nat} {ret : Option FieldType}
    (hown : s.vm.findClass own = some m.cls) (hlink : (Cond.methodLinkNest own index y host).before args s = true) (hinst : (Cond.instanceMethod y).before args s = true) (hsel : (Cond.selects C y y).before args s = true)
    (hcode : (Cond.code y bytes maxL ret).before args s = true) (hy : y.cls ≠ "java/lang/invoke/MethodHandle" ∧ y.cls ≠ "java/lang/invoke/VarHandle")
    {W : Nat} {Pre : Pt → Array Value → Prop} {Post : Pt → Array Value → Option Value → Pt → Prop} {PostX : Pt → Array Value → Addr → Pt → Prop} (hK : vx_Back l R p e below s args y 3 W Pre Post PostX)
    {b : Addr} {cellB : Cell} (hcell : T.heap[b]? = some cellB) (hobj : cellB.vm.isStatics = false) (hcls : s.vm.findClass C = some cellB.cls)
    {g : JFrame} (hg : g.method = m) (hsize : g.locals.size = c.maxLocals) {argsL rest : List Value} (hlen : ∀ sig, parseMethodDescriptor y.desc = some sig → argsL.length = sig.parameters.length)
    (hstack : g.stack = argsL.reverse ++ .ref b :: rest) (hW : 2 * g.monitorRoom + (rest.map fun v => v.category).sum ≤ W) (hdg : decode c.code g.pc = .ok (.invokevirtual index, 3))
    (hpre : ∀ vm₁, s.WarmedH vm₁ → Pre ⟨T.setVm vm₁, locs, cells, slots⟩ (Value.ref b :: argsL).toArray) :
    (∃ (v : Option Value) (vm₁ : Vm) (B : Pt), s.WarmedH vm₁ ∧ Stand p l e R s m args below meth c B.U B.locs B.cells B.slots ∧ Post ⟨T.setVm vm₁, locs, cells, slots⟩ (Value.ref b :: argsL).toArray v B ∧
      ∀ target, Steps p.tables e below (B.U.setTop { g with pc := g.pc + 3, stack := v.toList ++ rest }) target → Steps p.tables e below (T.setTop g) target) ∨
    (∃ (q : Addr) (vm₁ : Vm) (B : Pt), s.WarmedH vm₁ ∧ Stand p l e R s m args below meth c B.U B.locs B.cells B.slots ∧ PostX ⟨T.setVm vm₁, locs, cells, slots⟩ (Value.ref b :: argsL).toArray q B ∧
      Steps p.tables e below (T.setTop g) ((B.U.setTop { g with stack := rest }).pushFrame (.throwing q))) := by
  obtain ⟨mk, methM, hnamed, hmethM, hstM, habM⟩ := Cond.instanceMethod_spec hinst
  obtain ⟨methM', cM, hmethM', -, -, -, -, -, -, hsigM⟩ := Cond.code_spec hnamed hcode
  cases hmethM.symm.trans hmethM'
  obtain ⟨c2, r2, m2, q1, q2, q3, q4, kP, hkP, hkPi⟩ := Cond.selects_spec hsel
  cases hcls.symm.trans q1
  cases (State.methodFound?_of_named hnamed hy).symm.trans q2
  cases hnamed.symm.trans q3
  have hselP : selectMethod e.platform s.vm cellB.cls mk = .method mk := by rw [Launch.admits_selectMethod X.admits]; exact q4
  obtain ⟨vm₁, X₁, hstep₁⟩ := X.invokevirtualNest hexec hown hlink hnamed hmethM hstM hkP hkPi hy (a := b) (cell := cellB) hcell
    (fun z h => by rw [h] at hobj; cases hobj) hselP hmethM habM hkP hkPi (g := g) hg (argsL := argsL) (rest := rest) (hlen _ hsigM) hstack hdg
  rcases hK m meth c ⟨T.setVm vm₁, locs, cells, slots⟩ { g with stack := rest } (.invokevirtual index) mk (Value.ref b :: argsL).toArray X₁ hg hsize hdg hW (X₁.named hnamed) (hpre vm₁ X₁.warmed) with ⟨v, B, X', hpost, hsteps⟩ | ⟨q, B, X', hpost, hsteps⟩
  · exact Or.inl ⟨v, vm₁, B, X₁.warmed, X', hpost, fun target h => hstep₁ _ fun acts => by rw [doInvoke_state]; exact hsteps.trans h⟩
  · exact Or.inr ⟨q, vm₁, B, X₁.warmed, X', hpost, hstep₁ _ fun acts => by rw [doInvoke_state]; exact hsteps⟩
theorem vx_callSN (X : Stand p l e R s m args below meth c T locs cells slots) (hexec : p.tables.exec = Jvm.exec) {own : String} {index : Nat} {host : String} {y : MethodName} {bytes : ByteArray} {maxL : Nat} {ret : Option FieldType}
    (hown : s.vm.findClass own = some m.cls) (hlink : (Cond.methodLinkNest own index y host).before args s = true) (hstat : (Cond.static y).before args s = true) (hinit : (Cond.initialized y.cls).before args s = true)
    (hcode : (Cond.code y bytes maxL ret).before args s = true) (hy : y.cls ≠ "java/lang/invoke/MethodHandle" ∧ y.cls ≠ "java/lang/invoke/VarHandle")
    {W : Nat} {Pre : Pt → Array Value → Prop} {Post : Pt → Array Value → Option Value → Pt → Prop} {PostX : Pt → Array Value → Addr → Pt → Prop} (hK : vx_Back l R p e below s args y 3 W Pre Post PostX)
    {g : JFrame} (hg : g.method = m) (hsize : g.locals.size = c.maxLocals) {argsL rest : List Value} (hlen : ∀ sig, parseMethodDescriptor y.desc = some sig → argsL.length = sig.parameters.length)
    (hstack : g.stack = argsL.reverse ++ rest) (hW : 2 * g.monitorRoom + (rest.map fun v => v.category).sum ≤ W) (hdg : decode c.code g.pc = .ok (.invokestatic index, 3))
    (hpre : ∀ vm₁, s.WarmedH vm₁ → Pre ⟨T.setVm vm₁, locs, cells, slots⟩ argsL.toArray) :
    (∃ (v : Option Value) (vm₁ : Vm) (B : Pt), s.WarmedH vm₁ ∧ Stand p l e R s m args below meth c B.U B.locs B.cells B.slots ∧ Post ⟨T.setVm vm₁, locs, cells, slots⟩ argsL.toArray v B ∧
      ∀ target, Steps p.tables e below (B.U.setTop { g with pc := g.pc + 3, stack := v.toList ++ rest }) target → Steps p.tables e below (T.setTop g) target) ∨
    (∃ (q : Addr) (vm₁ : Vm) (B : Pt), s.WarmedH vm₁ ∧ Stand p l e R s m args below meth c B.U B.locs B.cells B.slots ∧ PostX ⟨T.setVm vm₁, locs, cells, slots⟩ argsL.toArray q B ∧
      Steps p.tables e below (T.setTop g) ((B.U.setTop { g with stack := rest }).pushFrame (.throwing q))) := by
  obtain ⟨mk, hnamed⟩ := Cond.code_named hcode
  obtain ⟨methM, cM, hmethM, -, -, -, -, -, -, hsigM⟩ := Cond.code_spec hnamed hcode
  have hstatic : methM.isStatic = true := Cond.static_spec hnamed hmethM hstat
  obtain ⟨kP, hkP, -⟩ := className_of_methodNamed hnamed
  have hinitP : kP.init = .initialized := Cond.initialized_spec (findClass_of_methodNamed hnamed) hkP hinit
  obtain ⟨vm₁, X₁, hstep₁⟩ := X.invokestaticNest hexec hown hlink hnamed hmethM hstatic hkP hinitP hy (g := g) hg (argsL := argsL) (rest := rest) (hlen _ hsigM) hstack hdg
  rcases hK m meth c ⟨T.setVm vm₁, locs, cells, slots⟩ { g with stack := rest } (.invokestatic index) mk argsL.toArray X₁ hg hsize hdg hW (X₁.named hnamed) (hpre vm₁ X₁.warmed) with ⟨v, B, X', hpost, hsteps⟩ | ⟨q, B, X', hpost, hsteps⟩
  · exact Or.inl ⟨v, vm₁, B, X₁.warmed, X', hpost, fun target h => hstep₁ _ fun acts => by rw [doInvoke_state]; exact hsteps.trans h⟩
  · exact Or.inr ⟨q, vm₁, B, X₁.warmed, X', hpost, hstep₁ _ fun acts => by rw [doInvoke_state]; exact hsteps⟩
theorem vx_runVN {y : MethodName} {bytes cc : ByteArray} {maxL nL mc ms n index : Nat} {ret : Option FieldType} {ws : List Cond} {rm : Room} {Pc : Array Value → State → Prop} {Qc : Array Value → State → Outcome → State → Prop} {XC : String → State → State → Prop} {free : Addr → Prop} {Ts : List Cond} {own C host : String} {b : Addr} {As rest : List Value} {g : JFrame}
    (S : CallFix p m c cc nL s args Ts own) (hM : vx_Met l y ws rm Pc Qc XC mc ms free) (cw : va_CN R s args own index y host bytes maxL ret ws rm mc ms n ∧ (Cond.instanceMethod y).before args s = true ∧ (Cond.selects C y y).before args s = true) (hp : PreV s H C b Pc As)
    (hg : g.method = m) (hn : As.length = n) (hsize : g.locals.size = nL) (hstack : g.stack = As.reverse ++ .ref b :: rest) (hW : 2 * g.monitorRoom + (rest.map fun v => v.category).sum ≤ 8) (hdg : decode cc g.pc = .ok (.invokevirtual index, 3)) (hf : cells + mc ≤ R.cells ∧ slots + ms ≤ R.slots) :
    vx_Run p l e R s m args below meth c H locs cells slots mc ms g rest (Qc (Value.ref b :: As).toArray) XC free := by
  obtain ⟨⟨⟨hrc, hrs, hfr, hlo, hws, hcw⟩, hcode, hini, hy, hlen, hl⟩, hx1, hx2⟩ := cw
  have hK : vx_Back l R p e below s args y 3 8 (PreOf R mc ms Pc) (PostOf Qc mc ms free) (vx_Post XC mc ms free) := vx_back (bytes := bytes) (maxL := maxL) (ret := ret) hM hp.1 hrc hrs hfr hlo hws hcw (fun a' U hW => word_at hW (Or.inl (by first | rfl | simp [Cond.onTables, Cond.keeps, Cond.steady])) hini)
  obtain ⟨hx, hb, hml, ho, -⟩ := S
  obtain ⟨-, ⟨cellB, hcB, hoB, hclB⟩, hPc⟩ := hp
  intro T hT X
  rcases vx_callVN X hx (C := C) (bytes := bytes) (maxL := maxL) (ret := ret) ho hl hx1 hx2 hcode hy hK (by rw [hT]; exact hcB) hoB hclB hg (hsize.trans hml.symm) (argsL := As) (rest := rest) (fun sig h => hn.trans (hlen sig h)) hstack hW (by rw [hb]; exact hdg)
    (fun vm₁ hW₁ => ⟨hf.1, hf.2, hPc (T.setVm vm₁) hT hW₁⟩) with ⟨v, vm₁, ⟨U', l2, c2, s2⟩, hW₁, X', ⟨g', mk, t, L, e1, e2, hq, h1, hL, h2, h3⟩, st⟩ | ⟨q, vm₁, ⟨U', l2, c2, s2⟩, hW₁, X', ⟨g', mk, t, L, E, ce, e1, e2, hq, hce, hcv, hcl, h1, hL, h2, h3⟩, st⟩
  · dsimp only [Pt.U, Pt.locs, Pt.cells, Pt.slots] at X' e1 e2 h1 h2 h3 st
    subst h1; subst h2; subst h3
    exact Or.inl ⟨v, (T.setVm vm₁).calling g' mk (Value.ref b :: As).toArray, t, U', L, hT, X', hL, e1, e2, hq, st⟩
  · dsimp only [Pt.U, Pt.locs, Pt.cells, Pt.slots] at X' e1 e2 h1 h2 h3 st hcl
    subst h1; subst h2; subst h3
    exact Or.inr ⟨q, (T.setVm vm₁).calling g' mk (Value.ref b :: As).toArray, t, U', L, E, ce, hT, X', hL, e1, e2, hq, hce, hcv, vx_cls hW₁ hcl, st⟩
theorem vx_runSN {y : MethodName} {bytes cc : ByteArray} {maxL nL mc ms n index : Nat} {ret : Option FieldType} {ws : List Cond} {rm : Room} {Pc : Array Value → State → Prop} {Qc : Array Value → State → Outcome → State → Prop} {XC : String → State → State → Prop} {free : Addr → Prop} {Ts : List Cond} {own host : String} {As rest : List Value} {g : JFrame}
    (S : CallFix p m c cc nL s args Ts own) (hM : vx_Met l y ws rm Pc Qc XC mc ms free) (cw : va_CN R s args own index y host bytes maxL ret ws rm mc ms n ∧ (Cond.static y).before args s = true ∧ True) (hp : PreS s H Pc As)
    (hg : g.method = m) (hn : As.length = n) (hsize : g.locals.size = nL) (hstack : g.stack = As.reverse ++ rest) (hW : 2 * g.monitorRoom + (rest.map fun v => v.category).sum ≤ 8) (hdg : decode cc g.pc = .ok (.invokestatic index, 3)) (hf : cells + mc ≤ R.cells ∧ slots + ms ≤ R.slots) :
    vx_Run p l e R s m args below meth c H locs cells slots mc ms g rest (Qc As.toArray) XC free := by
  obtain ⟨⟨⟨hrc, hrs, hfr, hlo, hws, hcw⟩, hcode, hini, hy, hlen, hl⟩, hx1, hx2⟩ := cw
  have hK : vx_Back l R p e below s args y 3 8 (PreOf R mc ms Pc) (PostOf Qc mc ms free) (vx_Post XC mc ms free) := vx_back (bytes := bytes) (maxL := maxL) (ret := ret) hM hp.1 hrc hrs hfr hlo hws hcw (fun a' U hW => word_at hW (Or.inl (by first | rfl | simp [Cond.onTables, Cond.keeps, Cond.steady])) hini)
  obtain ⟨hx, hb, hml, ho, -⟩ := S
  have hPc := hp.2
  intro T hT X
  rcases vx_callSN X hx (bytes := bytes) (maxL := maxL) (ret := ret) ho hl hx1 hini hcode hy hK hg (hsize.trans hml.symm) (argsL := As) (rest := rest) (fun sig h => hn.trans (hlen sig h)) hstack hW (by rw [hb]; exact hdg)
    (fun vm₁ hW₁ => ⟨hf.1, hf.2, hPc (T.setVm vm₁) hT hW₁⟩) with ⟨v, vm₁, ⟨U', l2, c2, s2⟩, hW₁, X', ⟨g', mk, t, L, e1, e2, hq, h1, hL, h2, h3⟩, st⟩ | ⟨q, vm₁, ⟨U', l2, c2, s2⟩, hW₁, X', ⟨g', mk, t, L, E, ce, e1, e2, hq, hce, hcv, hcl, h1, hL, h2, h3⟩, st⟩
  · dsimp only [Pt.U, Pt.locs, Pt.cells, Pt.slots] at X' e1 e2 h1 h2 h3 st
    subst h1; subst h2; subst h3
    exact Or.inl ⟨v, (T.setVm vm₁).calling g' mk As.toArray, t, U', L, hT, X', hL, e1, e2, hq, st⟩
  · dsimp only [Pt.U, Pt.locs, Pt.cells, Pt.slots] at X' e1 e2 h1 h2 h3 st hcl
    subst h1; subst h2; subst h3
    exact Or.inr ⟨q, (T.setVm vm₁).calling g' mk As.toArray, t, U', L, E, ce, hT, X', hL, e1, e2, hq, hce, hcv, vx_cls hW₁ hcl, st⟩
end
/-! ===== END ===== -/
/-! ===== BEGIN calls by an interface of methods that may throw (vx_callIF, vx_runF follow va_callIF, va_runF of this kit) ===== -/
section
variable {p : Program} {l : Launch} {e : Env} {R : Room} {s : State} {m : MethodId} {args : Array Value} {below : List Frame} {meth : Method} {c : Code} {H : Heap} {locs : List Loc} {cells slots : Nat} {Q : State → Prop}
variable {mc ms : Nat} {free : Addr → Prop} {A0 A1 : Nat → Prop} {H0 : Heap} {a : Array Value} {pc : Nat} {ls : Array Slot} {st0 rest : List Value}
def vx_Run5 (p : Program) (l : Launch) (e : Env) (R : Room) (s : State) (m : MethodId) (args : Array Value) (below : List Frame) (meth : Method) (c : Code) (H : Heap) (locs : List Loc) (cells slots mc ms : Nat) (g : JFrame) (rest : List Value) (Qa : State → Outcome → State → Prop) (XC : String → State → State → Prop) (free : Addr → Prop) : Prop :=
  ∀ T : State, T.heap = H → Stand p l e R s m args below meth c T locs cells slots →
    (∃ (v : Option Value) (st₀ t T' : State) (L : List Loc), st₀.heap = H ∧ Stand p l e R s m args below meth c T' (locs ++ L) (cells + mc) (slots + ms) ∧ (∀ q ∈ L, free q.base) ∧ T'.heap = t.heap ∧ T'.vm = t.vm ∧ Qa st₀ (.returned v) t ∧
      Goes p e below T g T' { g with pc := g.pc + 5, stack := v.toList ++ rest }) ∨
    (∃ (q : Addr) (st₀ t T' : State) (L : List Loc) (E : String) (ce : Cell), st₀.heap = H ∧ Stand p l e R s m args below meth c T' (locs ++ L) (cells + mc) (slots + ms) ∧ (∀ z ∈ L, free z.base) ∧ T'.heap = t.heap ∧ T'.vm = t.vm ∧ XC E st₀ t ∧ t.heap[q]? = some ce ∧ ce.vm = .none ∧ s.vm.findClass E = some ce.cls ∧
      Steps p.tables e below (T.setTop g) ((T'.setTop { g with stack := rest }).pushFrame (.throwing q)))
theorem vx_callIF {T : State} (X : Stand p l e R s m args below meth c T locs cells slots) (hexec : p.tables.exec = Jvm.exec) {own C : String} {index count : Nat} {x y : MethodName} {bytes : ByteArray} {maxL : Nat} {ret : Option FieldType}
    (hown : s.vm.findClass own = some m.cls) (hlink : (Cond.methodLink own index x).before args s = true) (hdecl : (Cond.declares x).before args s = true) (hface : (Cond.interfaceMethod x.cls x.cls x.name x.desc).before args s = true)
    (hsel : (Cond.selects C x y).before args s = true) (hinst : (Cond.instanceMethod y).before args s = true) (hpub : (Cond.publicMethod y).before args s = true) (hunh : (Cond.unhidden C x.name x.desc).before args s = true)
    (hcast : (Cond.castable C x.cls).before args s = true) (hcode : (Cond.code y bytes maxL ret).before args s = true) (hx : x.cls ≠ "java/lang/invoke/MethodHandle" ∧ x.cls ≠ "java/lang/invoke/VarHandle")
    {W9 : Nat} {Pre : Pt → Array Value → Prop} {Post : Pt → Array Value → Option Value → Pt → Prop} {PostX : Pt → Array Value → Addr → Pt → Prop} (hK : vx_Back l R p e below s args y 5 W9 Pre Post PostX)
    {b : Addr} {cellB : Cell} {kB : Class} (hcell : T.heap[b]? = some cellB) (hobj : cellB.vm.isStatics = false) (hcls : s.vm.findClass C = some cellB.cls) (hkB : s.vm.classes[cellB.cls]? = some kB)
    {g : JFrame} (hg : g.method = m) (hsize : g.locals.size = c.maxLocals) {argsL rest : List Value} (hlen : ∀ sig, parseMethodDescriptor x.desc = some sig → argsL.length = sig.parameters.length)
    (hstack : g.stack = argsL.reverse ++ .ref b :: rest) (hW : 2 * g.monitorRoom + (rest.map fun v => v.category).sum ≤ W9) (hdg : decode c.code g.pc = .ok (.invokeinterface index count, 5))
    (hpre : ∀ vm₁, s.WarmedH vm₁ → Pre ⟨T.setVm vm₁, locs, cells, slots⟩ (Value.ref b :: argsL).toArray) :
    (∃ (v : Option Value) (vm₁ : Vm) (B : Pt), s.WarmedH vm₁ ∧ Stand p l e R s m args below meth c B.U B.locs B.cells B.slots ∧ Post ⟨T.setVm vm₁, locs, cells, slots⟩ (Value.ref b :: argsL).toArray v B ∧
      ∀ target, Steps p.tables e below (B.U.setTop { g with pc := g.pc + 5, stack := v.toList ++ rest }) target → Steps p.tables e below (T.setTop g) target) ∨
    (∃ (q : Addr) (vm₁ : Vm) (B : Pt), s.WarmedH vm₁ ∧ Stand p l e R s m args below meth c B.U B.locs B.cells B.slots ∧ PostX ⟨T.setVm vm₁, locs, cells, slots⟩ (Value.ref b :: argsL).toArray q B ∧
      Steps p.tables e below (T.setTop g) ((B.U.setTop { g with stack := rest }).pushFrame (.throwing q))) := by
  obtain ⟨r0, r, hn, hrm, hstR, hsigR⟩ := Cond.declares_spec hdecl
  obtain ⟨cL, kL, r1, hcL, hkL, hiL, hfoundL, hn1⟩ := Cond.interfaceMethod_spec hface
  cases hn.symm.trans hn1
  have hr0cls : r0.cls = cL := Option.some.inj ((findClass_of_methodNamed hn).symm.trans hcL)
  obtain ⟨hnameR, hdescR⟩ := name_of_methodNamed hn hrm
  obtain ⟨mk, methM, hnamed, hmethM, -, habM⟩ := Cond.instanceMethod_spec hinst
  obtain ⟨c2, r2, m2, q1, q2, q3, q4, -⟩ := Cond.selects_spec hsel
  cases hcls.symm.trans q1
  cases hfoundL.symm.trans q2
  cases hnamed.symm.trans q3
  have hselP : selectMethod e.platform s.vm cellB.cls r0 = .method mk := by rw [Launch.admits_selectMethod X.admits]; exact q4
  have hpubM : hasFlag methM.accessFlags Acc.public_ = true := Cond.publicMethod_spec hnamed hmethM hpub
  have hway : ((cellB.cls :: s.vm.superclasses cellB.cls).any fun k => (declaredIn s.vm r.name r.desc k).any fun (_, z) => z.isPrivate || z.isStatic) = false := by
    rw [hnameR, hdescR]; exact Cond.unhidden_spec hcls hunh
  obtain ⟨c3, t3, w1, w2, w3⟩ := Cond.castable_spec hcast
  cases hcls.symm.trans w1
  cases hcL.symm.trans w2
  obtain ⟨vm₁, X₁, hstep₁⟩ := X.invokeinterface hexec hown hlink hn hrm hstR (by rw [hr0cls]; exact hkL) hiL hx (a := b) (cell := cellB) (kcell := kB) hcell
    (fun z h => by rw [h] at hobj; cases hobj) hkB (by rw [hr0cls]; exact w3) hselP hmethM hway hpubM habM (g := g) hg (argsL := argsL) (rest := rest) (hlen _ hsigR) hstack hdg
  rcases hK m meth c ⟨T.setVm vm₁, locs, cells, slots⟩ { g with stack := rest } (.invokeinterface index count) mk (Value.ref b :: argsL).toArray X₁ hg hsize hdg hW (X₁.named hnamed) (hpre vm₁ X₁.warmed) with ⟨v, B, X', hpost, hsteps⟩ | ⟨q, B, X', hpost, hsteps⟩
  · exact Or.inl ⟨v, vm₁, B, X₁.warmed, X', hpost, fun target h => hstep₁ _ fun acts => by rw [doInvoke_state]; exact hsteps.trans h⟩
  · exact Or.inr ⟨q, vm₁, B, X₁.warmed, X', hpost, hstep₁ _ fun acts => by rw [doInvoke_state]; exact hsteps⟩
theorem vx_runF {x y : MethodName} {bytes cc : ByteArray} {maxL nL mc ms n index count : Nat} {ret : Option FieldType} {ws : List Cond} {rm : Room} {Pc : Array Value → State → Prop} {Qc : Array Value → State → Outcome → State → Prop} {XC : String → State → State → Prop} {free : Addr → Prop} {Ts : List Cond} {own C : String} {cC : ClassId} {b : Addr} {As rest : List Value} {g : JFrame}
    (hat : ClassAt s C cC) (S : CallFix p m c cc nL s args Ts own) (hM : vx_Met l y ws rm Pc Qc XC mc ms free) (cw : va_CI R s args own C index x y bytes maxL ret ws rm mc ms n) (hp : PreV s H C b Pc As)
    (hg : g.method = m) (hn : As.length = n) (hsize : g.locals.size = nL) (hstack : g.stack = As.reverse ++ .ref b :: rest) (hW : 2 * g.monitorRoom + (rest.map fun v => v.category).sum ≤ 8) (hdg : decode cc g.pc = .ok (.invokeinterface index count, 5)) (hf : cells + mc ≤ R.cells ∧ slots + ms ≤ R.slots) :
    vx_Run5 p l e R s m args below meth c H locs cells slots mc ms g rest (Qc (Value.ref b :: As).toArray) XC free := by
  obtain ⟨hrc, hrs, hfr, hlo, hws, hcw⟩ := cw.back
  have hini := cw.init
  have hK : vx_Back l R p e below s args y 5 8 (PreOf R mc ms Pc) (PostOf Qc mc ms free) (vx_Post XC mc ms free) := vx_back (bytes := bytes) (maxL := maxL) (ret := ret) hM hp.1 hrc hrs hfr hlo hws hcw (fun a' U hW => word_at hW (Or.inl (by first | rfl | simp [Cond.onTables, Cond.keeps, Cond.steady])) hini)
  obtain ⟨hx, hb, hml, ho, -⟩ := S
  obtain ⟨-, ⟨cellB, hcB, hoB, hclB⟩, hPc⟩ := hp
  obtain ⟨hfc, kB, hkB, -⟩ := hat
  cases hfc.symm.trans hclB
  intro T hT X
  rcases vx_callIF X hx (C := C) (bytes := bytes) (maxL := maxL) (ret := ret) ho cw.link cw.decl cw.face cw.sel cw.inst cw.pub cw.unh cw.cast cw.code cw.notMH hK (by rw [hT]; exact hcB) hoB hclB hkB hg (hsize.trans hml.symm) (argsL := As) (rest := rest) (fun sig h => hn.trans (cw.len sig h)) hstack hW (by rw [hb]; exact hdg)
    (fun vm₁ hW₁ => ⟨hf.1, hf.2, hPc (T.setVm vm₁) hT hW₁⟩) with ⟨v, vm₁, ⟨U', l2, c2, s2⟩, hW₁, X', ⟨g', mk, t, L, e1, e2, hq, h1, hL, h2, h3⟩, st⟩ | ⟨q, vm₁, ⟨U', l2, c2, s2⟩, hW₁, X', ⟨g', mk, t, L, E, ce, e1, e2, hq, hce, hcv, hcl, h1, hL, h2, h3⟩, st⟩
  · dsimp only [Pt.U, Pt.locs, Pt.cells, Pt.slots] at X' e1 e2 h1 h2 h3 st
    subst h1; subst h2; subst h3
    exact Or.inl ⟨v, (T.setVm vm₁).calling g' mk (Value.ref b :: As).toArray, t, U', L, hT, X', hL, e1, e2, hq, st⟩
  · dsimp only [Pt.U, Pt.locs, Pt.cells, Pt.slots] at X' e1 e2 h1 h2 h3 st hcl
    subst h1; subst h2; subst h3
    exact Or.inr ⟨q, (T.setVm vm₁).calling g' mk (Value.ref b :: As).toArray, t, U', L, E, ce, hT, X', hL, e1, e2, hq, hce, hcv, vx_cls hW₁ hcl, st⟩
theorem vx_callFv {S SX : Type} {post : S → Prop} {px : SX → Prop} {B : S → State → Prop} {BX : String → SX → State → Prop} {AX : Nat → Prop} (hr : vx_Run5 p l e R s m args below meth c H locs cells slots mc ms (F0 m pc ls st0) rest (va_Qv post B A1 a) (vx_X px BX AX) free) (hS : va_S A0 H0 H locs) (hA : ∀ q, q < H.size → A1 q → A0 q) (hf : ∀ q, free q → A0 q) (hAX : ∀ q, q < H.size → AX q → A0 q)
    (kx : ∀ (E : String) (ce : Cell) (q9 : Addr) (u : SX) (t : State) (H1 : Heap) (locs1 : List Loc), t.heap = H1 → s.vm.Alike t.vm → px u → BX E u t → H.size ≤ H1.size → (∀ q : Nat, q < H.size → ¬ AX q → H1[q]? = H[q]?) → va_S A0 H0 H1 locs1 → H1[q9]? = some ce → ce.vm = .none → s.vm.findClass E = some ce.cls → vx_W p l e R s m args below meth c H1 locs1 (cells + mc) (slots + ms) Q (F0 m pc ls rest) q9)
    (kk : ∀ (u : S) (t : State) (H1 : Heap) (locs1 : List Loc), t.heap = H1 → s.vm.Alike t.vm → post u → B u t → H.size ≤ H1.size → (∀ q : Nat, q < H.size → ¬ A1 q → H1[q]? = H[q]?) → va_S A0 H0 H1 locs1 → W p l e R s m args below meth c H1 locs1 (cells + mc) (slots + ms) Q (F0 m (pc + 5) ls (rest))) : W p l e R s m args below meth c H locs cells slots Q (F0 m pc ls st0) := by
  intro T hT X
  rcases hr T hT X with ⟨v, st₀, t, T', L, h0, X', hL, e1, e2, ⟨⟨u, hv, hp, hb⟩, hF⟩, st⟩ | ⟨q, st₀, t, T', L, E, ce, h0, X', hL, e1, e2, ⟨u, hp, hb, hF⟩, hce, hcv, hcl, st⟩
  · cases hv
    obtain ⟨k1, k2, k3⟩ := vx_keep h0 e1 hS hA hf hL hF
    obtain ⟨t2, a1, b1⟩ := kk u t T'.heap (locs ++ L) e1.symm (by rw [← e2]; exact X'.warmed.alike) hp hb k1 k2 k3 T' rfl X'
    exact ⟨t2, st t2 a1, b1⟩
  · obtain ⟨k1, k2, k3⟩ := vx_keep h0 e1 hS hAX hf hL hF
    obtain ⟨t2, a1, b1⟩ := kx E ce q u t T'.heap (locs ++ L) e1.symm (by rw [← e2]; exact X'.warmed.alike) hp hb k1 k2 k3 (by rw [e1]; exact hce) hcv hcl T' rfl X'
    exact ⟨t2, st.trans a1, b1⟩
theorem vx_callFi {S SX : Type} {post : Int32 → S → Prop} {px : SX → Prop} {B : S → State → Prop} {BX : String → SX → State → Prop} {AX : Nat → Prop} (hr : vx_Run5 p l e R s m args below meth c H locs cells slots mc ms (F0 m pc ls st0) rest (va_Qi post B A1 a) (vx_X px BX AX) free) (hS : va_S A0 H0 H locs) (hA : ∀ q, q < H.size → A1 q → A0 q) (hf : ∀ q, free q → A0 q) (hAX : ∀ q, q < H.size → AX q → A0 q)
    (kx : ∀ (E : String) (ce : Cell) (q9 : Addr) (u : SX) (t : State) (H1 : Heap) (locs1 : List Loc), t.heap = H1 → s.vm.Alike t.vm → px u → BX E u t → H.size ≤ H1.size → (∀ q : Nat, q < H.size → ¬ AX q → H1[q]? = H[q]?) → va_S A0 H0 H1 locs1 → H1[q9]? = some ce → ce.vm = .none → s.vm.findClass E = some ce.cls → vx_W p l e R s m args below meth c H1 locs1 (cells + mc) (slots + ms) Q (F0 m pc ls rest) q9)
    (kk : ∀ (r : Int32) (u : S) (t : State) (H1 : Heap) (locs1 : List Loc), t.heap = H1 → s.vm.Alike t.vm → post r u → B u t → H.size ≤ H1.size → (∀ q : Nat, q < H.size → ¬ A1 q → H1[q]? = H[q]?) → va_S A0 H0 H1 locs1 → W p l e R s m args below meth c H1 locs1 (cells + mc) (slots + ms) Q (F0 m (pc + 5) ls (.int r :: rest))) : W p l e R s m args below meth c H locs cells slots Q (F0 m pc ls st0) := by
  intro T hT X
  rcases hr T hT X with ⟨v, st₀, t, T', L, h0, X', hL, e1, e2, ⟨⟨r, u, hv, hp, hb⟩, hF⟩, st⟩ | ⟨q, st₀, t, T', L, E, ce, h0, X', hL, e1, e2, ⟨u, hp, hb, hF⟩, hce, hcv, hcl, st⟩
  · cases hv
    obtain ⟨k1, k2, k3⟩ := vx_keep h0 e1 hS hA hf hL hF
    obtain ⟨t2, a1, b1⟩ := kk r u t T'.heap (locs ++ L) e1.symm (by rw [← e2]; exact X'.warmed.alike) hp hb k1 k2 k3 T' rfl X'
    exact ⟨t2, st t2 a1, b1⟩
  · obtain ⟨k1, k2, k3⟩ := vx_keep h0 e1 hS hAX hf hL hF
    obtain ⟨t2, a1, b1⟩ := kx E ce q u t T'.heap (locs ++ L) e1.symm (by rw [← e2]; exact X'.warmed.alike) hp hb k1 k2 k3 (by rw [e1]; exact hce) hcv hcl T' rfl X'
    exact ⟨t2, st.trans a1, b1⟩
theorem vx_callFl {S SX : Type} {post : Int64 → S → Prop} {px : SX → Prop} {B : S → State → Prop} {BX : String → SX → State → Prop} {AX : Nat → Prop} (hr : vx_Run5 p l e R s m args below meth c H locs cells slots mc ms (F0 m pc ls st0) rest (va_Ql post B A1 a) (vx_X px BX AX) free) (hS : va_S A0 H0 H locs) (hA : ∀ q, q < H.size → A1 q → A0 q) (hf : ∀ q, free q → A0 q) (hAX : ∀ q, q < H.size → AX q → A0 q)
    (kx : ∀ (E : String) (ce : Cell) (q9 : Addr) (u : SX) (t : State) (H1 : Heap) (locs1 : List Loc), t.heap = H1 → s.vm.Alike t.vm → px u → BX E u t → H.size ≤ H1.size → (∀ q : Nat, q < H.size → ¬ AX q → H1[q]? = H[q]?) → va_S A0 H0 H1 locs1 → H1[q9]? = some ce → ce.vm = .none → s.vm.findClass E = some ce.cls → vx_W p l e R s m args below meth c H1 locs1 (cells + mc) (slots + ms) Q (F0 m pc ls rest) q9)
    (kk : ∀ (r : Int64) (u : S) (t : State) (H1 : Heap) (locs1 : List Loc), t.heap = H1 → s.vm.Alike t.vm → post r u → B u t → H.size ≤ H1.size → (∀ q : Nat, q < H.size → ¬ A1 q → H1[q]? = H[q]?) → va_S A0 H0 H1 locs1 → W p l e R s m args below meth c H1 locs1 (cells + mc) (slots + ms) Q (F0 m (pc + 5) ls (.long r :: rest))) : W p l e R s m args below meth c H locs cells slots Q (F0 m pc ls st0) := by
  intro T hT X
  rcases hr T hT X with ⟨v, st₀, t, T', L, h0, X', hL, e1, e2, ⟨⟨r, u, hv, hp, hb⟩, hF⟩, st⟩ | ⟨q, st₀, t, T', L, E, ce, h0, X', hL, e1, e2, ⟨u, hp, hb, hF⟩, hce, hcv, hcl, st⟩
  · cases hv
    obtain ⟨k1, k2, k3⟩ := vx_keep h0 e1 hS hA hf hL hF
    obtain ⟨t2, a1, b1⟩ := kk r u t T'.heap (locs ++ L) e1.symm (by rw [← e2]; exact X'.warmed.alike) hp hb k1 k2 k3 T' rfl X'
    exact ⟨t2, st t2 a1, b1⟩
  · obtain ⟨k1, k2, k3⟩ := vx_keep h0 e1 hS hAX hf hL hF
    obtain ⟨t2, a1, b1⟩ := kx E ce q u t T'.heap (locs ++ L) e1.symm (by rw [← e2]; exact X'.warmed.alike) hp hb k1 k2 k3 (by rw [e1]; exact hce) hcv hcl T' rfl X'
    exact ⟨t2, st.trans a1, b1⟩
theorem vx_callFf {S SX : Type} {post : UInt32 → S → Prop} {px : SX → Prop} {B : S → State → Prop} {BX : String → SX → State → Prop} {AX : Nat → Prop} (hr : vx_Run5 p l e R s m args below meth c H locs cells slots mc ms (F0 m pc ls st0) rest (va_Qf post B A1 a) (vx_X px BX AX) free) (hS : va_S A0 H0 H locs) (hA : ∀ q, q < H.size → A1 q → A0 q) (hf : ∀ q, free q → A0 q) (hAX : ∀ q, q < H.size → AX q → A0 q)
    (kx : ∀ (E : String) (ce : Cell) (q9 : Addr) (u : SX) (t : State) (H1 : Heap) (locs1 : List Loc), t.heap = H1 → s.vm.Alike t.vm → px u → BX E u t → H.size ≤ H1.size → (∀ q : Nat, q < H.size → ¬ AX q → H1[q]? = H[q]?) → va_S A0 H0 H1 locs1 → H1[q9]? = some ce → ce.vm = .none → s.vm.findClass E = some ce.cls → vx_W p l e R s m args below meth c H1 locs1 (cells + mc) (slots + ms) Q (F0 m pc ls rest) q9)
    (kk : ∀ (r : UInt32) (u : S) (t : State) (H1 : Heap) (locs1 : List Loc), t.heap = H1 → s.vm.Alike t.vm → post r u → B u t → H.size ≤ H1.size → (∀ q : Nat, q < H.size → ¬ A1 q → H1[q]? = H[q]?) → va_S A0 H0 H1 locs1 → W p l e R s m args below meth c H1 locs1 (cells + mc) (slots + ms) Q (F0 m (pc + 5) ls (.float r :: rest))) : W p l e R s m args below meth c H locs cells slots Q (F0 m pc ls st0) := by
  intro T hT X
  rcases hr T hT X with ⟨v, st₀, t, T', L, h0, X', hL, e1, e2, ⟨⟨r, u, hv, hp, hb⟩, hF⟩, st⟩ | ⟨q, st₀, t, T', L, E, ce, h0, X', hL, e1, e2, ⟨u, hp, hb, hF⟩, hce, hcv, hcl, st⟩
  · cases hv
    obtain ⟨k1, k2, k3⟩ := vx_keep h0 e1 hS hA hf hL hF
    obtain ⟨t2, a1, b1⟩ := kk r u t T'.heap (locs ++ L) e1.symm (by rw [← e2]; exact X'.warmed.alike) hp hb k1 k2 k3 T' rfl X'
    exact ⟨t2, st t2 a1, b1⟩
  · obtain ⟨k1, k2, k3⟩ := vx_keep h0 e1 hS hAX hf hL hF
    obtain ⟨t2, a1, b1⟩ := kx E ce q u t T'.heap (locs ++ L) e1.symm (by rw [← e2]; exact X'.warmed.alike) hp hb k1 k2 k3 (by rw [e1]; exact hce) hcv hcl T' rfl X'
    exact ⟨t2, st.trans a1, b1⟩
theorem vx_callFd {S SX : Type} {post : UInt64 → S → Prop} {px : SX → Prop} {B : S → State → Prop} {BX : String → SX → State → Prop} {AX : Nat → Prop} (hr : vx_Run5 p l e R s m args below meth c H locs cells slots mc ms (F0 m pc ls st0) rest (va_Qd post B A1 a) (vx_X px BX AX) free) (hS : va_S A0 H0 H locs) (hA : ∀ q, q < H.size → A1 q → A0 q) (hf : ∀ q, free q → A0 q) (hAX : ∀ q, q < H.size → AX q → A0 q)
    (kx : ∀ (E : String) (ce : Cell) (q9 : Addr) (u : SX) (t : State) (H1 : Heap) (locs1 : List Loc), t.heap = H1 → s.vm.Alike t.vm → px u → BX E u t → H.size ≤ H1.size → (∀ q : Nat, q < H.size → ¬ AX q → H1[q]? = H[q]?) → va_S A0 H0 H1 locs1 → H1[q9]? = some ce → ce.vm = .none → s.vm.findClass E = some ce.cls → vx_W p l e R s m args below meth c H1 locs1 (cells + mc) (slots + ms) Q (F0 m pc ls rest) q9)
    (kk : ∀ (r : UInt64) (u : S) (t : State) (H1 : Heap) (locs1 : List Loc), t.heap = H1 → s.vm.Alike t.vm → post r u → B u t → H.size ≤ H1.size → (∀ q : Nat, q < H.size → ¬ A1 q → H1[q]? = H[q]?) → va_S A0 H0 H1 locs1 → W p l e R s m args below meth c H1 locs1 (cells + mc) (slots + ms) Q (F0 m (pc + 5) ls (.double r :: rest))) : W p l e R s m args below meth c H locs cells slots Q (F0 m pc ls st0) := by
  intro T hT X
  rcases hr T hT X with ⟨v, st₀, t, T', L, h0, X', hL, e1, e2, ⟨⟨r, u, hv, hp, hb⟩, hF⟩, st⟩ | ⟨q, st₀, t, T', L, E, ce, h0, X', hL, e1, e2, ⟨u, hp, hb, hF⟩, hce, hcv, hcl, st⟩
  · cases hv
    obtain ⟨k1, k2, k3⟩ := vx_keep h0 e1 hS hA hf hL hF
    obtain ⟨t2, a1, b1⟩ := kk r u t T'.heap (locs ++ L) e1.symm (by rw [← e2]; exact X'.warmed.alike) hp hb k1 k2 k3 T' rfl X'
    exact ⟨t2, st t2 a1, b1⟩
  · obtain ⟨k1, k2, k3⟩ := vx_keep h0 e1 hS hAX hf hL hF
    obtain ⟨t2, a1, b1⟩ := kx E ce q u t T'.heap (locs ++ L) e1.symm (by rw [← e2]; exact X'.warmed.alike) hp hb k1 k2 k3 (by rw [e1]; exact hce) hcv hcl T' rfl X'
    exact ⟨t2, st.trans a1, b1⟩
end
/-! ===== END ===== -/
end
section
-- ===== PART A: goes FIRST, ahead of the names: the tables' words, and 'selects' of the private methods out of them =====
/-- a private method of a class that the tables say can be made, by its rows of tables_1 -/
def lw_okq (q : MethodName × Nat) : Prop := (q.1.cls ≠ "java/lang/invoke/MethodHandle" ∧ q.1.cls ≠ "java/lang/invoke/VarHandle") ∧ Cond.instantiable q.1.cls q.2 ∈ tables_1 ∧ Cond.privateMethod q.1 ∈ tables_1 ∧ Cond.instanceMethod q.1 ∈ tables_1
theorem lw_p0 : lw_okq (⟨"java/lang/Throwable", "fillInStackTrace", "(I)Ljava/lang/Throwable;"⟩, 6) := ⟨⟨by decide +kernel, by decide +kernel⟩, List.mem_of_getElem? (i := 144) (by decide +kernel), List.mem_of_getElem? (i := 142) (by decide +kernel), List.mem_of_getElem? (i := 143) (by decide +kernel)⟩
theorem lw_p1 : lw_okq (⟨"EchoBureau", "findHall", "(I)LEchoBureau$Hall;"⟩, 8) := ⟨⟨by decide +kernel, by decide +kernel⟩, List.mem_of_getElem? (i := 18) (by decide +kernel), List.mem_of_getElem? (i := 226) (by decide +kernel), List.mem_of_getElem? (i := 227) (by decide +kernel)⟩
theorem lw_p2 : lw_okq (⟨"EchoBureau$Hall", "isFull", "()Z"⟩, 6) := ⟨⟨by decide +kernel, by decide +kernel⟩, List.mem_of_getElem? (i := 189) (by decide +kernel), List.mem_of_getElem? (i := 252) (by decide +kernel), List.mem_of_getElem? (i := 253) (by decide +kernel)⟩
theorem lw_p3 : lw_okq (⟨"EchoBureau$Hall", "loseCertificate", "()V"⟩, 6) := ⟨⟨by decide +kernel, by decide +kernel⟩, List.mem_of_getElem? (i := 189) (by decide +kernel), List.mem_of_getElem? (i := 257) (by decide +kernel), List.mem_of_getElem? (i := 258) (by decide +kernel)⟩
theorem lw_p4 : lw_okq (⟨"EchoBureau$Hall", "build", "(LEchoBureau$Surface;)I"⟩, 6) := ⟨⟨by decide +kernel, by decide +kernel⟩, List.mem_of_getElem? (i := 189) (by decide +kernel), List.mem_of_getElem? (i := 275) (by decide +kernel), List.mem_of_getElem? (i := 276) (by decide +kernel)⟩
theorem lw_p5 : lw_okq (⟨"EchoBureau$Surface", "hardnessUnder", "(I)I"⟩, 2) := ⟨⟨by decide +kernel, by decide +kernel⟩, List.mem_of_getElem? (i := 261) (by decide +kernel), List.mem_of_getElem? (i := 296) (by decide +kernel), List.mem_of_getElem? (i := 297) (by decide +kernel)⟩
theorem lw_p6 : lw_okq (⟨"EchoBureau", "tallyOfClick", "(II)LEchoBureau$Tally;"⟩, 8) := ⟨⟨by decide +kernel, by decide +kernel⟩, List.mem_of_getElem? (i := 18) (by decide +kernel), List.mem_of_getElem? (i := 315) (by decide +kernel), List.mem_of_getElem? (i := 316) (by decide +kernel)⟩
theorem lw_p7 : lw_okq (⟨"EchoBureau", "tallyOf", "(LEchoBureau$Hall;II)LEchoBureau$Tally;"⟩, 8) := ⟨⟨by decide +kernel, by decide +kernel⟩, List.mem_of_getElem? (i := 18) (by decide +kernel), List.mem_of_getElem? (i := 323) (by decide +kernel), List.mem_of_getElem? (i := 324) (by decide +kernel)⟩
theorem lw_p8 : lw_okq (⟨"EchoBureau$Tally", "begin", "(I)V"⟩, 5) := ⟨⟨by decide +kernel, by decide +kernel⟩, List.mem_of_getElem? (i := 30) (by decide +kernel), List.mem_of_getElem? (i := 327) (by decide +kernel), List.mem_of_getElem? (i := 328) (by decide +kernel)⟩
theorem lw_p9 : lw_okq (⟨"EchoBureau$Hall", "throwBack", "(IIILEchoBureau$Listener;)V"⟩, 6) := ⟨⟨by decide +kernel, by decide +kernel⟩, List.mem_of_getElem? (i := 189) (by decide +kernel), List.mem_of_getElem? (i := 331) (by decide +kernel), List.mem_of_getElem? (i := 332) (by decide +kernel)⟩
theorem lw_p10 : lw_okq (⟨"EchoBureau$Surface", "throwRow", "(IIILEchoBureau$Listener;)V"⟩, 2) := ⟨⟨by decide +kernel, by decide +kernel⟩, List.mem_of_getElem? (i := 261) (by decide +kernel), List.mem_of_getElem? (i := 335) (by decide +kernel), List.mem_of_getElem? (i := 336) (by decide +kernel)⟩
theorem lw_p11 : lw_okq (⟨"EchoBureau", "loudnessesOf", "(LEchoBureau$Hall;I)LEchoBureau$Loudnesses;"⟩, 8) := ⟨⟨by decide +kernel, by decide +kernel⟩, List.mem_of_getElem? (i := 18) (by decide +kernel), List.mem_of_getElem? (i := 373) (by decide +kernel), List.mem_of_getElem? (i := 374) (by decide +kernel)⟩
theorem lw_p12 : lw_okq (⟨"EchoBureau$Loudnesses", "begin", "()V"⟩, 1) := ⟨⟨by decide +kernel, by decide +kernel⟩, List.mem_of_getElem? (i := 60) (by decide +kernel), List.mem_of_getElem? (i := 377) (by decide +kernel), List.mem_of_getElem? (i := 378) (by decide +kernel)⟩
theorem lw_p13 : lw_okq (⟨"EchoBureau$Loudnesses", "addedAt", "(I)I"⟩, 1) := ⟨⟨by decide +kernel, by decide +kernel⟩, List.mem_of_getElem? (i := 60) (by decide +kernel), List.mem_of_getElem? (i := 384) (by decide +kernel), List.mem_of_getElem? (i := 385) (by decide +kernel)⟩
theorem lw_p14 : lw_okq (⟨"EchoBureau", "findStandard", "(I)LEchoBureau$Standard;"⟩, 8) := ⟨⟨by decide +kernel, by decide +kernel⟩, List.mem_of_getElem? (i := 18) (by decide +kernel), List.mem_of_getElem? (i := 392) (by decide +kernel), List.mem_of_getElem? (i := 393) (by decide +kernel)⟩
theorem lw_p15 : lw_okq (⟨"EchoBureau", "meetsNow", "(LEchoBureau$Hall;LEchoBureau$Standard;)Z"⟩, 8) := ⟨⟨by decide +kernel, by decide +kernel⟩, List.mem_of_getElem? (i := 18) (by decide +kernel), List.mem_of_getElem? (i := 398) (by decide +kernel), List.mem_of_getElem? (i := 399) (by decide +kernel)⟩
def lw_privs_1 : List (MethodName × Nat) := [(⟨"java/lang/Throwable", "fillInStackTrace", "(I)Ljava/lang/Throwable;"⟩, 6), (⟨"EchoBureau", "findHall", "(I)LEchoBureau$Hall;"⟩, 8), (⟨"EchoBureau$Hall", "isFull", "()Z"⟩, 6), (⟨"EchoBureau$Hall", "loseCertificate", "()V"⟩, 6), (⟨"EchoBureau$Hall", "build", "(LEchoBureau$Surface;)I"⟩, 6), (⟨"EchoBureau$Surface", "hardnessUnder", "(I)I"⟩, 2), (⟨"EchoBureau", "tallyOfClick", "(II)LEchoBureau$Tally;"⟩, 8), (⟨"EchoBureau", "tallyOf", "(LEchoBureau$Hall;II)LEchoBureau$Tally;"⟩, 8), (⟨"EchoBureau$Tally", "begin", "(I)V"⟩, 5), (⟨"EchoBureau$Hall", "throwBack", "(IIILEchoBureau$Listener;)V"⟩, 6), (⟨"EchoBureau$Surface", "throwRow", "(IIILEchoBureau$Listener;)V"⟩, 2), (⟨"EchoBureau", "loudnessesOf", "(LEchoBureau$Hall;I)LEchoBureau$Loudnesses;"⟩, 8), (⟨"EchoBureau$Loudnesses", "begin", "()V"⟩, 1), (⟨"EchoBureau$Loudnesses", "addedAt", "(I)I"⟩, 1), (⟨"EchoBureau", "findStandard", "(I)LEchoBureau$Standard;"⟩, 8), (⟨"EchoBureau", "meetsNow", "(LEchoBureau$Hall;LEchoBureau$Standard;)Z"⟩, 8)]
theorem lw_r1 : ∀ q ∈ lw_privs_1, lw_okq q := List.forall_mem_cons.mpr ⟨lw_p0, List.forall_mem_cons.mpr ⟨lw_p1, List.forall_mem_cons.mpr ⟨lw_p2, List.forall_mem_cons.mpr ⟨lw_p3, List.forall_mem_cons.mpr ⟨lw_p4, List.forall_mem_cons.mpr ⟨lw_p5, List.forall_mem_cons.mpr ⟨lw_p6, List.forall_mem_cons.mpr ⟨lw_p7, List.forall_mem_cons.mpr ⟨lw_p8, List.forall_mem_cons.mpr ⟨lw_p9, List.forall_mem_cons.mpr ⟨lw_p10, List.forall_mem_cons.mpr ⟨lw_p11, List.forall_mem_cons.mpr ⟨lw_p12, List.forall_mem_cons.mpr ⟨lw_p13, List.forall_mem_cons.mpr ⟨lw_p14, List.forall_mem_cons.mpr ⟨lw_p15, fun _ h => absurd h List.not_mem_nil⟩⟩⟩⟩⟩⟩⟩⟩⟩⟩⟩⟩⟩⟩⟩⟩
theorem lw_p16 : lw_okq (⟨"EchoBureau", "wouldMeet", "(LEchoBureau$Hall;LEchoBureau$Standard;II)Z"⟩, 8) := ⟨⟨by decide +kernel, by decide +kernel⟩, List.mem_of_getElem? (i := 18) (by decide +kernel), List.mem_of_getElem? (i := 402) (by decide +kernel), List.mem_of_getElem? (i := 403) (by decide +kernel)⟩
theorem lw_p17 : lw_okq (⟨"EchoBureau$Standard", "allows", "(LEchoBureau$Tally;)Z"⟩, 5) := ⟨⟨by decide +kernel, by decide +kernel⟩, List.mem_of_getElem? (i := 408) (by decide +kernel), List.mem_of_getElem? (i := 406) (by decide +kernel), List.mem_of_getElem? (i := 407) (by decide +kernel)⟩
theorem lw_p18 : lw_okq (⟨"EchoBureau$Hall", "hasCertificate", "()Z"⟩, 6) := ⟨⟨by decide +kernel, by decide +kernel⟩, List.mem_of_getElem? (i := 189) (by decide +kernel), List.mem_of_getElem? (i := 419) (by decide +kernel), List.mem_of_getElem? (i := 420) (by decide +kernel)⟩
theorem lw_p19 : lw_okq (⟨"EchoBureau", "countCertified", "()I"⟩, 8) := ⟨⟨by decide +kernel, by decide +kernel⟩, List.mem_of_getElem? (i := 18) (by decide +kernel), List.mem_of_getElem? (i := 439) (by decide +kernel), List.mem_of_getElem? (i := 440) (by decide +kernel)⟩
theorem lw_p20 : lw_okq (⟨"EchoBureau$Hall", "takeCertificate", "(II)V"⟩, 6) := ⟨⟨by decide +kernel, by decide +kernel⟩, List.mem_of_getElem? (i := 189) (by decide +kernel), List.mem_of_getElem? (i := 606) (by decide +kernel), List.mem_of_getElem? (i := 607) (by decide +kernel)⟩
theorem lw_p21 : lw_okq (⟨"EchoBureau$Hall", "growOlder", "(I)V"⟩, 6) := ⟨⟨by decide +kernel, by decide +kernel⟩, List.mem_of_getElem? (i := 189) (by decide +kernel), List.mem_of_getElem? (i := 624) (by decide +kernel), List.mem_of_getElem? (i := 625) (by decide +kernel)⟩
theorem lw_p22 : lw_okq (⟨"EchoBureau$Hall", "dustBehind", "(I)I"⟩, 6) := ⟨⟨by decide +kernel, by decide +kernel⟩, List.mem_of_getElem? (i := 189) (by decide +kernel), List.mem_of_getElem? (i := 628) (by decide +kernel), List.mem_of_getElem? (i := 629) (by decide +kernel)⟩
def lw_privs_2 : List (MethodName × Nat) := [(⟨"EchoBureau", "wouldMeet", "(LEchoBureau$Hall;LEchoBureau$Standard;II)Z"⟩, 8), (⟨"EchoBureau$Standard", "allows", "(LEchoBureau$Tally;)Z"⟩, 5), (⟨"EchoBureau$Hall", "hasCertificate", "()Z"⟩, 6), (⟨"EchoBureau", "countCertified", "()I"⟩, 8), (⟨"EchoBureau$Hall", "takeCertificate", "(II)V"⟩, 6), (⟨"EchoBureau$Hall", "growOlder", "(I)V"⟩, 6), (⟨"EchoBureau$Hall", "dustBehind", "(I)I"⟩, 6)]
theorem lw_r2 : ∀ q ∈ lw_privs_2, lw_okq q := List.forall_mem_cons.mpr ⟨lw_p16, List.forall_mem_cons.mpr ⟨lw_p17, List.forall_mem_cons.mpr ⟨lw_p18, List.forall_mem_cons.mpr ⟨lw_p19, List.forall_mem_cons.mpr ⟨lw_p20, List.forall_mem_cons.mpr ⟨lw_p21, List.forall_mem_cons.mpr ⟨lw_p22, fun _ h => absurd h List.not_mem_nil⟩⟩⟩⟩⟩⟩⟩
def lw_privs : List (MethodName × Nat) := lw_privs_1 ++ (lw_privs_2)
def lw_tbl : List Cond := k2_sels lw_privs ++ tables_1
theorem lw_privs_ok : ∀ q ∈ lw_privs, lw_okq q := by
  show ∀ q ∈ lw_privs_1 ++ (lw_privs_2), lw_okq q
  exact List.forall_mem_append.mpr ⟨lw_r1, lw_r2⟩
/-- the streams that the claim lets the run draw from -/
abbrev lw_cs : List Choice := [Jvm.Choice.named "NaN.bits"]
theorem lw_bits : nanBits ∈ lw_cs := by first | decide | exact List.mem_cons_self | simp [lw_cs, nanBits]

def RX0 : String := "EchoBureau$Hall"
def TX0 : u_T := fun k => match k with
  | 0 => ("EchoBureau$Hall", "surfaces", "[LEchoBureau$Surface;", true)
  | 1 => ("EchoBureau$Hall", "surfaceCount", "I", false)
  | 2 => ("EchoBureau$Hall", "damping", "I", false)
  | 3 => ("EchoBureau$Hall", "dust", "I", false)
  | 4 => ("EchoBureau$Hall", "certificate", "I", false)
  | _ => ("EchoBureau$Hall", "certificateDays", "I", false)
def tyX0 : Nat → FieldType := fun k => match k with
  | 0 => .array (.object "EchoBureau$Surface")
  | 1 => .int
  | 2 => .int
  | 3 => .int
  | 4 => .int
  | _ => .int
theorem nmX0 : ∀ a, a < 6 → ∀ b, b < 6 → a ≠ b → (TX0 a).2.1 ≠ (TX0 b).2.1 := by decide +kernel
theorem tyX0_ok : ∀ k, k < 6 → parseFieldDescriptor (TX0 k).2.2.1 = some (tyX0 k) := by decide +kernel
abbrev cX0_init : ByteArray := prog_2_method_1_code
def yX0_init : MethodName := ⟨RX0, "<init>", "(I)V"⟩
abbrev cX0_isFull : ByteArray := prog_2_method_2_code
def yX0_isFull : MethodName := ⟨RX0, "isFull", "()Z"⟩
abbrev cX0_build : ByteArray := prog_2_method_3_code
def yX0_build : MethodName := ⟨RX0, "build", "(LEchoBureau$Surface;)I"⟩
abbrev cX0_hasCertificate : ByteArray := prog_2_method_4_code
def yX0_hasCertificate : MethodName := ⟨RX0, "hasCertificate", "()Z"⟩
abbrev cX0_takeCertificate : ByteArray := prog_2_method_5_code
def yX0_takeCertificate : MethodName := ⟨RX0, "takeCertificate", "(II)V"⟩
abbrev cX0_loseCertificate : ByteArray := prog_2_method_6_code
def yX0_loseCertificate : MethodName := ⟨RX0, "loseCertificate", "()V"⟩
abbrev cX0_dustBehind : ByteArray := prog_2_method_7_code
def yX0_dustBehind : MethodName := ⟨RX0, "dustBehind", "(I)I"⟩
abbrev cX0_growOlder : ByteArray := prog_2_method_8_code
def yX0_growOlder : MethodName := ⟨RX0, "growOlder", "(I)V"⟩
abbrev cX0_throwBack : ByteArray := prog_2_method_9_code
def yX0_throwBack : MethodName := ⟨RX0, "throwBack", "(IIILEchoBureau$Listener;)V"⟩
def RX1 : String := "EchoBureau$Listener"
def TX1 : u_T := fun k => match k with
  | _ => ("", "", "", false)
def tyX1 : Nat → FieldType := fun k => match k with
  | _ => .int
theorem nmX1 : ∀ a, a < 0 → ∀ b, b < 0 → a ≠ b → (TX1 a).2.1 ≠ (TX1 b).2.1 := by decide +kernel
theorem tyX1_ok : ∀ k, k < 0 → parseFieldDescriptor (TX1 k).2.2.1 = some (tyX1 k) := by decide +kernel
def RX2 : String := "EchoBureau$Loudnesses"
def TX2 : u_T := fun k => match k with
  | _ => ("EchoBureau$Loudnesses", "added", "[I", true)
def tyX2 : Nat → FieldType := fun k => match k with
  | _ => .array .int
theorem nmX2 : ∀ a, a < 1 → ∀ b, b < 1 → a ≠ b → (TX2 a).2.1 ≠ (TX2 b).2.1 := by decide +kernel
theorem tyX2_ok : ∀ k, k < 1 → parseFieldDescriptor (TX2 k).2.2.1 = some (tyX2 k) := by decide +kernel
abbrev cX2_init : ByteArray := prog_4_method_1_code
def yX2_init : MethodName := ⟨RX2, "<init>", "()V"⟩
abbrev cX2_begin : ByteArray := prog_4_method_2_code
def yX2_begin : MethodName := ⟨RX2, "begin", "()V"⟩
abbrev cX2_hear : ByteArray := prog_4_method_3_code
def yX2_hear : MethodName := ⟨RX2, "hear", "(II)V"⟩
abbrev cX2_addedAt : ByteArray := prog_4_method_4_code
def yX2_addedAt : MethodName := ⟨RX2, "addedAt", "(I)I"⟩
def RX3 : String := "EchoBureau$Standard"
def TX3 : u_T := fun k => match k with
  | 0 => ("EchoBureau$Standard", "earliest", "I", true)
  | 1 => ("EchoBureau$Standard", "limit", "I", true)
  | 2 => ("EchoBureau$Standard", "most", "I", true)
  | 3 => ("EchoBureau$Standard", "latest", "I", true)
  | _ => ("EchoBureau$Standard", "days", "I", true)
def tyX3 : Nat → FieldType := fun k => match k with
  | 0 => .int
  | 1 => .int
  | 2 => .int
  | 3 => .int
  | _ => .int
theorem nmX3 : ∀ a, a < 5 → ∀ b, b < 5 → a ≠ b → (TX3 a).2.1 ≠ (TX3 b).2.1 := by decide +kernel
theorem tyX3_ok : ∀ k, k < 5 → parseFieldDescriptor (TX3 k).2.2.1 = some (tyX3 k) := by decide +kernel
abbrev cX3_init : ByteArray := prog_5_method_1_code
def yX3_init : MethodName := ⟨RX3, "<init>", "(IIIII)V"⟩
abbrev cX3_allows : ByteArray := prog_5_method_2_code
def yX3_allows : MethodName := ⟨RX3, "allows", "(LEchoBureau$Tally;)Z"⟩
def RX4 : String := "EchoBureau$Surface"
def TX4 : u_T := fun k => match k with
  | 0 => ("EchoBureau$Surface", "hardnessAsBuilt", "I", true)
  | _ => ("EchoBureau$Surface", "distance", "I", false)
def tyX4 : Nat → FieldType := fun k => match k with
  | 0 => .int
  | _ => .int
theorem nmX4 : ∀ a, a < 2 → ∀ b, b < 2 → a ≠ b → (TX4 a).2.1 ≠ (TX4 b).2.1 := by decide +kernel
theorem tyX4_ok : ∀ k, k < 2 → parseFieldDescriptor (TX4 k).2.2.1 = some (tyX4 k) := by decide +kernel
abbrev cX4_init : ByteArray := prog_6_method_1_code
def yX4_init : MethodName := ⟨RX4, "<init>", "(II)V"⟩
abbrev cX4_hardnessUnder : ByteArray := prog_6_method_2_code
def yX4_hardnessUnder : MethodName := ⟨RX4, "hardnessUnder", "(I)I"⟩
abbrev cX4_throwRow : ByteArray := prog_6_method_3_code
def yX4_throwRow : MethodName := ⟨RX4, "throwRow", "(IIILEchoBureau$Listener;)V"⟩
def RX5 : String := "EchoBureau$Tally"
def TX5 : u_T := fun k => match k with
  | 0 => ("EchoBureau$Tally", "limit", "I", false)
  | 1 => ("EchoBureau$Tally", "count", "I", false)
  | 2 => ("EchoBureau$Tally", "loudCount", "I", false)
  | 3 => ("EchoBureau$Tally", "first", "I", false)
  | _ => ("EchoBureau$Tally", "last", "I", false)
def tyX5 : Nat → FieldType := fun k => match k with
  | 0 => .int
  | 1 => .int
  | 2 => .int
  | 3 => .int
  | _ => .int
theorem nmX5 : ∀ a, a < 5 → ∀ b, b < 5 → a ≠ b → (TX5 a).2.1 ≠ (TX5 b).2.1 := by decide +kernel
theorem tyX5_ok : ∀ k, k < 5 → parseFieldDescriptor (TX5 k).2.2.1 = some (tyX5 k) := by decide +kernel
abbrev cX5_init : ByteArray := prog_7_method_1_code
def yX5_init : MethodName := ⟨RX5, "<init>", "()V"⟩
abbrev cX5_begin : ByteArray := prog_7_method_2_code
def yX5_begin : MethodName := ⟨RX5, "begin", "(I)V"⟩
abbrev cX5_hear : ByteArray := prog_7_method_3_code
def yX5_hear : MethodName := ⟨RX5, "hear", "(II)V"⟩
def RX6 : String := "EchoBureau"
def TX6 : u_T := fun k => match k with
  | 0 => ("EchoBureau", "hallRow", "[LEchoBureau$Hall;", true)
  | 1 => ("EchoBureau", "standardRow", "[LEchoBureau$Standard;", true)
  | 2 => ("EchoBureau", "hallCount", "I", false)
  | 3 => ("EchoBureau", "standardCount", "I", false)
  | 4 => ("EchoBureau", "today", "I", false)
  | 5 => ("EchoBureau", "inspectionCount", "I", false)
  | 6 => ("EchoBureau", "tally", "LEchoBureau$Tally;", true)
  | _ => ("EchoBureau", "loudnesses", "LEchoBureau$Loudnesses;", true)
def tyX6 : Nat → FieldType := fun k => match k with
  | 0 => .array (.object "EchoBureau$Hall")
  | 1 => .array (.object "EchoBureau$Standard")
  | 2 => .int
  | 3 => .int
  | 4 => .int
  | 5 => .int
  | 6 => .object "EchoBureau$Tally"
  | _ => .object "EchoBureau$Loudnesses"
theorem nmX6 : ∀ a, a < 8 → ∀ b, b < 8 → a ≠ b → (TX6 a).2.1 ≠ (TX6 b).2.1 := by decide +kernel
theorem tyX6_ok : ∀ k, k < 8 → parseFieldDescriptor (TX6 k).2.2.1 = some (tyX6 k) := by decide +kernel
abbrev cX6_init : ByteArray := prog_1_method_1_code
def yX6_init : MethodName := ⟨RX6, "<init>", "()V"⟩
abbrev cX6_addHall : ByteArray := prog_1_method_2_code
def yX6_addHall : MethodName := ⟨RX6, "addHall", "(I)I"⟩
abbrev cX6_addSurface : ByteArray := prog_1_method_3_code
def yX6_addSurface : MethodName := ⟨RX6, "addSurface", "(III)I"⟩
abbrev cX6_moveSurface : ByteArray := prog_1_method_4_code
def yX6_moveSurface : MethodName := ⟨RX6, "moveSurface", "(III)I"⟩
abbrev cX6_setDamping : ByteArray := prog_1_method_5_code
def yX6_setDamping : MethodName := ⟨RX6, "setDamping", "(II)I"⟩
abbrev cX6_clean : ByteArray := prog_1_method_6_code
def yX6_clean : MethodName := ⟨RX6, "clean", "(I)I"⟩
abbrev cX6_addStandard : ByteArray := prog_1_method_7_code
def yX6_addStandard : MethodName := ⟨RX6, "addStandard", "(IIIII)I"⟩
abbrev cX6_inspect : ByteArray := prog_1_method_8_code
def yX6_inspect : MethodName := ⟨RX6, "inspect", "(II)Z"⟩
abbrev cX6_revoke : ByteArray := prog_1_method_9_code
def yX6_revoke : MethodName := ⟨RX6, "revoke", "(I)I"⟩
abbrev cX6_passDays : ByteArray := prog_1_method_10_code
def yX6_passDays : MethodName := ⟨RX6, "passDays", "(I)I"⟩
abbrev cX6_surfacesOf : ByteArray := prog_1_method_11_code
def yX6_surfacesOf : MethodName := ⟨RX6, "surfacesOf", "(I)I"⟩
abbrev cX6_distanceOf : ByteArray := prog_1_method_12_code
def yX6_distanceOf : MethodName := ⟨RX6, "distanceOf", "(II)I"⟩
abbrev cX6_hardnessOf : ByteArray := prog_1_method_13_code
def yX6_hardnessOf : MethodName := ⟨RX6, "hardnessOf", "(II)I"⟩
abbrev cX6_dampingOf : ByteArray := prog_1_method_14_code
def yX6_dampingOf : MethodName := ⟨RX6, "dampingOf", "(I)I"⟩
abbrev cX6_dustOf : ByteArray := prog_1_method_15_code
def yX6_dustOf : MethodName := ⟨RX6, "dustOf", "(I)I"⟩
abbrev cX6_echoes : ByteArray := prog_1_method_16_code
def yX6_echoes : MethodName := ⟨RX6, "echoes", "(II)I"⟩
abbrev cX6_loudEchoes : ByteArray := prog_1_method_17_code
def yX6_loudEchoes : MethodName := ⟨RX6, "loudEchoes", "(III)I"⟩
abbrev cX6_firstEcho : ByteArray := prog_1_method_18_code
def yX6_firstEcho : MethodName := ⟨RX6, "firstEcho", "(II)I"⟩
abbrev cX6_lastEcho : ByteArray := prog_1_method_19_code
def yX6_lastEcho : MethodName := ⟨RX6, "lastEcho", "(II)I"⟩
abbrev cX6_loudnessAt : ByteArray := prog_1_method_20_code
def yX6_loudnessAt : MethodName := ⟨RX6, "loudnessAt", "(III)I"⟩
abbrev cX6_meets : ByteArray := prog_1_method_22_code
def yX6_meets : MethodName := ⟨RX6, "meets", "(II)Z"⟩
abbrev cX6_hallsMeeting : ByteArray := prog_1_method_23_code
def yX6_hallsMeeting : MethodName := ⟨RX6, "hallsMeeting", "(I)I"⟩
abbrev cX6_isCertified : ByteArray := prog_1_method_24_code
def yX6_isCertified : MethodName := ⟨RX6, "isCertified", "(I)Z"⟩
abbrev cX6_certifiedBy : ByteArray := prog_1_method_25_code
def yX6_certifiedBy : MethodName := ⟨RX6, "certifiedBy", "(I)I"⟩
abbrev cX6_daysLeft : ByteArray := prog_1_method_26_code
def yX6_daysLeft : MethodName := ⟨RX6, "daysLeft", "(I)I"⟩
abbrev cX6_halls : ByteArray := prog_1_method_27_code
def yX6_halls : MethodName := ⟨RX6, "halls", "()I"⟩
abbrev cX6_standards : ByteArray := prog_1_method_28_code
def yX6_standards : MethodName := ⟨RX6, "standards", "()I"⟩
abbrev cX6_day : ByteArray := prog_1_method_29_code
def yX6_day : MethodName := ⟨RX6, "day", "()I"⟩
abbrev cX6_inspections : ByteArray := prog_1_method_30_code
def yX6_inspections : MethodName := ⟨RX6, "inspections", "()I"⟩
abbrev cX6_certifiedHalls : ByteArray := prog_1_method_31_code
def yX6_certifiedHalls : MethodName := ⟨RX6, "certifiedHalls", "()I"⟩
abbrev cX6_meetsWithDamping : ByteArray := prog_1_method_32_code
def yX6_meetsWithDamping : MethodName := ⟨RX6, "meetsWithDamping", "(III)Z"⟩
abbrev cX6_meanDamping : ByteArray := prog_1_method_36_code
def yX6_meanDamping : MethodName := ⟨RX6, "meanDamping", "()D"⟩
abbrev cX6_isWithin : ByteArray := prog_1_method_41_code
def yX6_isWithin : MethodName := ⟨RX6, "isWithin", "(III)Z"⟩
abbrev cX6_checkDamping : ByteArray := prog_1_method_42_code
def yX6_checkDamping : MethodName := ⟨RX6, "checkDamping", "(I)V"⟩
abbrev cX6_checkDistance : ByteArray := prog_1_method_43_code
def yX6_checkDistance : MethodName := ⟨RX6, "checkDistance", "(I)V"⟩
abbrev cX6_checkLoudness : ByteArray := prog_1_method_44_code
def yX6_checkLoudness : MethodName := ⟨RX6, "checkLoudness", "(I)V"⟩
abbrev cX6_checkCertificate : ByteArray := prog_1_method_45_code
def yX6_checkCertificate : MethodName := ⟨RX6, "checkCertificate", "(LEchoBureau$Hall;)V"⟩
abbrev cX6_findHall : ByteArray := prog_1_method_46_code
def yX6_findHall : MethodName := ⟨RX6, "findHall", "(I)LEchoBureau$Hall;"⟩
abbrev cX6_findStandard : ByteArray := prog_1_method_47_code
def yX6_findStandard : MethodName := ⟨RX6, "findStandard", "(I)LEchoBureau$Standard;"⟩
abbrev cX6_findSurface : ByteArray := prog_1_method_48_code
def yX6_findSurface : MethodName := ⟨RX6, "findSurface", "(LEchoBureau$Hall;I)LEchoBureau$Surface;"⟩
abbrev cX6_countCertified : ByteArray := prog_1_method_49_code
def yX6_countCertified : MethodName := ⟨RX6, "countCertified", "()I"⟩
abbrev cX6_tallyOfClick : ByteArray := prog_1_method_50_code
def yX6_tallyOfClick : MethodName := ⟨RX6, "tallyOfClick", "(II)LEchoBureau$Tally;"⟩
abbrev cX6_tallyOf : ByteArray := prog_1_method_51_code
def yX6_tallyOf : MethodName := ⟨RX6, "tallyOf", "(LEchoBureau$Hall;II)LEchoBureau$Tally;"⟩
abbrev cX6_loudnessesOf : ByteArray := prog_1_method_52_code
def yX6_loudnessesOf : MethodName := ⟨RX6, "loudnessesOf", "(LEchoBureau$Hall;I)LEchoBureau$Loudnesses;"⟩
abbrev cX6_meetsNow : ByteArray := prog_1_method_53_code
def yX6_meetsNow : MethodName := ⟨RX6, "meetsNow", "(LEchoBureau$Hall;LEchoBureau$Standard;)Z"⟩
abbrev cX6_wouldMeet : ByteArray := prog_1_method_54_code
def yX6_wouldMeet : MethodName := ⟨RX6, "wouldMeet", "(LEchoBureau$Hall;LEchoBureau$Standard;II)Z"⟩
def RX7 : String := "EchoBureauLaw$Hall"
def TX7 : u_T := fun k => match k with
  | 0 => ("EchoBureauLaw$Hall", "surfaces", "[[I", false)
  | 1 => ("EchoBureauLaw$Hall", "damping", "I", false)
  | 2 => ("EchoBureauLaw$Hall", "dust", "I", false)
  | 3 => ("EchoBureauLaw$Hall", "standard", "I", false)
  | _ => ("EchoBureauLaw$Hall", "left", "I", false)
def tyX7 : Nat → FieldType := fun k => match k with
  | 0 => .array (.array .int)
  | 1 => .int
  | 2 => .int
  | 3 => .int
  | _ => .int
theorem nmX7 : ∀ a, a < 5 → ∀ b, b < 5 → a ≠ b → (TX7 a).2.1 ≠ (TX7 b).2.1 := by decide +kernel
theorem tyX7_ok : ∀ k, k < 5 → parseFieldDescriptor (TX7 k).2.2.1 = some (tyX7 k) := by decide +kernel
abbrev cX7_init : ByteArray := prog_9_method_1_code
def yX7_init : MethodName := ⟨RX7, "<init>", "()V"⟩
abbrev cX7_hard : ByteArray := prog_9_method_2_code
def yX7_hard : MethodName := ⟨RX7, "hard", "(II)I"⟩
abbrev cX7_echoes : ByteArray := prog_9_method_3_code
def yX7_echoes : MethodName := ⟨RX7, "echoes", "(IIII)[I"⟩
abbrev cX7_meets : ByteArray := prog_9_method_5_code
def yX7_meets : MethodName := ⟨RX7, "meets", "([III)Z"⟩
abbrev cX7_strike : ByteArray := prog_9_method_6_code
def yX7_strike : MethodName := ⟨RX7, "strike", "()V"⟩
def RX8 : String := "EchoBureauLaw$Sim"
def TX8 : u_T := fun k => match k with
  | 0 => ("EchoBureauLaw$Sim", "day", "I", false)
  | 1 => ("EchoBureauLaw$Sim", "inspections", "I", false)
  | 2 => ("EchoBureauLaw$Sim", "halls", "[LEchoBureauLaw$Hall;", false)
  | _ => ("EchoBureauLaw$Sim", "rules", "[[I", false)
def tyX8 : Nat → FieldType := fun k => match k with
  | 0 => .int
  | 1 => .int
  | 2 => .array (.object "EchoBureauLaw$Hall")
  | _ => .array (.array .int)
theorem nmX8 : ∀ a, a < 4 → ∀ b, b < 4 → a ≠ b → (TX8 a).2.1 ≠ (TX8 b).2.1 := by decide +kernel
theorem tyX8_ok : ∀ k, k < 4 → parseFieldDescriptor (TX8 k).2.2.1 = some (tyX8 k) := by decide +kernel
abbrev cX8_init : ByteArray := prog_10_method_1_code
def yX8_init : MethodName := ⟨RX8, "<init>", "()V"⟩
abbrev cX8_with : ByteArray := prog_10_method_2_code
def yX8_with : MethodName := ⟨RX8, "with", "([[I[I)[[I"⟩
abbrev cX8_certified : ByteArray := prog_10_method_3_code
def yX8_certified : MethodName := ⟨RX8, "certified", "()I"⟩
abbrev cX8_pass : ByteArray := prog_10_method_4_code
def yX8_pass : MethodName := ⟨RX8, "pass", "()V"⟩
abbrev cX8_isSame : ByteArray := prog_10_method_5_code
def yX8_isSame : MethodName := ⟨RX8, "isSame", "(LEchoBureau;I)Z"⟩
def RX9 : String := "EchoBureauModel"
def TX9 : u_T := fun k => match k with
  | _ => ("", "", "", false)
def tyX9 : Nat → FieldType := fun k => match k with
  | _ => .int
theorem nmX9 : ∀ a, a < 0 → ∀ b, b < 0 → a ≠ b → (TX9 a).2.1 ≠ (TX9 b).2.1 := by decide +kernel
theorem tyX9_ok : ∀ k, k < 0 → parseFieldDescriptor (TX9 k).2.2.1 = some (tyX9 k) := by decide +kernel
def RJx145de : String := "java/io/Serializable"
def RJ9 : String := "java/lang/Math"
abbrev cJ9_max_7cf53 : ByteArray := prog_16_method_65_code
def yJ9_max_7cf53 : MethodName := ⟨RJ9, "max", "(II)I"⟩
abbrev cJ9_min_7cf53 : ByteArray := prog_16_method_69_code
def yJ9_min_7cf53 : MethodName := ⟨RJ9, "min", "(II)I"⟩
def RJ0 : String := "java/lang/String"
def RJ7 : String := "java/util/Arrays"
abbrev cJ7_fill_53178 : ByteArray := prog_20_method_103_code
def yJ7_fill_53178 : MethodName := ⟨RJ7, "fill", "([II)V"⟩
def RL : String := "EchoBureauLaw"
abbrev cL_below : ByteArray := method_2_code
def yL_below : MethodName := ⟨RL, "below", "(II)I"⟩
abbrev cL_cell : ByteArray := method_3_code
def yL_cell : MethodName := ⟨RL, "cell", "([II)I"⟩
abbrev cL_act : ByteArray := method_4_code
def yL_act : MethodName := ⟨RL, "act", "(LEchoBureau;LEchoBureauLaw$Sim;I)Z"⟩
abbrev cL_build : ByteArray := method_5_code
def yL_build : MethodName := ⟨RL, "build", "(LEchoBureau;[I)LEchoBureauLaw$Sim;"⟩
abbrev cL_law : ByteArray := code
def yL_law : MethodName := ⟨RL, "law", "([I)Z"⟩
abbrev vwCl : List vw_C := [(RX0, TX0, 6), (RX2, TX2, 1), (RX3, TX3, 5), (RX4, TX4, 2), (RX5, TX5, 5), (RX6, TX6, 8), (RX7, TX7, 5), (RX8, TX8, 4)]
end
section
/-! ===== a named memory over the machine: a world is a function from names (lists of numbers) to entries, with an address for each name ===== -/
abbrev Lab : Type := List Nat
/-- an array: what its places are of, its length and contents; an object: its number in vwCl, its fields -/
abbrev Ent : Type := (FieldType × vp_A) ⊕ (Nat × List Value)
abbrev Adr : Type := Lab → Nat
abbrev Wd : Type := Lab → Option Ent
def eg_at (D : va_G) (s : State) (a : Nat) (e : Ent) (H : Heap) : Prop := match e with
  | .inl x => ∃ cA : ClassId, (ArrOfT s cA x.1 ∧ va_RA s cA x.1) ∧ H[a]? = some (vp_cell cA x.2)
  | .inr o => va_at D vwCl (a, .inr o) H
theorem eg_at.kept {D : va_G} {s : State} {a : Nat} {e : Ent} {H H1 : Heap} (h : eg_at D s a e H) (hq : H1[a]? = H[a]?) : eg_at D s a e H1 := by
  cases e with
  | inl x =>
    obtain ⟨cA, h1, h2⟩ := h
    exact ⟨cA, h1, hq.trans h2⟩
  | inr o => exact va_at.kept (q := (a, .inr o)) h hq
theorem eg_at.lt {D : va_G} {s : State} {a : Nat} {e : Ent} {H : Heap} (h : eg_at D s a e H) : a < H.size := by
  cases e with
  | inl x =>
    obtain ⟨cA, h1, h2⟩ := h
    exact (Array.getElem?_eq_some_iff.mp h2).1
  | inr o => exact va_at.lt (q := (a, .inr o)) h
theorem eg_at.moved {D : va_G} {s U : State} {a : Nat} {e : Ent} {H : Heap} (hvm : s.vm.Alike U.vm) (h : eg_at D s a e H) : eg_at D U a e H := by
  cases e with
  | inl x =>
    obtain ⟨cA, ⟨h1, h3⟩, h2⟩ := h
    exact ⟨cA, ⟨arrOfT_moved hvm h1, h3.moved hvm⟩, h2⟩
  | inr o => exact h
def wset (w : Wd) (L : Lab) (e : Ent) : Wd := fun L' => if L' = L then some e else w L'
def aset (ad : Adr) (L : Lab) (a : Nat) : Adr := fun L' => if L' = L then a else ad L'
theorem wset_s {w : Wd} {L : Lab} {e : Ent} : wset w L e L = some e := if_pos rfl
theorem wset_n {w : Wd} {L L' : Lab} {e : Ent} (h : L' ≠ L) : wset w L e L' = w L' := if_neg h
theorem aset_s {ad : Adr} {L : Lab} {a : Nat} : aset ad L a L = a := if_pos rfl
theorem aset_n {ad : Adr} {L L' : Lab} {a : Nat} (h : L' ≠ L) : aset ad L a L' = ad L' := if_neg h
theorem wset_wset {w : Wd} {L : Lab} {e e' : Ent} : wset (wset w L e) L e' = wset w L e' := by
  funext L'
  by_cases h : L' = L <;> simp [wset, h]
def Mem (D : va_G) (ba : Nat) (s : State) (ad : Adr) (w : Wd) (H : Heap) : Prop :=
  (∀ L e, w L = some e → eg_at D s (ad L) e H ∧ ba ≤ ad L) ∧ ∀ L L', w L ≠ none → w L' ≠ none → ad L = ad L' → L = L'
theorem Mem.moved {D : va_G} {ba : Nat} {s U : State} {ad : Adr} {w : Wd} {H : Heap} (hvm : s.vm.Alike U.vm) (h : Mem D ba s ad w H) : Mem D ba U ad w H :=
  ⟨fun L e hL => ⟨(h.1 L e hL).1.moved hvm, (h.1 L e hL).2⟩, h.2⟩
theorem Mem.kept {D : va_G} {ba : Nat} {s : State} {ad : Adr} {w : Wd} {H H1 : Heap} (h : Mem D ba s ad w H) (o : ∀ q : Nat, q < H.size → H1[q]? = H[q]?) : Mem D ba s ad w H1 :=
  ⟨fun L e hL => ⟨(h.1 L e hL).1.kept (o _ (h.1 L e hL).1.lt), (h.1 L e hL).2⟩, h.2⟩
theorem Mem.set {D : va_G} {ba : Nat} {s : State} {ad : Adr} {w : Wd} {H H1 : Heap} {L : Lab} {e0 e : Ent} (h : Mem D ba s ad w H) (hL : w L = some e0) (he : eg_at D s (ad L) e H1) (oq : ∀ q : Nat, q ≠ ad L → H1[q]? = H[q]?) : Mem D ba s ad (wset w L e) H1 := by
  have key : ∀ L', wset w L e L' ≠ none → w L' ≠ none := by
    intro L' hn
    by_cases hq : L' = L
    · rw [hq, hL]; exact fun z => nomatch z
    · rw [wset_n hq] at hn; exact hn
  refine ⟨fun L' e' hL' => ?_, fun L1 L2 h1 h2 h3 => h.2 L1 L2 (key L1 h1) (key L2 h2) h3⟩
  by_cases hq : L' = L
  · subst hq
    rw [wset_s] at hL'
    cases hL'
    exact ⟨he, (h.1 _ _ hL).2⟩
  · rw [wset_n hq] at hL'
    refine ⟨(h.1 _ _ hL').1.kept (oq _ (fun z => hq ?_)), (h.1 _ _ hL').2⟩
    exact h.2 L' L (by rw [hL']; exact fun z => nomatch z) (by rw [hL]; exact fun z => nomatch z) z
theorem Mem.new {D : va_G} {ba : Nat} {s : State} {ad : Adr} {w : Wd} {H H1 : Heap} {L : Lab} {e : Ent} (h : Mem D ba s ad w H) (hL : w L = none) (hb : ba ≤ H.size) (he : eg_at D s H.size e H1) (o : ∀ q : Nat, q < H.size → H1[q]? = H[q]?) : Mem D ba s (aset ad L H.size) (wset w L e) H1 := by
  have far : ∀ L', w L' ≠ none → ad L' < H.size := by
    intro L' hn
    cases hw : w L' with
    | none => exact absurd hw hn
    | some e' => exact (h.1 _ _ hw).1.lt
  refine ⟨fun L' e' hL' => ?_, fun L1 L2 h1 h2 h3 => ?_⟩
  · by_cases hq : L' = L
    · subst hq
      rw [wset_s] at hL'
      cases hL'
      rw [aset_s]
      exact ⟨he, hb⟩
    · rw [wset_n hq] at hL'
      rw [aset_n hq]
      exact ⟨(h.1 _ _ hL').1.kept (o _ (h.1 _ _ hL').1.lt), (h.1 _ _ hL').2⟩
  · by_cases hq1 : L1 = L <;> by_cases hq2 : L2 = L
    · rw [hq1, hq2]
    · rw [hq1, aset_s, aset_n hq2] at h3
      rw [wset_n hq2] at h2
      have := far L2 h2
      omega
    · rw [hq2, aset_s, aset_n hq1] at h3
      rw [wset_n hq1] at h1
      have := far L1 h1
      omega
    · rw [aset_n hq1, aset_n hq2] at h3
      rw [wset_n hq1] at h1
      rw [wset_n hq2] at h2
      exact h.2 L1 L2 h1 h2 h3
theorem Mem.less {D : va_G} {ba : Nat} {s : State} {ad : Adr} {w w' : Wd} {H : Heap} (h : Mem D ba s ad w H) (hw : ∀ L e, w' L = some e → w L = some e) : Mem D ba s ad w' H := by
  have key : ∀ L, w' L ≠ none → w L ≠ none := by
    intro L hn hz
    cases hq : w' L with
    | none => exact hn hq
    | some e => rw [hw L e hq] at hz; cases hz
  exact ⟨fun L e hL => h.1 L e (hw L e hL), fun L1 L2 h1 h2 h3 => h.2 L1 L2 (key L1 h1) (key L2 h2) h3⟩
theorem Mem.adr {D : va_G} {ba : Nat} {s : State} {ad ad' : Adr} {w : Wd} {H : Heap} (h : Mem D ba s ad w H) (ha : ∀ L, w L ≠ none → ad' L = ad L) : Mem D ba s ad' w H := by
  refine ⟨fun L e hL => ?_, fun L1 L2 h1 h2 h3 => h.2 L1 L2 h1 h2 (by rw [← ha L1 h1, ← ha L2 h2]; exact h3)⟩
  rw [ha L (by rw [hL]; exact fun z => nomatch z)]
  exact h.1 L e hL
/-! ===== the words ===== -/
def eg_T : List Cond := lw_tbl.filter goodWord
theorem eg_TT : GoodIn eg_T eg_T := fun w hw => ⟨hw, good_of_word (List.mem_filter.mp hw).2⟩
theorem eg_in {w : Cond} (i : Nat) (h : lw_tbl[i]? = some w) (hg : goodWord w = true) : w ∈ eg_T := List.mem_filter.mpr ⟨List.mem_of_getElem? h, hg⟩
def eg_nw : Cond → Bool
  | .fieldLinkNest .. | .methodLinkNest .. | .declares _ | .castable .. | .publicMethod _ | .unhidden .. => true
  | _ => false
theorem eg_nw_warm {w : Cond} (hn : eg_nw w = true) {s U : State} (hW : s.WarmedH U.vm) (h : va_Nw w s) : va_Nw w U := by
  cases w <;> first | (simp [eg_nw] at hn; done) | skip
  case fieldLinkNest => exact va_Nw.warmF hW h
  case methodLinkNest => exact va_Nw.warmM hW h
  case declares => exact va_Nw.warmD hW h
  case castable => exact va_Nw.warmC hW h
  case publicMethod => exact va_tabs rfl (rfl : (s.setVm U.vm).vm = U.vm) (by rw [Cond.publicMethod_setVm hW.alike]; exact h)
  case unhidden => exact va_tabs rfl (rfl : (s.setVm U.vm).vm = U.vm) (by rw [Cond.unhidden_setVm hW.alike]; exact h)
theorem eg_nw_tab {w : Cond} (hn : eg_nw w = true) : w.onTables = true := by
  cases w <;> first | rfl | (simp [eg_nw] at hn; done)

/-- the faces that a call through an interface may meet -/
def eg_faces : List (String × MethodName × MethodName) := [(RX5, ⟨"EchoBureau$Listener", "hear", "(II)V"⟩, yX5_hear), (RX2, ⟨"EchoBureau$Listener", "hear", "(II)V"⟩, yX2_hear)]
def eg_nc : List (String × String) := []
/-- what every method finds: the tables as they stand -/
def NF (D : va_G) (ba : Nat) (U : State) : Prop :=
  va_K D vwCl [] U ∧ (∀ w ∈ lw_tbl, eg_nw w = true → va_Nw w U) ∧ (∀ C : String, Cond.arrayOver (.object C) ∈ lw_tbl → va_AO C U) ∧ (∀ q ∈ eg_faces, va_Fw q.1 q.2.1 q.2.2 U) ∧
  (vx_Zq Bundle.tN "UNASSIGNED_STACK" Bundle.steD (fun q => ba ≤ q) U U.heap ∧ vx_Zq Bundle.tN "SUPPRESSED_SENTINEL" Bundle.listD (fun q => ba ≤ q) U U.heap) ∧
  (∀ (own : String) (k : Nat) (tx : String), Cond.stringRef own k tx ∈ lw_tbl → ∃ a, vk_R own k tx a U) ∧ (∀ q ∈ eg_nc, va_Nc q.1 q.2 U) ∧ (Cond.arrayOver (.array .int)).before #[] U = true ∧ ∃ (L : Nat) (xs : Nat → Int32), D.2 99 0 < ba ∧ D.2 99 0 < U.heap.size ∧ L ≤ 260 ∧ va_X (D.2 99 0) L xs U U.heap
theorem eg_faces_x : ∀ q ∈ eg_faces, q.2.1.cls ≠ "java/lang/invoke/MethodHandle" ∧ q.2.1.cls ≠ "java/lang/invoke/VarHandle" := by decide +kernel
theorem NF.moved {D : va_G} {ba : Nat} {s U : State} (hW : s.WarmedH U.vm) (hk : ∀ q : Nat, q < s.heap.size → ¬ ba ≤ q → U.heap[q]? = s.heap[q]?) (h : NF D ba s) : NF D ba U := by
  obtain ⟨h1, h2, h3, h4, ⟨h5, h6⟩, h7, h8, h9, L, xs, g1, g2, g3, g4⟩ := h
  refine ⟨va_K.moved hW.alike h1, fun w hw hn => eg_nw_warm hn hW (h2 w hw hn), fun C hC => (h3 C hC).moved hW.alike, fun q hq => va_Fw.moved (eg_faces_x q hq) hW.alike (h4 q hq), ⟨vx_Zq.moved hW.alike (h5.kept hk), vx_Zq.moved hW.alike (h6.kept hk)⟩, fun own k tx hm => ?_, fun q hq => (h8 q hq).moved hW.alike, over_moved hW.alike h9, L, xs, g1, ?_, g3, (g4.kept (hk _ g2 (by omega))).moved hW.alike⟩
  · obtain ⟨a, ha⟩ := h7 own k tx hm
    exact ⟨a, ha.warm hW⟩
  · exact (Array.getElem?_eq_some_iff.mp ((hk _ g2 (by omega)).trans (Array.getElem?_eq_some_iff.mpr ⟨g2, rfl⟩))).1
/-! ===== contracts ===== -/
abbrev rmO (d mc ms : Nat) : Room := { frames := d, cells := mc, slots := ms, locals := 39 * d + 2 }
def mPc (D : va_G) (ba : Nat) (as : List Value) (ad : Adr) (w : Wd) : Array Value → State → Prop := fun a U => a = as.toArray ∧ NF D ba U ∧ ba ≤ U.heap.size ∧ Mem D ba U ad w U.heap
def mQc (D : va_G) (ba : Nat) (QR : Option Value → Adr → Wd → Prop) : Array Value → State → Outcome → State → Prop := fun _ st o t => ∃ v ad w, o = .returned v ∧ QR v ad w ∧ Mem D ba t ad w t.heap ∧ va_F (fun q => ba ≤ q) st t
def mXC (D : va_G) (ba : Nat) (QX : String → Adr → Wd → Prop) : String → State → State → Prop := fun E st t => ∃ ad w, QX E ad w ∧ Mem D ba t ad w t.heap ∧ va_F (fun q => ba ≤ q) st t
theorem mPc_blind {D : va_G} {ba : Nat} {as : List Value} {ad : Adr} {w : Wd} : FrameBlind (mPc D ba as ad w) := by
  intro a U g mk h
  obtain ⟨h1, h2, h3, h4⟩ := h
  exact ⟨h1, NF.moved (s := U) (U := U.calling g mk a) (State.WarmedH.refl U) (fun _ _ _ => rfl) h2, h3, Mem.moved (s := U) (U := U.calling g mk a) (Vm.Alike.refl U.vm) h4⟩
def CT (l : Launch) (y : MethodName) (ws : List Cond) (d mc ms : Nat) (D : va_G) (ba : Nat) (as : List Value) (ad : Adr) (w : Wd) (QR : Option Value → Adr → Wd → Prop) (QX : String → Adr → Wd → Prop) : Prop :=
  vx_Met l y ws (rmO d mc ms) (mPc D ba as ad w) (mQc D ba QR) (mXC D ba QX) mc ms (fun q => ba ≤ q)
/-- what stands through a whole method -/
def Cx (p : Program) (l : Launch) (s : State) (m : MethodId) (args : Array Value) (meth : Method) (c : Code) (D : va_G) (ba : Nat) (own : String) (cc : ByteArray) (nL : Nat) (tb : List ExceptionTableEntry) (d : Nat) : Prop :=
  p.tables.exec = Jvm.exec ∧ c.code = cc ∧ c.maxLocals = nL ∧ s.vm.findClass own = some m.cls ∧ (∀ w ∈ eg_T, w.before args s = true) ∧ NF D ba s ∧ ba ≤ s.heap.size ∧ meth.locks = false ∧ l.stackTraces = false ∧ c.exceptionTable.toList = tb
def V (p : Program) (l : Launch) (e : Env) (s : State) (m : MethodId) (args : Array Value) (below : List Frame) (meth : Method) (c : Code) (D : va_G) (ba : Nat) (d mc ms : Nat) (Q : State → Prop) (nL : Nat) (ad : Adr) (w : Wd) (pc : Nat) (lv : List (Nat × Value)) (st : List Value) (cells slots : Nat) : Prop :=
  ∀ (H : Heap) (locs : List Loc) (ls : Array Slot), Mem D ba s ad w H → va_S (fun q => ba ≤ q) s.heap H locs → lv_has ls nL lv → W p l e (rmO d mc ms) s m args below meth c H locs cells slots Q (F0 m pc ls st)
/-- E was thrown at pc -/
def VX (p : Program) (l : Launch) (e : Env) (s : State) (m : MethodId) (args : Array Value) (below : List Frame) (meth : Method) (c : Code) (D : va_G) (ba : Nat) (d mc ms : Nat) (Q : State → Prop) (nL : Nat) (E : String) (ad : Adr) (w : Wd) (pc : Nat) (lv : List (Nat × Value)) (st : List Value) (cells slots : Nat) : Prop :=
  ∀ (H : Heap) (locs : List Loc) (ls : Array Slot) (q : Addr) (ce : Cell), Mem D ba s ad w H → va_S (fun q => ba ≤ q) s.heap H locs → lv_has ls nL lv → H[q]? = some ce → ce.vm = .none → s.vm.findClass E = some ce.cls → vx_W p l e (rmO d mc ms) s m args below meth c H locs cells slots Q (F0 m pc ls st) q
abbrev MO (D : va_G) (ba : Nat) (QR : Option Value → Adr → Wd → Prop) (QX : String → Adr → Wd → Prop) (below : List Frame) (args : Array Value) (s : State) (mc ms : Nat) : State → Prop := vx_MQ below (mQc D ba QR) (mXC D ba QX) args s mc ms (fun q => ba ≤ q)
section EG
variable {p : Program} {l : Launch} {e : Env} {s : State} {m : MethodId} {args : Array Value} {below : List Frame} {meth : Method} {c : Code} {D : va_G} {ba : Nat} {d mc ms : Nat} {Q : State → Prop} {nL : Nat} {ad : Adr} {w : Wd} {pc : Nat} {lv : List (Nat × Value)} {rest : List Value} {cells slots : Nat}
variable {own : String} {cc : ByteArray} {tb : List ExceptionTableEntry}
theorem V_eq {pc' : Nat} (h : pc = pc') (k : V p l e s m args below meth c D ba d mc ms Q nL ad w pc' lv rest cells slots) : V p l e s m args below meth c D ba d mc ms Q nL ad w pc lv rest cells slots := h ▸ k
theorem V_wd {w' : Wd} (h : w = w') (k : V p l e s m args below meth c D ba d mc ms Q nL ad w' pc lv rest cells slots) : V p l e s m args below meth c D ba d mc ms Q nL ad w pc lv rest cells slots := h ▸ k
theorem V_lv {lv' : List (Nat × Value)} (ks : List Nat) (h : lv_pick lv ks = lv') (k : V p l e s m args below meth c D ba d mc ms Q nL ad w pc lv' rest cells slots) : V p l e s m args below meth c D ba d mc ms Q nL ad w pc lv rest cells slots := fun H locs ls hM hS hl => k H locs ls hM hS (lv_sub hl ks h)
theorem V_less {w' : Wd} (h : ∀ L e, w' L = some e → w L = some e) (k : V p l e s m args below meth c D ba d mc ms Q nL ad w' pc lv rest cells slots) : V p l e s m args below meth c D ba d mc ms Q nL ad w pc lv rest cells slots := fun H locs ls hM hS hl => k H locs ls (hM.less h) hS hl
theorem V_adr {ad' : Adr} (h : ∀ L, w L ≠ none → ad' L = ad L) (k : V p l e s m args below meth c D ba d mc ms Q nL ad' w pc lv rest cells slots) : V p l e s m args below meth c D ba d mc ms Q nL ad w pc lv rest cells slots := fun H locs ls hM hS hl => k H locs ls (hM.adr h) hS hl
theorem V_cs {cells' slots' : Nat} (h1 : cells ≤ cells') (h2 : slots ≤ slots') (k : V p l e s m args below meth c D ba d mc ms Q nL ad w pc lv rest cells' slots') : V p l e s m args below meth c D ba d mc ms Q nL ad w pc lv rest cells slots := fun H locs ls hM hS hl => W.widen h1 h2 (k H locs ls hM hS hl)
theorem V_iadd (C : Cx p l s m args meth c D ba own cc nL tb d) {x y : Int32} (h : decode cc pc = .ok (.iadd, 1)) (k : V p l e s m args below meth c D ba d mc ms Q nL ad w (pc + 1) lv (.int (x + y) :: rest) cells slots) : V p l e s m args below meth c D ba d mc ms Q nL ad w pc lv (.int y :: .int x :: rest) cells slots := fun H locs ls hM hS hl => lv_iadd C.1 C.2.1 h (k H locs ls hM hS hl)
theorem V_isub (C : Cx p l s m args meth c D ba own cc nL tb d) {x y : Int32} (h : decode cc pc = .ok (.isub, 1)) (k : V p l e s m args below meth c D ba d mc ms Q nL ad w (pc + 1) lv (.int (x - y) :: rest) cells slots) : V p l e s m args below meth c D ba d mc ms Q nL ad w pc lv (.int y :: .int x :: rest) cells slots := fun H locs ls hM hS hl => lv_isub C.1 C.2.1 h (k H locs ls hM hS hl)
theorem V_imul (C : Cx p l s m args meth c D ba own cc nL tb d) {x y : Int32} (h : decode cc pc = .ok (.imul, 1)) (k : V p l e s m args below meth c D ba d mc ms Q nL ad w (pc + 1) lv (.int (x * y) :: rest) cells slots) : V p l e s m args below meth c D ba d mc ms Q nL ad w pc lv (.int y :: .int x :: rest) cells slots := fun H locs ls hM hS hl => lv_imul C.1 C.2.1 h (k H locs ls hM hS hl)
theorem V_iand (C : Cx p l s m args meth c D ba own cc nL tb d) {x y : Int32} (h : decode cc pc = .ok (.iand, 1)) (k : V p l e s m args below meth c D ba d mc ms Q nL ad w (pc + 1) lv (.int (x &&& y) :: rest) cells slots) : V p l e s m args below meth c D ba d mc ms Q nL ad w pc lv (.int y :: .int x :: rest) cells slots := fun H locs ls hM hS hl => lv_iand C.1 C.2.1 h (k H locs ls hM hS hl)
theorem V_ior (C : Cx p l s m args meth c D ba own cc nL tb d) {x y : Int32} (h : decode cc pc = .ok (.ior, 1)) (k : V p l e s m args below meth c D ba d mc ms Q nL ad w (pc + 1) lv (.int (x ||| y) :: rest) cells slots) : V p l e s m args below meth c D ba d mc ms Q nL ad w pc lv (.int y :: .int x :: rest) cells slots := fun H locs ls hM hS hl => lv_ior C.1 C.2.1 h (k H locs ls hM hS hl)
theorem V_ixor (C : Cx p l s m args meth c D ba own cc nL tb d) {x y : Int32} (h : decode cc pc = .ok (.ixor, 1)) (k : V p l e s m args below meth c D ba d mc ms Q nL ad w (pc + 1) lv (.int (x ^^^ y) :: rest) cells slots) : V p l e s m args below meth c D ba d mc ms Q nL ad w pc lv (.int y :: .int x :: rest) cells slots := fun H locs ls hM hS hl => lv_ixor C.1 C.2.1 h (k H locs ls hM hS hl)
theorem V_ladd (C : Cx p l s m args meth c D ba own cc nL tb d) {x y : Int64} (h : decode cc pc = .ok (.ladd, 1)) (k : V p l e s m args below meth c D ba d mc ms Q nL ad w (pc + 1) lv (.long (x + y) :: rest) cells slots) : V p l e s m args below meth c D ba d mc ms Q nL ad w pc lv (.long y :: .long x :: rest) cells slots := fun H locs ls hM hS hl => lv_ladd C.1 C.2.1 h (k H locs ls hM hS hl)
theorem V_lsub (C : Cx p l s m args meth c D ba own cc nL tb d) {x y : Int64} (h : decode cc pc = .ok (.lsub, 1)) (k : V p l e s m args below meth c D ba d mc ms Q nL ad w (pc + 1) lv (.long (x - y) :: rest) cells slots) : V p l e s m args below meth c D ba d mc ms Q nL ad w pc lv (.long y :: .long x :: rest) cells slots := fun H locs ls hM hS hl => lv_lsub C.1 C.2.1 h (k H locs ls hM hS hl)
theorem V_lmul (C : Cx p l s m args meth c D ba own cc nL tb d) {x y : Int64} (h : decode cc pc = .ok (.lmul, 1)) (k : V p l e s m args below meth c D ba d mc ms Q nL ad w (pc + 1) lv (.long (x * y) :: rest) cells slots) : V p l e s m args below meth c D ba d mc ms Q nL ad w pc lv (.long y :: .long x :: rest) cells slots := fun H locs ls hM hS hl => lv_lmul C.1 C.2.1 h (k H locs ls hM hS hl)
theorem V_idiv (C : Cx p l s m args meth c D ba own cc nL tb d) {x y : Int32} (h : decode cc pc = .ok (.idiv, 1)) (hne : ¬ y = 0) (k : V p l e s m args below meth c D ba d mc ms Q nL ad w (pc + 1) lv (.int (x / y) :: rest) cells slots) : V p l e s m args below meth c D ba d mc ms Q nL ad w pc lv (.int y :: .int x :: rest) cells slots := fun H locs ls hM hS hl => lv_idiv C.1 C.2.1 h hne (k H locs ls hM hS hl)
theorem V_irem (C : Cx p l s m args meth c D ba own cc nL tb d) {x y : Int32} (h : decode cc pc = .ok (.irem, 1)) (hne : ¬ y = 0) (k : V p l e s m args below meth c D ba d mc ms Q nL ad w (pc + 1) lv (.int (x - x / y * y) :: rest) cells slots) : V p l e s m args below meth c D ba d mc ms Q nL ad w pc lv (.int y :: .int x :: rest) cells slots := fun H locs ls hM hS hl => lv_irem C.1 C.2.1 h hne (k H locs ls hM hS hl)
theorem V_iconst (C : Cx p l s m args meth c D ba own cc nL tb d) {n : Int} {v : Int32} (h : decode cc pc = .ok (.iconst n, 1)) (hv : Int32.ofInt n = v) (k : V p l e s m args below meth c D ba d mc ms Q nL ad w (pc + 1) lv (.int v :: rest) cells slots) : V p l e s m args below meth c D ba d mc ms Q nL ad w pc lv rest cells slots := fun H locs ls hM hS hl => lv_iconst C.1 C.2.1 h hv (k H locs ls hM hS hl)
theorem V_bipush (C : Cx p l s m args meth c D ba own cc nL tb d) {n : Int} {v : Int32} (h : decode cc pc = .ok (.bipush n, 2)) (hv : (Int8.ofInt n).toInt32 = v) (k : V p l e s m args below meth c D ba d mc ms Q nL ad w (pc + 2) lv (.int v :: rest) cells slots) : V p l e s m args below meth c D ba d mc ms Q nL ad w pc lv rest cells slots := fun H locs ls hM hS hl => lv_bipush C.1 C.2.1 h hv (k H locs ls hM hS hl)
theorem V_sipush (C : Cx p l s m args meth c D ba own cc nL tb d) {n : Int} {v : Int32} (h : decode cc pc = .ok (.sipush n, 3)) (hv : (Int16.ofInt n).toInt32 = v) (k : V p l e s m args below meth c D ba d mc ms Q nL ad w (pc + 3) lv (.int v :: rest) cells slots) : V p l e s m args below meth c D ba d mc ms Q nL ad w pc lv rest cells slots := fun H locs ls hM hS hl => lv_sipush C.1 C.2.1 h hv (k H locs ls hM hS hl)
theorem V_lconst (C : Cx p l s m args meth c D ba own cc nL tb d) {n : Fin 2} {v : Int64} (h : decode cc pc = .ok (.lconst n, 1)) (hv : Int64.ofNat (n : Nat) = v) (k : V p l e s m args below meth c D ba d mc ms Q nL ad w (pc + 1) lv (.long v :: rest) cells slots) : V p l e s m args below meth c D ba d mc ms Q nL ad w pc lv rest cells slots := fun H locs ls hM hS hl => lv_lconst C.1 C.2.1 h hv (k H locs ls hM hS hl)
theorem V_null (C : Cx p l s m args meth c D ba own cc nL tb d) (h : decode cc pc = .ok (.aconst_null, 1)) (k : V p l e s m args below meth c D ba d mc ms Q nL ad w (pc + 1) lv (.null :: rest) cells slots) : V p l e s m args below meth c D ba d mc ms Q nL ad w pc lv rest cells slots := fun H locs ls hM hS hl => lv_null C.1 C.2.1 h (k H locs ls hM hS hl)
theorem V_dconst0 (C : Cx p l s m args meth c D ba own cc nL tb d) (h : decode cc pc = .ok (.dconst 0, 1)) (k : V p l e s m args below meth c D ba d mc ms Q nL ad w (pc + 1) lv (.double FP.dconst0 :: rest) cells slots) : V p l e s m args below meth c D ba d mc ms Q nL ad w pc lv rest cells slots := fun H locs ls hM hS hl => lv_dconst0 C.1 C.2.1 h (k H locs ls hM hS hl)
theorem V_iload_n (C : Cx p l s m args meth c D ba own cc nL tb d) {i : Fin 4} {x : Int32} (h : decode cc pc = .ok (.iload_n i, 1)) (j : Nat) (hj : lv[j]? = some ((i : Nat), .int x)) (k : V p l e s m args below meth c D ba d mc ms Q nL ad w (pc + 1) lv (.int x :: rest) cells slots) : V p l e s m args below meth c D ba d mc ms Q nL ad w pc lv rest cells slots := fun H locs ls hM hS hl => lv_iload_n C.1 C.2.1 h rfl (lv_at hl j hj) (k H locs ls hM hS hl)
theorem V_iload (C : Cx p l s m args meth c D ba own cc nL tb d) {i : Nat} {x : Int32} (h : decode cc pc = .ok (.iload i, 2)) (j : Nat) (hj : lv[j]? = some (i, .int x)) (k : V p l e s m args below meth c D ba d mc ms Q nL ad w (pc + 2) lv (.int x :: rest) cells slots) : V p l e s m args below meth c D ba d mc ms Q nL ad w pc lv rest cells slots := fun H locs ls hM hS hl => lv_iload C.1 C.2.1 h (lv_at hl j hj) (k H locs ls hM hS hl)
theorem V_lload_n (C : Cx p l s m args meth c D ba own cc nL tb d) {i : Fin 4} {x : Int64} (h : decode cc pc = .ok (.lload_n i, 1)) (j : Nat) (hj : lv[j]? = some ((i : Nat), .long x)) (k : V p l e s m args below meth c D ba d mc ms Q nL ad w (pc + 1) lv (.long x :: rest) cells slots) : V p l e s m args below meth c D ba d mc ms Q nL ad w pc lv rest cells slots := fun H locs ls hM hS hl => lv_lload_n C.1 C.2.1 h rfl (lv_at hl j hj) (k H locs ls hM hS hl)
theorem V_lload (C : Cx p l s m args meth c D ba own cc nL tb d) {i : Nat} {x : Int64} (h : decode cc pc = .ok (.lload i, 2)) (j : Nat) (hj : lv[j]? = some (i, .long x)) (k : V p l e s m args below meth c D ba d mc ms Q nL ad w (pc + 2) lv (.long x :: rest) cells slots) : V p l e s m args below meth c D ba d mc ms Q nL ad w pc lv rest cells slots := fun H locs ls hM hS hl => lv_lload C.1 C.2.1 h (lv_at hl j hj) (k H locs ls hM hS hl)
theorem V_aload_n (C : Cx p l s m args meth c D ba own cc nL tb d) {i : Fin 4} {x : Nat} (h : decode cc pc = .ok (.aload_n i, 1)) (j : Nat) (hj : lv[j]? = some ((i : Nat), .ref x)) (k : V p l e s m args below meth c D ba d mc ms Q nL ad w (pc + 1) lv (.ref x :: rest) cells slots) : V p l e s m args below meth c D ba d mc ms Q nL ad w pc lv rest cells slots := fun H locs ls hM hS hl => lv_aload_n C.1 C.2.1 h rfl (lv_at hl j hj) (k H locs ls hM hS hl)
theorem V_aload (C : Cx p l s m args meth c D ba own cc nL tb d) {i : Nat} {x : Nat} (h : decode cc pc = .ok (.aload i, 2)) (j : Nat) (hj : lv[j]? = some (i, .ref x)) (k : V p l e s m args below meth c D ba d mc ms Q nL ad w (pc + 2) lv (.ref x :: rest) cells slots) : V p l e s m args below meth c D ba d mc ms Q nL ad w pc lv rest cells slots := fun H locs ls hM hS hl => lv_aload C.1 C.2.1 h (lv_at hl j hj) (k H locs ls hM hS hl)
theorem V_dload_n (C : Cx p l s m args meth c D ba own cc nL tb d) {i : Fin 4} {x : UInt64} (h : decode cc pc = .ok (.dload_n i, 1)) (j : Nat) (hj : lv[j]? = some ((i : Nat), .double x)) (k : V p l e s m args below meth c D ba d mc ms Q nL ad w (pc + 1) lv (.double x :: rest) cells slots) : V p l e s m args below meth c D ba d mc ms Q nL ad w pc lv rest cells slots := fun H locs ls hM hS hl => lv_dload_n C.1 C.2.1 h rfl (lv_at hl j hj) (k H locs ls hM hS hl)
theorem V_dload (C : Cx p l s m args meth c D ba own cc nL tb d) {i : Nat} {x : UInt64} (h : decode cc pc = .ok (.dload i, 2)) (j : Nat) (hj : lv[j]? = some (i, .double x)) (k : V p l e s m args below meth c D ba d mc ms Q nL ad w (pc + 2) lv (.double x :: rest) cells slots) : V p l e s m args below meth c D ba d mc ms Q nL ad w pc lv rest cells slots := fun H locs ls hM hS hl => lv_dload C.1 C.2.1 h (lv_at hl j hj) (k H locs ls hM hS hl)
theorem V_istore_n (C : Cx p l s m args meth c D ba own cc nL tb d) {i : Fin 4} {x : Int32} (lv' : List (Nat × Value)) (h : decode cc pc = .ok (.istore_n i, 1)) (hn : (i : Nat) < nL) (hq : ((i : Nat), Value.int x) :: lv.filter (fun q => !(q.1 == (i : Nat)) && !(q.1 + 1 == (i : Nat) && q.2.category == 2)) = lv') (k : V p l e s m args below meth c D ba d mc ms Q nL ad w (pc + 1) lv' rest cells slots) : V p l e s m args below meth c D ba d mc ms Q nL ad w pc lv (.int x :: rest) cells slots := fun H locs ls hM hS hl => lv_istore_n (lv' := lv') C.1 C.2.1 h rfl hl hn hq (fun ls' hl' => k H locs ls' hM hS hl')
theorem V_lstore_n (C : Cx p l s m args meth c D ba own cc nL tb d) {i : Fin 4} {x : Int64} (lv' : List (Nat × Value)) (h : decode cc pc = .ok (.lstore_n i, 1)) (hn : (i : Nat) + 1 < nL) (hq : ((i : Nat), Value.long x) :: lv.filter (fun q => !(q.1 == (i : Nat)) && (!(q.1 == (i : Nat) + 1) && !(q.1 + 1 == (i : Nat) && q.2.category == 2))) = lv') (k : V p l e s m args below meth c D ba d mc ms Q nL ad w (pc + 1) lv' rest cells slots) : V p l e s m args below meth c D ba d mc ms Q nL ad w pc lv (.long x :: rest) cells slots := fun H locs ls hM hS hl => lv_lstore_n (lv' := lv') C.1 C.2.1 h rfl hl hn hq (fun ls' hl' => k H locs ls' hM hS hl')
theorem V_astore_n (C : Cx p l s m args meth c D ba own cc nL tb d) {i : Fin 4} {x : Nat} (lv' : List (Nat × Value)) (h : decode cc pc = .ok (.astore_n i, 1)) (hn : (i : Nat) < nL) (hq : ((i : Nat), Value.ref x) :: lv.filter (fun q => !(q.1 == (i : Nat)) && !(q.1 + 1 == (i : Nat) && q.2.category == 2)) = lv') (k : V p l e s m args below meth c D ba d mc ms Q nL ad w (pc + 1) lv' rest cells slots) : V p l e s m args below meth c D ba d mc ms Q nL ad w pc lv (.ref x :: rest) cells slots := fun H locs ls hM hS hl => lv_astore_n (lv' := lv') C.1 C.2.1 h rfl hl hn hq (fun ls' hl' => k H locs ls' hM hS hl')
theorem V_dstore_n (C : Cx p l s m args meth c D ba own cc nL tb d) {i : Fin 4} {x : UInt64} (lv' : List (Nat × Value)) (h : decode cc pc = .ok (.dstore_n i, 1)) (hn : (i : Nat) + 1 < nL) (hq : ((i : Nat), Value.double x) :: lv.filter (fun q => !(q.1 == (i : Nat)) && (!(q.1 == (i : Nat) + 1) && !(q.1 + 1 == (i : Nat) && q.2.category == 2))) = lv') (k : V p l e s m args below meth c D ba d mc ms Q nL ad w (pc + 1) lv' rest cells slots) : V p l e s m args below meth c D ba d mc ms Q nL ad w pc lv (.double x :: rest) cells slots := fun H locs ls hM hS hl => lv_dstore_n (lv' := lv') C.1 C.2.1 h rfl hl hn hq (fun ls' hl' => k H locs ls' hM hS hl')
theorem V_astore_nN (C : Cx p l s m args meth c D ba own cc nL tb d) {i : Fin 4} (lv' : List (Nat × Value)) (h : decode cc pc = .ok (.astore_n i, 1)) (hn : (i : Nat) < nL) (hq : ((i : Nat), Value.null) :: lv.filter (fun q => !(q.1 == (i : Nat)) && !(q.1 + 1 == (i : Nat) && q.2.category == 2)) = lv') (k : V p l e s m args below meth c D ba d mc ms Q nL ad w (pc + 1) lv' rest cells slots) : V p l e s m args below meth c D ba d mc ms Q nL ad w pc lv (.null :: rest) cells slots := fun H locs ls hM hS hl => lv_astore_nN (lv' := lv') C.1 C.2.1 h rfl hl hn hq (fun ls' hl' => k H locs ls' hM hS hl')
theorem V_istore (C : Cx p l s m args meth c D ba own cc nL tb d) {i : Nat} {x : Int32} (lv' : List (Nat × Value)) (h : decode cc pc = .ok (.istore i, 2)) (hn : i < nL) (hq : (i, Value.int x) :: lv.filter (fun q => !(q.1 == i) && !(q.1 + 1 == i && q.2.category == 2)) = lv') (k : V p l e s m args below meth c D ba d mc ms Q nL ad w (pc + 2) lv' rest cells slots) : V p l e s m args below meth c D ba d mc ms Q nL ad w pc lv (.int x :: rest) cells slots := fun H locs ls hM hS hl => lv_istore (lv' := lv') C.1 C.2.1 h hl hn hq (fun ls' hl' => k H locs ls' hM hS hl')
theorem V_lstore (C : Cx p l s m args meth c D ba own cc nL tb d) {i : Nat} {x : Int64} (lv' : List (Nat × Value)) (h : decode cc pc = .ok (.lstore i, 2)) (hn : i + 1 < nL) (hq : (i, Value.long x) :: lv.filter (fun q => !(q.1 == i) && (!(q.1 == i + 1) && !(q.1 + 1 == i && q.2.category == 2))) = lv') (k : V p l e s m args below meth c D ba d mc ms Q nL ad w (pc + 2) lv' rest cells slots) : V p l e s m args below meth c D ba d mc ms Q nL ad w pc lv (.long x :: rest) cells slots := fun H locs ls hM hS hl => lv_lstore (lv' := lv') C.1 C.2.1 h hl hn hq (fun ls' hl' => k H locs ls' hM hS hl')
theorem V_astore (C : Cx p l s m args meth c D ba own cc nL tb d) {i : Nat} {x : Nat} (lv' : List (Nat × Value)) (h : decode cc pc = .ok (.astore i, 2)) (hn : i < nL) (hq : (i, Value.ref x) :: lv.filter (fun q => !(q.1 == i) && !(q.1 + 1 == i && q.2.category == 2)) = lv') (k : V p l e s m args below meth c D ba d mc ms Q nL ad w (pc + 2) lv' rest cells slots) : V p l e s m args below meth c D ba d mc ms Q nL ad w pc lv (.ref x :: rest) cells slots := fun H locs ls hM hS hl => lv_astore (lv' := lv') C.1 C.2.1 h hl hn hq (fun ls' hl' => k H locs ls' hM hS hl')
theorem V_dstore (C : Cx p l s m args meth c D ba own cc nL tb d) {i : Nat} {x : UInt64} (lv' : List (Nat × Value)) (h : decode cc pc = .ok (.dstore i, 2)) (hn : i + 1 < nL) (hq : (i, Value.double x) :: lv.filter (fun q => !(q.1 == i) && (!(q.1 == i + 1) && !(q.1 + 1 == i && q.2.category == 2))) = lv') (k : V p l e s m args below meth c D ba d mc ms Q nL ad w (pc + 2) lv' rest cells slots) : V p l e s m args below meth c D ba d mc ms Q nL ad w pc lv (.double x :: rest) cells slots := fun H locs ls hM hS hl => lv_dstore (lv' := lv') C.1 C.2.1 h hl hn hq (fun ls' hl' => k H locs ls' hM hS hl')
theorem V_astoreN (C : Cx p l s m args meth c D ba own cc nL tb d) {i : Nat} (lv' : List (Nat × Value)) (h : decode cc pc = .ok (.astore i, 2)) (hn : i < nL) (hq : (i, Value.null) :: lv.filter (fun q => !(q.1 == i) && !(q.1 + 1 == i && q.2.category == 2)) = lv') (k : V p l e s m args below meth c D ba d mc ms Q nL ad w (pc + 2) lv' rest cells slots) : V p l e s m args below meth c D ba d mc ms Q nL ad w pc lv (.null :: rest) cells slots := fun H locs ls hM hS hl => lv_astoreN (lv' := lv') C.1 C.2.1 h hl hn hq (fun ls' hl' => k H locs ls' hM hS hl')
theorem V_iinc (C : Cx p l s m args meth c D ba own cc nL tb d) {i : Nat} {n : Int} {x v : Int32} (lv' : List (Nat × Value)) (h : decode cc pc = .ok (.iinc i n, 3)) (j : Nat) (hj : lv[j]? = some (i, .int x)) (hv : x + Int32.ofInt n = v) (hn : i < nL) (hq : (i, Value.int v) :: lv.filter (fun q => !(q.1 == i) && !(q.1 + 1 == i && q.2.category == 2)) = lv') (k : V p l e s m args below meth c D ba d mc ms Q nL ad w (pc + 3) lv' rest cells slots) : V p l e s m args below meth c D ba d mc ms Q nL ad w pc lv rest cells slots := fun H locs ls hM hS hl => lv_iinc (lv' := lv') C.1 C.2.1 h hl hj hv hn hq (fun ls' hl' => k H locs ls' hM hS hl')
theorem V_i2l (C : Cx p l s m args meth c D ba own cc nL tb d) {x : Int32} {v : Int64} (h : decode cc pc = .ok (.i2l, 1)) (hv : x.toInt64 = v) (k : V p l e s m args below meth c D ba d mc ms Q nL ad w (pc + 1) lv (.long v :: rest) cells slots) : V p l e s m args below meth c D ba d mc ms Q nL ad w pc lv (.int x :: rest) cells slots := fun H locs ls hM hS hl => lv_i2l C.1 C.2.1 h hv (k H locs ls hM hS hl)
theorem V_i2d (C : Cx p l s m args meth c D ba own cc nL tb d) {x : Int32} (h : decode cc pc = .ok (.i2d, 1)) (k : V p l e s m args below meth c D ba d mc ms Q nL ad w (pc + 1) lv (.double (FP.i2d x) :: rest) cells slots) : V p l e s m args below meth c D ba d mc ms Q nL ad w pc lv (.int x :: rest) cells slots := fun H locs ls hM hS hl => lv_i2d C.1 C.2.1 h (k H locs ls hM hS hl)
theorem V_ddiv (C : Cx p l s m args meth c D ba own cc nL tb d) {x y : UInt64} (h : decode cc pc = .ok (.ddiv, 1)) (hne : vf_n64 (FP.ddiv x y)) (k : V p l e s m args below meth c D ba d mc ms Q nL ad w (pc + 1) lv (.double (FP.ddiv x y) :: rest) cells slots) : V p l e s m args below meth c D ba d mc ms Q nL ad w pc lv (.double y :: .double x :: rest) cells slots := fun H locs ls hM hS hl => lv_ddiv C.1 C.2.1 h hne (k H locs ls hM hS hl)
theorem V_dcmp (C : Cx p l s m args meth c D ba own cc nL tb d) {x y : UInt64} {op : CmpOp} (h : decode cc pc = .ok (.dcmp op, 1)) (k : V p l e s m args below meth c D ba d mc ms Q nL ad w (pc + 1) lv (.int (Op.cmpValue (FP.dcmp x y) op) :: rest) cells slots) : V p l e s m args below meth c D ba d mc ms Q nL ad w pc lv (.double y :: .double x :: rest) cells slots := fun H locs ls hM hS hl => lv_dcmp C.1 C.2.1 h (k H locs ls hM hS hl)
theorem V_lcmp (C : Cx p l s m args meth c D ba own cc nL tb d) {x y : Int64} (h : decode cc pc = .ok (.lcmp, 1)) (k : V p l e s m args below meth c D ba d mc ms Q nL ad w (pc + 1) lv (.int (lg_cmp x y) :: rest) cells slots) : V p l e s m args below meth c D ba d mc ms Q nL ad w pc lv (.long y :: .long x :: rest) cells slots := fun H locs ls hM hS hl => W.lcmp C.1 C.2.1 h (k H locs ls hM hS hl)
theorem V_dup (C : Cx p l s m args meth c D ba own cc nL tb d) {v : Value} (h : decode cc pc = .ok (.dup, 1)) (hc : v.category = 1) (k : V p l e s m args below meth c D ba d mc ms Q nL ad w (pc + 1) lv (v :: v :: rest) cells slots) : V p l e s m args below meth c D ba d mc ms Q nL ad w pc lv (v :: rest) cells slots := fun H locs ls hM hS hl => lv_dup C.1 C.2.1 h hc (k H locs ls hM hS hl)
theorem V_dup2 (C : Cx p l s m args meth c D ba own cc nL tb d) {v v2 : Value} (h : decode cc pc = .ok (.dup2, 1)) (hc : v.category = 1) (hc2 : v2.category = 1) (k : V p l e s m args below meth c D ba d mc ms Q nL ad w (pc + 1) lv (v :: v2 :: v :: v2 :: rest) cells slots) : V p l e s m args below meth c D ba d mc ms Q nL ad w pc lv (v :: v2 :: rest) cells slots := fun H locs ls hM hS hl => lv_dup2_11 C.1 C.2.1 h hc hc2 (k H locs ls hM hS hl)
theorem V_pop (C : Cx p l s m args meth c D ba own cc nL tb d) {v : Value} (h : decode cc pc = .ok (.pop, 1)) (hc : v.category = 1) (k : V p l e s m args below meth c D ba d mc ms Q nL ad w (pc + 1) lv rest cells slots) : V p l e s m args below meth c D ba d mc ms Q nL ad w pc lv (v :: rest) cells slots := fun H locs ls hM hS hl => lv_pop C.1 C.2.1 h hc (k H locs ls hM hS hl)
theorem V_dup_x1 (C : Cx p l s m args meth c D ba own cc nL tb d) {v v2 : Value} (h : decode cc pc = .ok (.dup_x1, 1)) (hc : v.category = 1) (hc2 : v2.category = 1) (k : V p l e s m args below meth c D ba d mc ms Q nL ad w (pc + 1) lv (v :: v2 :: v :: rest) cells slots) : V p l e s m args below meth c D ba d mc ms Q nL ad w pc lv (v :: v2 :: rest) cells slots := fun H locs ls hM hS hl => lv_dup_x1 C.1 C.2.1 h hc hc2 (k H locs ls hM hS hl)
theorem V_ldc2 (C : Cx p l s m args meth c D ba own cc nL tb d) {i : Nat} {v : Int64} (h : decode cc pc = .ok (.ldc2_w i, 3)) (hw : Cond.constantLong own i v ∈ eg_T) (k : V p l e s m args below meth c D ba d mc ms Q nL ad w (pc + 3) lv (.long v :: rest) cells slots) : V p l e s m args below meth c D ba d mc ms Q nL ad w pc lv rest cells slots := fun H locs ls hM hS hl => W.ldc2 C.1 C.2.1 C.2.2.2.1 (C.2.2.2.2.1 _ hw) rfl h (k H locs ls hM hS hl)
theorem V_if_eq (C : Cx p l s m args meth c D ba own cc nL tb d) {x : Int32} {off : Int} {tgt : Nat} (h : decode cc pc = .ok (.ifCond .eq off, 3)) (ht : (pc : Int) + off = (tgt : Int)) (kt : x = 0 → V p l e s m args below meth c D ba d mc ms Q nL ad w tgt lv rest cells slots) (kf : ¬ x = 0 → V p l e s m args below meth c D ba d mc ms Q nL ad w (pc + 3) lv rest cells slots) : V p l e s m args below meth c D ba d mc ms Q nL ad w pc lv (.int x :: rest) cells slots := fun H locs ls hM hS hl => lv_if_eq C.1 C.2.1 h ht (fun q => kt q H locs ls hM hS hl) (fun q => kf q H locs ls hM hS hl)
theorem V_if_ne (C : Cx p l s m args meth c D ba own cc nL tb d) {x : Int32} {off : Int} {tgt : Nat} (h : decode cc pc = .ok (.ifCond .ne off, 3)) (ht : (pc : Int) + off = (tgt : Int)) (kt : ¬ x = 0 → V p l e s m args below meth c D ba d mc ms Q nL ad w tgt lv rest cells slots) (kf : x = 0 → V p l e s m args below meth c D ba d mc ms Q nL ad w (pc + 3) lv rest cells slots) : V p l e s m args below meth c D ba d mc ms Q nL ad w pc lv (.int x :: rest) cells slots := fun H locs ls hM hS hl => lv_if_ne C.1 C.2.1 h ht (fun q => kt q H locs ls hM hS hl) (fun q => kf q H locs ls hM hS hl)
theorem V_if_lt (C : Cx p l s m args meth c D ba own cc nL tb d) {x : Int32} {off : Int} {tgt : Nat} (h : decode cc pc = .ok (.ifCond .lt off, 3)) (ht : (pc : Int) + off = (tgt : Int)) (kt : x < 0 → V p l e s m args below meth c D ba d mc ms Q nL ad w tgt lv rest cells slots) (kf : ¬ x < 0 → V p l e s m args below meth c D ba d mc ms Q nL ad w (pc + 3) lv rest cells slots) : V p l e s m args below meth c D ba d mc ms Q nL ad w pc lv (.int x :: rest) cells slots := fun H locs ls hM hS hl => lv_if_lt C.1 C.2.1 h ht (fun q => kt q H locs ls hM hS hl) (fun q => kf q H locs ls hM hS hl)
theorem V_if_ge (C : Cx p l s m args meth c D ba own cc nL tb d) {x : Int32} {off : Int} {tgt : Nat} (h : decode cc pc = .ok (.ifCond .ge off, 3)) (ht : (pc : Int) + off = (tgt : Int)) (kt : 0 ≤ x → V p l e s m args below meth c D ba d mc ms Q nL ad w tgt lv rest cells slots) (kf : ¬ 0 ≤ x → V p l e s m args below meth c D ba d mc ms Q nL ad w (pc + 3) lv rest cells slots) : V p l e s m args below meth c D ba d mc ms Q nL ad w pc lv (.int x :: rest) cells slots := fun H locs ls hM hS hl => lv_if_ge C.1 C.2.1 h ht (fun q => kt q H locs ls hM hS hl) (fun q => kf q H locs ls hM hS hl)
theorem V_if_gt (C : Cx p l s m args meth c D ba own cc nL tb d) {x : Int32} {off : Int} {tgt : Nat} (h : decode cc pc = .ok (.ifCond .gt off, 3)) (ht : (pc : Int) + off = (tgt : Int)) (kt : 0 < x → V p l e s m args below meth c D ba d mc ms Q nL ad w tgt lv rest cells slots) (kf : ¬ 0 < x → V p l e s m args below meth c D ba d mc ms Q nL ad w (pc + 3) lv rest cells slots) : V p l e s m args below meth c D ba d mc ms Q nL ad w pc lv (.int x :: rest) cells slots := fun H locs ls hM hS hl => lv_if_gt C.1 C.2.1 h ht (fun q => kt q H locs ls hM hS hl) (fun q => kf q H locs ls hM hS hl)
theorem V_if_le (C : Cx p l s m args meth c D ba own cc nL tb d) {x : Int32} {off : Int} {tgt : Nat} (h : decode cc pc = .ok (.ifCond .le off, 3)) (ht : (pc : Int) + off = (tgt : Int)) (kt : x ≤ 0 → V p l e s m args below meth c D ba d mc ms Q nL ad w tgt lv rest cells slots) (kf : ¬ x ≤ 0 → V p l e s m args below meth c D ba d mc ms Q nL ad w (pc + 3) lv rest cells slots) : V p l e s m args below meth c D ba d mc ms Q nL ad w pc lv (.int x :: rest) cells slots := fun H locs ls hM hS hl => lv_if_le C.1 C.2.1 h ht (fun q => kt q H locs ls hM hS hl) (fun q => kf q H locs ls hM hS hl)
theorem V_icmp_eq (C : Cx p l s m args meth c D ba own cc nL tb d) {x y : Int32} {off : Int} {tgt : Nat} (h : decode cc pc = .ok (.if_icmp .eq off, 3)) (ht : (pc : Int) + off = (tgt : Int)) (kt : x = y → V p l e s m args below meth c D ba d mc ms Q nL ad w tgt lv rest cells slots) (kf : ¬ x = y → V p l e s m args below meth c D ba d mc ms Q nL ad w (pc + 3) lv rest cells slots) : V p l e s m args below meth c D ba d mc ms Q nL ad w pc lv (.int y :: .int x :: rest) cells slots := fun H locs ls hM hS hl => lv_icmp_eq C.1 C.2.1 h ht (fun q => kt q H locs ls hM hS hl) (fun q => kf q H locs ls hM hS hl)
theorem V_icmp_ne (C : Cx p l s m args meth c D ba own cc nL tb d) {x y : Int32} {off : Int} {tgt : Nat} (h : decode cc pc = .ok (.if_icmp .ne off, 3)) (ht : (pc : Int) + off = (tgt : Int)) (kt : ¬ x = y → V p l e s m args below meth c D ba d mc ms Q nL ad w tgt lv rest cells slots) (kf : x = y → V p l e s m args below meth c D ba d mc ms Q nL ad w (pc + 3) lv rest cells slots) : V p l e s m args below meth c D ba d mc ms Q nL ad w pc lv (.int y :: .int x :: rest) cells slots := fun H locs ls hM hS hl => lv_icmp_ne C.1 C.2.1 h ht (fun q => kt q H locs ls hM hS hl) (fun q => kf q H locs ls hM hS hl)
theorem V_icmp_lt (C : Cx p l s m args meth c D ba own cc nL tb d) {x y : Int32} {off : Int} {tgt : Nat} (h : decode cc pc = .ok (.if_icmp .lt off, 3)) (ht : (pc : Int) + off = (tgt : Int)) (kt : x < y → V p l e s m args below meth c D ba d mc ms Q nL ad w tgt lv rest cells slots) (kf : ¬ x < y → V p l e s m args below meth c D ba d mc ms Q nL ad w (pc + 3) lv rest cells slots) : V p l e s m args below meth c D ba d mc ms Q nL ad w pc lv (.int y :: .int x :: rest) cells slots := fun H locs ls hM hS hl => lv_icmp_lt C.1 C.2.1 h ht (fun q => kt q H locs ls hM hS hl) (fun q => kf q H locs ls hM hS hl)
theorem V_icmp_ge (C : Cx p l s m args meth c D ba own cc nL tb d) {x y : Int32} {off : Int} {tgt : Nat} (h : decode cc pc = .ok (.if_icmp .ge off, 3)) (ht : (pc : Int) + off = (tgt : Int)) (kt : y ≤ x → V p l e s m args below meth c D ba d mc ms Q nL ad w tgt lv rest cells slots) (kf : ¬ y ≤ x → V p l e s m args below meth c D ba d mc ms Q nL ad w (pc + 3) lv rest cells slots) : V p l e s m args below meth c D ba d mc ms Q nL ad w pc lv (.int y :: .int x :: rest) cells slots := fun H locs ls hM hS hl => lv_icmp_ge C.1 C.2.1 h ht (fun q => kt q H locs ls hM hS hl) (fun q => kf q H locs ls hM hS hl)
theorem V_icmp_gt (C : Cx p l s m args meth c D ba own cc nL tb d) {x y : Int32} {off : Int} {tgt : Nat} (h : decode cc pc = .ok (.if_icmp .gt off, 3)) (ht : (pc : Int) + off = (tgt : Int)) (kt : y < x → V p l e s m args below meth c D ba d mc ms Q nL ad w tgt lv rest cells slots) (kf : ¬ y < x → V p l e s m args below meth c D ba d mc ms Q nL ad w (pc + 3) lv rest cells slots) : V p l e s m args below meth c D ba d mc ms Q nL ad w pc lv (.int y :: .int x :: rest) cells slots := fun H locs ls hM hS hl => lv_icmp_gt C.1 C.2.1 h ht (fun q => kt q H locs ls hM hS hl) (fun q => kf q H locs ls hM hS hl)
theorem V_icmp_le (C : Cx p l s m args meth c D ba own cc nL tb d) {x y : Int32} {off : Int} {tgt : Nat} (h : decode cc pc = .ok (.if_icmp .le off, 3)) (ht : (pc : Int) + off = (tgt : Int)) (kt : x ≤ y → V p l e s m args below meth c D ba d mc ms Q nL ad w tgt lv rest cells slots) (kf : ¬ x ≤ y → V p l e s m args below meth c D ba d mc ms Q nL ad w (pc + 3) lv rest cells slots) : V p l e s m args below meth c D ba d mc ms Q nL ad w pc lv (.int y :: .int x :: rest) cells slots := fun H locs ls hM hS hl => lv_icmp_le C.1 C.2.1 h ht (fun q => kt q H locs ls hM hS hl) (fun q => kf q H locs ls hM hS hl)
theorem V_goto (C : Cx p l s m args meth c D ba own cc nL tb d) {off : Int} {tgt : Nat} (h : decode cc pc = .ok (.goto off, 3)) (ht : (pc : Int) + off = (tgt : Int)) (k : V p l e s m args below meth c D ba d mc ms Q nL ad w tgt lv rest cells slots) : V p l e s m args below meth c D ba d mc ms Q nL ad w pc lv rest cells slots := fun H locs ls hM hS hl => lv_goto C.1 C.2.1 h ht (k H locs ls hM hS hl)
theorem V_ifnull (C : Cx p l s m args meth c D ba own cc nL tb d) {x : Nat} {off : Int} (h : decode cc pc = .ok (.ifnull off, 3)) (k : V p l e s m args below meth c D ba d mc ms Q nL ad w (pc + 3) lv rest cells slots) : V p l e s m args below meth c D ba d mc ms Q nL ad w pc lv (.ref x :: rest) cells slots := fun H locs ls hM hS hl => lv_ifnull C.1 C.2.1 h (k H locs ls hM hS hl)
theorem V_ifnullN (C : Cx p l s m args meth c D ba own cc nL tb d) {off : Int} {tgt : Nat} (h : decode cc pc = .ok (.ifnull off, 3)) (ht : (pc : Int) + off = (tgt : Int)) (k : V p l e s m args below meth c D ba d mc ms Q nL ad w tgt lv rest cells slots) : V p l e s m args below meth c D ba d mc ms Q nL ad w pc lv (.null :: rest) cells slots := fun H locs ls hM hS hl => lv_ifnullN C.1 C.2.1 h ht (k H locs ls hM hS hl)
theorem V_ifnonnull (C : Cx p l s m args meth c D ba own cc nL tb d) {x : Nat} {off : Int} {tgt : Nat} (h : decode cc pc = .ok (.ifnonnull off, 3)) (ht : (pc : Int) + off = (tgt : Int)) (k : V p l e s m args below meth c D ba d mc ms Q nL ad w tgt lv rest cells slots) : V p l e s m args below meth c D ba d mc ms Q nL ad w pc lv (.ref x :: rest) cells slots := fun H locs ls hM hS hl => lv_ifnonnull C.1 C.2.1 h ht (k H locs ls hM hS hl)
theorem V_ifnonnullN (C : Cx p l s m args meth c D ba own cc nL tb d) {off : Int} (h : decode cc pc = .ok (.ifnonnull off, 3)) (k : V p l e s m args below meth c D ba d mc ms Q nL ad w (pc + 3) lv rest cells slots) : V p l e s m args below meth c D ba d mc ms Q nL ad w pc lv (.null :: rest) cells slots := fun H locs ls hM hS hl => lv_ifnonnullN C.1 C.2.1 h (k H locs ls hM hS hl)
theorem V_aload_nN (C : Cx p l s m args meth c D ba own cc nL tb d) {i : Fin 4} (h : decode cc pc = .ok (.aload_n i, 1)) (j : Nat) (hj : lv[j]? = some ((i : Nat), .null)) (k : V p l e s m args below meth c D ba d mc ms Q nL ad w (pc + 1) lv (.null :: rest) cells slots) : V p l e s m args below meth c D ba d mc ms Q nL ad w pc lv rest cells slots := fun H locs ls hM hS hl => lv_aload_nN C.1 C.2.1 h rfl (lv_at hl j hj) (k H locs ls hM hS hl)
theorem V_aloadN (C : Cx p l s m args meth c D ba own cc nL tb d) {i : Nat} (h : decode cc pc = .ok (.aload i, 2)) (j : Nat) (hj : lv[j]? = some (i, .null)) (k : V p l e s m args below meth c D ba d mc ms Q nL ad w (pc + 2) lv (.null :: rest) cells slots) : V p l e s m args below meth c D ba d mc ms Q nL ad w pc lv rest cells slots := fun H locs ls hM hS hl => lv_aloadN C.1 C.2.1 h (lv_at hl j hj) (k H locs ls hM hS hl)
theorem V_tableIn (C : Cx p l s m args meth c D ba own cc nL tb d) {dflt lo hi : Int} {offs : Array Int} {len : Nat} {x : Int32} {off : Int} {tgt : Nat} (h : decode cc pc = .ok (.tableswitch dflt lo hi offs, len)) (h1 : ¬ x.toInt < lo) (h2 : ¬ hi < x.toInt) (ho : offs[(x.toInt - lo).toNat]? = some off) (ht : (pc : Int) + off = (tgt : Int)) (k : V p l e s m args below meth c D ba d mc ms Q nL ad w tgt lv rest cells slots) : V p l e s m args below meth c D ba d mc ms Q nL ad w pc lv (.int x :: rest) cells slots := fun H locs ls hM hS hl => lv_tableIn C.1 C.2.1 h h1 h2 ho ht (k H locs ls hM hS hl)
theorem V_tableOut (C : Cx p l s m args meth c D ba own cc nL tb d) {dflt lo hi : Int} {offs : Array Int} {len : Nat} {x : Int32} {tgt : Nat} (h : decode cc pc = .ok (.tableswitch dflt lo hi offs, len)) (h1 : x.toInt < lo ∨ hi < x.toInt) (ht : (pc : Int) + dflt = (tgt : Int)) (k : V p l e s m args below meth c D ba d mc ms Q nL ad w tgt lv rest cells slots) : V p l e s m args below meth c D ba d mc ms Q nL ad w pc lv (.int x :: rest) cells slots := fun H locs ls hM hS hl => lv_tableOut C.1 C.2.1 h h1 ht (k H locs ls hM hS hl)
end EG
end
section
section EH
variable {p : Program} {l : Launch} {e : Env} {s : State} {m : MethodId} {args : Array Value} {below : List Frame} {meth : Method} {c : Code} {D : va_G} {ba : Nat} {d mc ms : Nat} {Q : State → Prop} {nL : Nat} {ad : Adr} {w : Wd} {pc : Nat} {lv : List (Nat × Value)} {rest : List Value} {cells slots : Nat}
variable {own : String} {cc : ByteArray} {tb : List ExceptionTableEntry}
theorem eg_one {D : va_G} {cl : List vw_C} {a : Nat} {x : va_E} {H : Heap} (h : va_at D cl (a, x) H) : va_P D cl [(a, x)] H := by
  intro k q hk
  match k, hk with
  | 0, hk => cases hk; exact h
theorem eg_K1 {cA : ClassId} {ty : FieldType} {U : State} (h : va_K D vwCl [] U) (h1 : ArrOfT U cA ty) (h2 : va_RA U cA ty) : va_K D vwCl [(cA, ty)] U :=
  ⟨h.1, fun k q hk => by
    match k, hk with
    | 0, hk => cases hk; exact ⟨h1, h2⟩⟩
/-- the field tables' words among all words -/
def eg_FW (C : String) (T : u_T) (N : Nat) : Prop := ∀ w ∈ u_ws C T N, w ∈ eg_T
theorem V_get (C : Cx p l s m args meth c D ba own cc nL tb d) {i ci k : Nat} {fs : List Value} {v : Value} {L : Lab} {a : Nat} (h : decode cc pc = .ok (.getfield i, 3)) (ref K : String) (T : u_T) (N : Nat) (hF : eg_FW K T N) (hc : vwCl[ci]? = some (K, T, N)) (hk : k < N) (hlink : Cond.fieldLink own i ref (T k).2.1 (T k).2.2.1 ∈ eg_T) (hsame : (T k).1 = ref) (ha : a = ad L) (hw : w L = some (.inr (ci, fs))) (hv : fs[k]? = some v)
    (kk : V p l e s m args below meth c D ba d mc ms Q nL ad w (pc + 3) lv (v :: rest) cells slots) : V p l e s m args below meth c D ba d mc ms Q nL ad w pc lv (.ref a :: rest) cells slots := by
  intro H locs ls hM hS hl
  subst ha
  have h1 : va_at D vwCl (ad L, .inr (ci, fs)) H := (hM.1 _ _ hw).1
  exact va_get (D := D) (cl := vwCl) (ci := ci) (C := K) (T := T) (N := N) (tys := []) C.1 C.2.1 C.2.2.2.2.1 hF C.2.2.2.1 C.2.2.2.2.2.1.1 (eg_one h1) 0 rfl hc k hk (C.2.2.2.2.1 _ hlink) (fun _ z => by rw [← hsame]; exact z) hv h (kk H locs ls hM hS hl)
theorem V_getN (C : Cx p l s m args meth c D ba own cc nL tb d) {i ci k : Nat} {fs : List Value} {v : Value} {L : Lab} {a : Nat} (h : decode cc pc = .ok (.getfield i, 3)) (ref K host : String) (T : u_T) (N : Nat) (hF : eg_FW K T N) (hc : vwCl[ci]? = some (K, T, N)) (hk : k < N) (hlink : Cond.fieldLinkNest own i ref (T k).2.1 (T k).2.2.1 host ∈ lw_tbl) (hsame : (T k).1 = ref) (ha : a = ad L) (hw : w L = some (.inr (ci, fs))) (hv : fs[k]? = some v)
    (kk : V p l e s m args below meth c D ba d mc ms Q nL ad w (pc + 3) lv (v :: rest) cells slots) : V p l e s m args below meth c D ba d mc ms Q nL ad w pc lv (.ref a :: rest) cells slots := by
  intro H locs ls hM hS hl
  subst ha
  have h1 : va_at D vwCl (ad L, .inr (ci, fs)) H := (hM.1 _ _ hw).1
  exact va_getN (D := D) (cl := vwCl) (ci := ci) (C := K) (T := T) (N := N) (tys := []) C.1 C.2.1 C.2.2.2.2.1 hF C.2.2.2.1 C.2.2.2.2.2.1.1 (eg_one h1) 0 rfl hc k hk (va_Nw.use rfl (C.2.2.2.2.2.1.2.1 _ hlink rfl)) (fun _ z => by rw [← hsame]; exact z) hv h (kk H locs ls hM hS hl)
theorem V_put (C : Cx p l s m args meth c D ba own cc nL tb d) {i ci k : Nat} {fs : List Value} {v : Value} {L : Lab} {a : Nat} (h : decode cc pc = .ok (.putfield i, 3)) (ref K : String) (T : u_T) (N : Nat) (ty0 : Nat → FieldType) (hty : ∀ k, k < N → parseFieldDescriptor (T k).2.2.1 = some (ty0 k)) (hnm : ∀ a, a < N → ∀ b, b < N → a ≠ b → (T a).2.1 ≠ (T b).2.1) (hF : eg_FW K T N) (hc : vwCl[ci]? = some (K, T, N)) (hk : k < N) (hlink : Cond.fieldLink own i ref (T k).2.1 (T k).2.2.1 ∈ eg_T) (hsame : (T k).1 = ref) (hfin : (T k).2.2.2 = false ∨ ((T k).2.2.2 = true ∧ meth.name = "<init>" ∧ (T k).1 = own)) (hn : narrow (ty0 k) v = v) (hfit : fits (ty0 k) v = true) (ha : a = ad L) (hw : w L = some (.inr (ci, fs))) (hl0 : k < fs.length)
    (kk : V p l e s m args below meth c D ba d mc ms Q nL ad (wset w L (.inr (ci, fs.set k v))) (pc + 3) lv rest cells slots) : V p l e s m args below meth c D ba d mc ms Q nL ad w pc lv (v :: .ref a :: rest) cells slots := by
  intro H locs ls hM hS hlv
  subst ha
  have hts := C.2.2.2.2.1
  have hK := C.2.2.2.2.2.1.1
  have hap := va_apart (own := own) hts hF ty0 hty hnm hK hc
  obtain ⟨r, h1, cell, q1, q2, q3, q4⟩ := (hM.1 _ _ hw).1
  have hr : r = (K, T, N) := Option.some.inj (h1.symm.trans hc)
  subst hr
  obtain ⟨hSl, hfc, kC, hkC, hkind⟩ := hK.1 ci _ hc
  obtain ⟨cf, kf, fi, f, hi, hsl⟩ := hSl k hk
  have hlay := hts _ (hF _ (u_in_lay hk))
  have hd := hty k hk
  have hi2 : s.fieldFound? ref (T k).2.1 (T k).2.2.1 = some (cf, kf, fi, f) := by rw [← hsame]; exact hi
  have fin : ∀ (H' : Heap), H'[ad L]? = some (cell.setSlot f.slot v) → H'.size = H.size → (∀ q, q ≠ ad L → H'[q]? = H[q]?) → W p l e (rmO d mc ms) s m args below meth c H' (locs ++ [⟨ad L, f.slot⟩]) cells slots Q (F0 m (pc + 3) ls rest) := by
    intro H' e1 e2 e3
    rw [hsl] at e1
    refine kk H' _ ls (hM.set hw ⟨_, hc, t_OB.to (V := updV (vp_V fs) k v) ⟨_, e1, q2, q3, t_set q4 hap hk v⟩ (fun j _ => vp_updV_set hl0 v j)⟩ e3) (hS.put e2 e3 (hM.1 _ _ hw).2) hlv
  rcases hfin with hfin | ⟨hfin, hin2, hdecl⟩
  · unfold u_lay at hlay
    rw [if_neg (by rw [hfin]; decide)] at hlay
    have hst := (u_facts hfc hkC (u_lays hts hF hk) hi).1
    have h6 := u_store hfc hkC hkind hlay hi hd hn hfit
    exact W.putK C.1 C.2.1 (f := f) ⟨C.2.2.2.1, hts _ hlink, ⟨_, _, _, hi2⟩, hst⟩ (by rw [q2]; exact h6) q1 q3 (by rw [hsl]; exact k2_hasslot (q4 k hk)) rfl rfl h fin
  · unfold u_lay at hlay
    rw [if_pos hfin] at hlay
    have hst := (u_facts hfc hkC (u_lays hts hF hk) hi).1
    have hcf : m.cls = cf := by
      obtain ⟨_, _, c', _, _, _, -, -, hf', -, -, -, hown2, -⟩ := Cond.laysFinal_spec hlay
      have e1 : c' = cf := by have := hi.symm.trans hf'; simp at this; exact this.1.symm
      rw [hdecl] at hown2
      rw [← e1]; exact Option.some.inj (C.2.2.2.1.symm.trans hown2)
    have h6 := u_fits hfc hkC hkind (Or.inr hlay) hi hd hn hfit
    exact W.putFinK C.1 C.2.1 C.2.2.2.1 (hts _ hlink) hi2 hst hcf hin2 (by rw [q2]; exact h6) q1 q3 (by rw [hsl]; exact k2_hasslot (q4 k hk)) rfl rfl h fin
theorem V_putN (C : Cx p l s m args meth c D ba own cc nL tb d) {i ci k : Nat} {fs : List Value} {v : Value} {L : Lab} {a : Nat} (h : decode cc pc = .ok (.putfield i, 3)) (ref K host : String) (T : u_T) (N : Nat) (ty0 : Nat → FieldType) (hty : ∀ k, k < N → parseFieldDescriptor (T k).2.2.1 = some (ty0 k)) (hnm : ∀ a, a < N → ∀ b, b < N → a ≠ b → (T a).2.1 ≠ (T b).2.1) (hF : eg_FW K T N) (hc : vwCl[ci]? = some (K, T, N)) (hk : k < N) (hlink : Cond.fieldLinkNest own i ref (T k).2.1 (T k).2.2.1 host ∈ lw_tbl) (hsame : (T k).1 = ref) (hfin : (T k).2.2.2 = false) (hn : narrow (ty0 k) v = v) (hfit : fits (ty0 k) v = true) (ha : a = ad L) (hw : w L = some (.inr (ci, fs))) (hl0 : k < fs.length)
    (kk : V p l e s m args below meth c D ba d mc ms Q nL ad (wset w L (.inr (ci, fs.set k v))) (pc + 3) lv rest cells slots) : V p l e s m args below meth c D ba d mc ms Q nL ad w pc lv (v :: .ref a :: rest) cells slots := by
  intro H locs ls hM hS hlv
  subst ha
  have hts := C.2.2.2.2.1
  have hK := C.2.2.2.2.2.1.1
  have hap := va_apart (own := own) hts hF ty0 hty hnm hK hc
  obtain ⟨r, h1, cell, q1, q2, q3, q4⟩ := (hM.1 _ _ hw).1
  have hr : r = (K, T, N) := Option.some.inj (h1.symm.trans hc)
  subst hr
  obtain ⟨hSl, hfc, kC, hkC, hkind⟩ := hK.1 ci _ hc
  obtain ⟨cf, kf, fi, f, hi, hsl⟩ := hSl k hk
  have hlay := hts _ (hF _ (u_in_lay hk))
  have hd := hty k hk
  have hi2 : s.fieldFound? ref (T k).2.1 (T k).2.2.1 = some (cf, kf, fi, f) := by rw [← hsame]; exact hi
  unfold u_lay at hlay
  rw [if_neg (by rw [hfin]; decide)] at hlay
  have hst := (u_facts hfc hkC (u_lays hts hF hk) hi).1
  have h6 := u_store hfc hkC hkind hlay hi hd hn hfit
  refine va_WputK C.1 C.2.1 (f := f) C.2.2.2.1 (va_Nw.use rfl (C.2.2.2.2.2.1.2.1 _ hlink rfl)) hi2 hst (by rw [q2]; exact h6) q1 q3 (by rw [hsl]; exact k2_hasslot (q4 k hk)) rfl rfl h ?_
  intro H' e1 e2 e3
  rw [hsl] at e1
  exact kk H' _ ls (hM.set hw ⟨_, hc, t_OB.to (V := updV (vp_V fs) k v) ⟨_, e1, q2, q3, t_set q4 hap hk v⟩ (fun j _ => vp_updV_set hl0 v j)⟩ e3) (hS.put e2 e3 (hM.1 _ _ hw).2) hlv
/-! arrays -/
abbrev eI (n : Nat) (f : Nat → Int32) : Ent := .inl (.int, n, .inl f)
abbrev eJ (n : Nat) (f : Nat → Int64) : Ent := .inl (.long, n, .inr (.inl f))
abbrev eQ (C : String) (n : Nat) (f : Nat → Option Nat) : Ent := .inl (.object C, n, .inr (.inr (.inr (.inr f))))
theorem V_iald (C : Cx p l s m args meth c D ba own cc nL tb d) {n : Nat} {f : Nat → Int32} {L : Lab} {a : Nat} {i : Int32} (h : decode cc pc = .ok (.iaload, 1)) (ha : a = ad L) (hw : w L = some (eI n f)) (hin : vp_in i n)
    (kk : V p l e s m args below meth c D ba d mc ms Q nL ad w (pc + 1) lv (.int (f i.toNatClampNeg) :: rest) cells slots) : V p l e s m args below meth c D ba d mc ms Q nL ad w pc lv (.int i :: .ref a :: rest) cells slots := by
  intro H locs ls hM hS hl
  subst ha
  obtain ⟨cA, ⟨h1, h2⟩, h3⟩ := (hM.1 _ _ hw).1
  exact va_iald (D := D) (cl := vwCl) C.1 C.2.1 (eg_K1 C.2.2.2.2.2.1.1 h1 h2) (eg_one (x := .inl (cA, n, .inl f)) h3) 0 0 rfl rfl hin h (kk H locs ls hM hS hl)
theorem V_lald (C : Cx p l s m args meth c D ba own cc nL tb d) {n : Nat} {f : Nat → Int64} {L : Lab} {a : Nat} {i : Int32} (h : decode cc pc = .ok (.laload, 1)) (ha : a = ad L) (hw : w L = some (eJ n f)) (hin : vp_in i n)
    (kk : V p l e s m args below meth c D ba d mc ms Q nL ad w (pc + 1) lv (.long (f i.toNatClampNeg) :: rest) cells slots) : V p l e s m args below meth c D ba d mc ms Q nL ad w pc lv (.int i :: .ref a :: rest) cells slots := by
  intro H locs ls hM hS hl
  subst ha
  obtain ⟨cA, ⟨h1, h2⟩, h3⟩ := (hM.1 _ _ hw).1
  exact va_lald (D := D) (cl := vwCl) C.1 C.2.1 (eg_K1 C.2.2.2.2.2.1.1 h1 h2) (eg_one (x := .inl (cA, n, .inr (.inl f))) h3) 0 0 rfl rfl hin h (kk H locs ls hM hS hl)
theorem V_aald (C : Cx p l s m args meth c D ba own cc nL tb d) {K : String} {n : Nat} {f : Nat → Option Nat} {L : Lab} {a : Nat} {i : Int32} {v : Value} (h : decode cc pc = .ok (.aaload, 1)) (ha : a = ad L) (hw : w L = some (eQ K n f)) (hin : vp_in i n) (hv : va_rf (f i.toNatClampNeg) = v)
    (kk : V p l e s m args below meth c D ba d mc ms Q nL ad w (pc + 1) lv (v :: rest) cells slots) : V p l e s m args below meth c D ba d mc ms Q nL ad w pc lv (.int i :: .ref a :: rest) cells slots := by
  intro H locs ls hM hS hl
  subst ha
  subst hv
  obtain ⟨cA, ⟨h1, h2⟩, h3⟩ := (hM.1 _ _ hw).1
  exact va_aldq (D := D) (cl := vwCl) C.1 C.2.1 (eg_K1 C.2.2.2.2.2.1.1 h1 h2) (eg_one (x := .inl (cA, n, .inr (.inr (.inr (.inr f))))) h3) 0 0 rfl rfl hin h (kk H locs ls hM hS hl)
theorem V_alen (C : Cx p l s m args meth c D ba own cc nL tb d) {x : FieldType × vp_A} {L : Lab} {a : Nat} {v : Int32} (h : decode cc pc = .ok (.arraylength, 1)) (ha : a = ad L) (hw : w L = some (.inl x)) (hv : Int32.ofNat x.2.1 = v)
    (kk : V p l e s m args below meth c D ba d mc ms Q nL ad w (pc + 1) lv (.int v :: rest) cells slots) : V p l e s m args below meth c D ba d mc ms Q nL ad w pc lv (.ref a :: rest) cells slots := by
  intro H locs ls hM hS hl
  subst ha
  obtain ⟨cA, ⟨h1, h2⟩, h3⟩ := (hM.1 _ _ hw).1
  exact va_alen (D := D) (cl := vwCl) C.1 C.2.1 (eg_K1 C.2.2.2.2.2.1.1 h1 h2) (eg_one (x := .inl (cA, x.2)) h3) 0 0 rfl rfl hv h (kk H locs ls hM hS hl)
theorem V_iast (C : Cx p l s m args meth c D ba own cc nL tb d) {n : Nat} {f : Nat → Int32} {L : Lab} {a : Nat} {i x : Int32} (h : decode cc pc = .ok (.iastore, 1)) (ha : a = ad L) (hw : w L = some (eI n f)) (hin : vp_in i n)
    (kk : V p l e s m args below meth c D ba d mc ms Q nL ad (wset w L (eI n (upd f i.toNatClampNeg x))) (pc + 1) lv rest cells slots) : V p l e s m args below meth c D ba d mc ms Q nL ad w pc lv (.int x :: .int i :: .ref a :: rest) cells slots := by
  intro H locs ls hM hS hl
  subst ha
  obtain ⟨cA, ⟨h1, h2⟩, h3⟩ := (hM.1 _ _ hw).1
  refine W.iast C.1 C.2.1 h3 (h1 n (fun j => .int (f j))) (fun q => by cases q) (by show ¬ (i < 0 ∨ (arrV _ _ _).slots.size ≤ _); rw [arrV_size]; exact hin) rfl rfl h fun H1 e1 z oq => ?_
  refine kk H1 _ ls (hM.set hw ⟨cA, ⟨h1, h2⟩, ?_⟩ oq) (hS.put z oq (hM.1 _ _ hw).2) hl
  show H1[ad L]? = some (vp_cell _ _)
  rw [e1]
  rw [vp_cell_i, vp_cell_i, arrV_store]
  congr 2
  funext q
  by_cases hq : q = i.toNatClampNeg
  · subst hq
    simp [updV, upd]
  · simp [updV, upd, hq]
theorem V_last (C : Cx p l s m args meth c D ba own cc nL tb d) {n : Nat} {f : Nat → Int64} {L : Lab} {a : Nat} {i : Int32} {x : Int64} (h : decode cc pc = .ok (.lastore, 1)) (ha : a = ad L) (hw : w L = some (eJ n f)) (hin : vp_in i n)
    (kk : V p l e s m args below meth c D ba d mc ms Q nL ad (wset w L (eJ n (vp_updL f i.toNatClampNeg x))) (pc + 1) lv rest cells slots) : V p l e s m args below meth c D ba d mc ms Q nL ad w pc lv (.long x :: .int i :: .ref a :: rest) cells slots := by
  intro H locs ls hM hS hl
  subst ha
  obtain ⟨cA, ⟨h1, h2⟩, h3⟩ := (hM.1 _ _ hw).1
  refine W.last C.1 C.2.1 h3 (h1 n (fun j => .long (f j))) (fun q => by cases q) (by show ¬ (i < 0 ∨ (arrV _ _ _).slots.size ≤ _); rw [arrV_size]; exact hin) rfl rfl h fun H1 e1 z oq => ?_
  refine kk H1 _ ls (hM.set hw ⟨cA, ⟨h1, h2⟩, ?_⟩ oq) (hS.put z oq (hM.1 _ _ hw).2) hl
  show H1[ad L]? = some (vp_cell _ _)
  rw [e1]
  rw [vp_cell_l, vp_cell_l, arrV_store]
  congr 2
  funext q
  by_cases hq : q = i.toNatClampNeg
  · subst hq
    simp [updV, vp_updL]
  · simp [updV, vp_updL, hq]
theorem V_aast (C : Cx p l s m args meth c D ba own cc nL tb d) {r : vw_C} {n ci : Nat} {f : Nat → Option Nat} {L Lv : Lab} {a b : Nat} {i : Int32} {vs : List Value} (h : decode cc pc = .ok (.aastore, 1)) (ha : a = ad L) (hw : w L = some (eQ r.1 n f)) (hb : b = ad Lv) (hv : w Lv = some (.inr (ci, vs))) (hc : vwCl[ci]? = some r) (hin : vp_in i n)
    (kk : V p l e s m args below meth c D ba d mc ms Q nL ad (wset w L (eQ r.1 n (va_up f i.toNatClampNeg (some b)))) (pc + 1) lv rest cells slots) : V p l e s m args below meth c D ba d mc ms Q nL ad w pc lv (.ref b :: .int i :: .ref a :: rest) cells slots := by
  intro H locs ls hM hS hl
  subst ha
  subst hb
  obtain ⟨cA, ⟨h1, h2⟩, h3⟩ := (hM.1 _ _ hw).1
  obtain ⟨r', hr', cellV, g1, g2, g3, -⟩ := (hM.1 _ _ hv).1
  have hlt : i.toNatClampNeg < n := Nat.not_le.mp fun q => hin (Or.inr q)
  have h0 : ¬ i < 0 := fun q => hin (Or.inl q)
  have hdv : va_RA s cA (.object r.1) := h2
  have hcls := (C.2.2.2.2.2.1.1.1 ci r hc).2
  obtain ⟨kA, comp, k1, k2, k3, -⟩ := h2
  have hcomp : comp = D.1 ci := Option.some.inj (k3.symm.trans hcls.1)
  subst hcomp
  obtain ⟨kC, hkC, -⟩ := hcls.2
  refine W.aast C.1 C.2.1 h3 (fun q h => by cases h) (fun h => by cases h) k1 k2 rfl hkC ⟨h0, by show _ < (arrV _ _ _).slots.size; rw [arrV_size]; exact hlt⟩ g1 (fun q h => by rw [g3] at h; cases h) (by rw [g2]; exact hkC) (by rw [g2]; exact va_assign hcls) rfl rfl h fun H1 e1 z oq => ?_
  refine kk H1 _ ls (hM.set hw ⟨cA, ⟨h1, hdv⟩, ?_⟩ oq) (hS.put z oq (hM.1 _ _ hw).2) hl
  show H1[ad L]? = some (vp_cell _ _)
  rw [e1]
  rw [vp_cell_q, vp_cell_q, arrV_store]
  congr 2
  funext q
  by_cases hq : q = i.toNatClampNeg
  · subst hq
    simp [updV, va_up, va_rf]
  · simp [updV, va_up, hq]
/-! making -/
theorem V_new (C : Cx p l s m args meth c D ba own cc nL tb d) {i ci : Nat} {fs : List Value} (L : Lab) (h : decode cc pc = .ok (.new i, 3)) (K : String) (T : u_T) (N : Nat) (ty0 : Nat → FieldType) (hty : ∀ k, k < N → parseFieldDescriptor (T k).2.2.1 = some (ty0 k)) (hF : eg_FW K T N) (hc : vwCl[ci]? = some (K, T, N)) (hl1 : Cond.classLink own i K ∈ eg_T) (hl2 : Cond.instantiable K N ∈ eg_T) (hl3 : Cond.initialized K ∈ eg_T) (hfs : ∀ j, j < N → defaultValue (ty0 j) = vp_V fs j) (hL : w L = none) (h1 : cells + 1 ≤ mc) (h2 : slots + N ≤ ms)
    (kk : ∀ a : Nat, V p l e s m args below meth c D ba d mc ms Q nL (aset ad L a) (wset w L (.inr (ci, fs))) (pc + 3) lv (.ref a :: rest) (cells + 1) (slots + N)) : V p l e s m args below meth c D ba d mc ms Q nL ad w pc lv rest cells slots := by
  intro H locs ls hM hS hl
  have hts := C.2.2.2.2.1
  have hKn := C.2.2.2.2.2.1.1.1 ci _ hc
  refine W.newcK C.1 C.2.1 C.2.2.2.1 (hts _ hl1) (hts _ hl2) (hts _ hl3) rfl h h1 h2 hKn.2.1 rfl fun H1 kC hkC e1 z1 o1 => ?_
  exact kk H.size H1 locs ls (hM.new hL (Nat.le_trans C.2.2.2.2.2.2.1 hS.1) ⟨_, hc, (u_born ty0 hts hF hKn hkC e1 hty).to hfs⟩ o1) ⟨Nat.le_trans hS.1 (by omega), fun x h1 h2 => (o1 x (Nat.lt_of_lt_of_le h1 hS.1)).trans (hS.2.1 x h1 h2), hS.2.2⟩ hl
theorem V_newI (C : Cx p l s m args meth c D ba own cc nL tb d) {n : Int32} {N : Nat} (L : Lab) (h : decode cc pc = .ok (.newarray .int, 2)) (hl1 : Cond.arrayClass .int ∈ eg_T) (hn : ¬ n < 0) (hN : n.toNatClampNeg = N) (hb : N * 4 ≤ 536870912) (hL : w L = none) (h1 : cells + 1 ≤ mc) (h2 : slots + N ≤ ms)
    (kk : ∀ a : Nat, V p l e s m args below meth c D ba d mc ms Q nL (aset ad L a) (wset w L (eI N (fun _ => 0))) (pc + 2) lv (.ref a :: rest) (cells + 1) (slots + N)) : V p l e s m args below meth c D ba d mc ms Q nL ad w pc lv (.int n :: rest) cells slots := by
  intro H locs ls hM hS hl
  refine va_newaK (atype := .int) C.1 C.2.1 (C.2.2.2.2.1 _ hl1) rfl h rfl hn hN hb h1 h2 rfl fun H1 cA e1 z1 o1 hAr hNm => ?_
  exact kk H.size H1 locs ls (hM.new hL (Nat.le_trans C.2.2.2.2.2.2.1 hS.1) ⟨cA, ⟨hAr, hNm⟩, e1⟩ o1) ⟨Nat.le_trans hS.1 (by omega), fun x h1 h2 => (o1 x (Nat.lt_of_lt_of_le h1 hS.1)).trans (hS.2.1 x h1 h2), hS.2.2⟩ hl
theorem V_newJ (C : Cx p l s m args meth c D ba own cc nL tb d) {n : Int32} {N : Nat} (L : Lab) (h : decode cc pc = .ok (.newarray .long, 2)) (hl1 : Cond.arrayClass .long ∈ eg_T) (hn : ¬ n < 0) (hN : n.toNatClampNeg = N) (hb : N * 8 ≤ 536870912) (hL : w L = none) (h1 : cells + 1 ≤ mc) (h2 : slots + N ≤ ms)
    (kk : ∀ a : Nat, V p l e s m args below meth c D ba d mc ms Q nL (aset ad L a) (wset w L (eJ N (fun _ => 0))) (pc + 2) lv (.ref a :: rest) (cells + 1) (slots + N)) : V p l e s m args below meth c D ba d mc ms Q nL ad w pc lv (.int n :: rest) cells slots := by
  intro H locs ls hM hS hl
  refine va_newaK (atype := .long) C.1 C.2.1 (C.2.2.2.2.1 _ hl1) rfl h rfl hn hN hb h1 h2 rfl fun H1 cA e1 z1 o1 hAr hNm => ?_
  exact kk H.size H1 locs ls (hM.new hL (Nat.le_trans C.2.2.2.2.2.2.1 hS.1) ⟨cA, ⟨hAr, hNm⟩, e1⟩ o1) ⟨Nat.le_trans hS.1 (by omega), fun x h1 h2 => (o1 x (Nat.lt_of_lt_of_le h1 hS.1)).trans (hS.2.1 x h1 h2), hS.2.2⟩ hl
theorem V_newQ (C : Cx p l s m args meth c D ba own cc nL tb d) {i : Nat} {n : Int32} {N : Nat} (L : Lab) (K : String) (h : decode cc pc = .ok (.anewarray i, 3)) (hl1 : Cond.classLink own i K ∈ eg_T) (hl2 : Cond.arrayOver (.object K) ∈ lw_tbl) (hn : ¬ n < 0) (hN : n.toNatClampNeg = N) (hb : N * 4 ≤ 536870912) (hL : w L = none) (h1 : cells + 1 ≤ mc) (h2 : slots + N ≤ ms)
    (kk : ∀ a : Nat, V p l e s m args below meth c D ba d mc ms Q nL (aset ad L a) (wset w L (eQ K N (fun _ => none))) (pc + 3) lv (.ref a :: rest) (cells + 1) (slots + N)) : V p l e s m args below meth c D ba d mc ms Q nL ad w pc lv (.int n :: rest) cells slots := by
  intro H locs ls hM hS hl
  subst hN
  refine W.anew C.1 C.2.1 C.2.2.2.1 (C.2.2.2.2.1 _ hl1) (va_AO.use (C.2.2.2.2.2.1.2.2.1 K hl2)) rfl h rfl hn hb h1 h2 fun cA kA comp f1 f2 f3 f4 => ?_
  generalize hH1 : H.push ({ cls := cA, slots := Array.replicate n.toNatClampNeg .null, vm := .none } : Cell) = H1
  have z1 : H1.size = H.size + 1 := by rw [← hH1, Array.size_push]
  have e1 : H1[H.size]? = some (arrV cA n.toNatClampNeg (fun _ => .null)) := by rw [← hH1, Array.getElem?_push_size, ← arrV_new]
  have o1 : ∀ q : Nat, q < H.size → H1[q]? = H[q]? := fun q hq => by rw [← hH1, Array.getElem?_push, if_neg (Nat.ne_of_lt hq)]
  have hAr : ArrOfT s cA (.object K) := fun N z => ⟨(fun k h => by cases h), kA, f2, comp, f3⟩
  exact kk H.size H1 locs ls (hM.new hL (Nat.le_trans C.2.2.2.2.2.2.1 hS.1) ⟨cA, ⟨hAr, kA, comp, f2, f3, f4, f1⟩, by rw [vp_cell_q]; exact e1⟩ o1) ⟨Nat.le_trans hS.1 (by omega), fun x h1 h2 => (o1 x (Nat.lt_of_lt_of_le h1 hS.1)).trans (hS.2.1 x h1 h2), hS.2.2⟩ hl
end EH
end
section
section EC
variable {p : Program} {l : Launch} {e : Env} {s : State} {m : MethodId} {args : Array Value} {below : List Frame} {meth : Method} {c : Code} {D : va_G} {ba : Nat} {d mc ms : Nat} {Q : State → Prop} {nL : Nat} {ad : Adr} {w : Wd} {pc : Nat} {lv : List (Nat × Value)} {rest : List Value} {cells slots : Nat}
variable {own : String} {cc : ByteArray} {tb : List ExceptionTableEntry}
variable {QR : Option Value → Adr → Wd → Prop} {QX : String → Adr → Wd → Prop}
abbrev wsO (y : MethodName) (cy : ByteArray) (n : Nat) (ry : Option FieldType) : List Cond := Cond.code y cy n ry :: eg_T
abbrev wsH (y : MethodName) (cy : ByteArray) (n : Nat) (ry : Option FieldType) (hh : List (Nat × Nat × Nat × Nat)) : List Cond := Cond.codeWith y cy n ry hh :: eg_T
theorem eg_gi {ws : List Cond} (h : ∀ w ∈ ws, w ∈ eg_T) : GoodIn eg_T ws := fun w hw => ⟨h w hw, (eg_TT w (h w hw)).2⟩
theorem eg_c1 {w : Cond} (h : w ∈ eg_T) {ws : List Cond} (hs : ∀ w ∈ ws, w ∈ eg_T) : ∀ w' ∈ w :: ws, w' ∈ eg_T := fun w' h' => (List.mem_cons.mp h').elim (fun z => by rw [z]; exact h) (hs w')
theorem eg_c0 : ∀ w' ∈ eg_T, w' ∈ eg_T := fun _ h => h
/-- what the tables say of a method that is called: by a static, an instance, a constructor's call -/
def eg_M (y : MethodName) (cy : ByteArray) (n : Nat) (ry : Option FieldType) (k : Nat) : Prop := Cond.code y cy n ry ∈ eg_T ∧ Cond.initialized y.cls ∈ eg_T ∧ y.cls ≠ "java/lang/invoke/MethodHandle" ∧ y.cls ≠ "java/lang/invoke/VarHandle" ∧ (parseMethodDescriptor y.desc).map (fun d => d.parameters.length) = some k
def eg_MH (y : MethodName) (cy : ByteArray) (n : Nat) (ry : Option FieldType) (hh : List (Nat × Nat × Nat × Nat)) (k : Nat) : Prop := Cond.codeWith y cy n ry hh ∈ eg_T ∧ Cond.initialized y.cls ∈ eg_T ∧ y.cls ≠ "java/lang/invoke/MethodHandle" ∧ y.cls ≠ "java/lang/invoke/VarHandle" ∧ (parseMethodDescriptor y.desc).map (fun d => d.parameters.length) = some k
theorem eg_pre (C : Cx p l s m args meth c D ba own cc nL tb d) {H : Heap} {locs : List Loc} (hM : Mem D ba s ad w H) (hS : va_S (fun q => ba ≤ q) s.heap H locs) (as : List Value) : ∀ U : State, U.heap = H → s.WarmedH U.vm → mPc D ba as ad w as.toArray U := fun U hU hW =>
  ⟨rfl, NF.moved hW (fun q h1 h2 => by rw [hU]; exact hS.2.1 q h1 h2) C.2.2.2.2.2.1, by rw [hU]; exact Nat.le_trans C.2.2.2.2.2.2.1 hS.1, by rw [hU]; exact hM.moved hW.alike⟩
theorem eg_recv (C : Cx p l s m args meth c D ba own cc nL tb d) {H : Heap} (hM : Mem D ba s ad w H) {L : Lab} {ci : Nat} {fs : List Value} {r : vw_C} (hc : vwCl[ci]? = some r) (hw : w L = some (.inr (ci, fs))) : ∃ cell : Cell, H[ad L]? = some cell ∧ cell.vm.isStatics = false ∧ s.vm.findClass r.1 = some cell.cls := by
  have h1 : va_at D vwCl (ad L, .inr (ci, fs)) H := (hM.1 _ _ hw).1
  exact va_recv (tys := []) C.2.2.2.2.2.1.1 (eg_one h1) hc (q0 := 0) rfl
/-- what a call's run gives behind it -/
theorem V_run {st0 : List Value} {a : Array Value} {mc' ms' : Nat} (C : Cx p l s m args meth c D ba own cc nL tb d)
    (hr : ∀ (H : Heap) (locs : List Loc) (ls : Array Slot), Mem D ba s ad w H → va_S (fun q => ba ≤ q) s.heap H locs → lv_has ls nL lv → vx_Run p l e (rmO d mc ms) s m args below meth c H locs cells slots mc' ms' (F0 m pc ls st0) rest (mQc D ba QR a) (mXC D ba QX) (fun q => ba ≤ q))
    (kr : ∀ (v : Option Value) (ad' : Adr) (w' : Wd), QR v ad' w' → V p l e s m args below meth c D ba d mc ms Q nL ad' w' (pc + 3) lv (v.toList ++ rest) (cells + mc') (slots + ms'))
    (kx : ∀ (E : String) (ad' : Adr) (w' : Wd), QX E ad' w' → VX p l e s m args below meth c D ba d mc ms Q nL E ad' w' pc lv rest (cells + mc') (slots + ms')) : V p l e s m args below meth c D ba d mc ms Q nL ad w pc lv st0 cells slots := by
  intro H locs ls hM hS hl T hT X
  rcases hr H locs ls hM hS hl T hT X with ⟨v, st₀, t, T', L, h0, X', hL, e1, e2, ⟨v', ad', w', hv, hq, hM', hF⟩, st⟩ | ⟨q, st₀, t, T', L, E, ce, h0, X', hL, e1, e2, ⟨ad', w', hq, hM', hF⟩, hce, hcv, hcl, st⟩
  · cases hv
    obtain ⟨-, -, k3⟩ := vx_keep h0 e1 hS (A1 := fun q => ba ≤ q) (fun _ _ z => z) (fun _ z => z) hL hF
    have hal : t.vm.Alike s.vm := by rw [← e2]; exact X'.warmed.alike.symm
    obtain ⟨t2, a1, b1⟩ := kr v ad' w' hq T'.heap (locs ++ L) ls (by rw [e1]; exact hM'.moved hal) k3 hl T' rfl X'
    exact ⟨t2, st t2 a1, b1⟩
  · obtain ⟨-, -, k3⟩ := vx_keep h0 e1 hS (A1 := fun q => ba ≤ q) (fun _ _ z => z) (fun _ z => z) hL hF
    have hal : t.vm.Alike s.vm := by rw [← e2]; exact X'.warmed.alike.symm
    obtain ⟨t2, a1, b1⟩ := kx E ad' w' hq T'.heap (locs ++ L) ls q ce (by rw [e1]; exact hM'.moved hal) k3 hl (by rw [e1]; exact hce) hcv hcl T' rfl X'
    exact ⟨t2, st.trans a1, b1⟩
/-- .. of one through an interface -/
theorem V_run5 {st0 : List Value} {a : Array Value} {mc' ms' : Nat} (C : Cx p l s m args meth c D ba own cc nL tb d)
    (hr : ∀ (H : Heap) (locs : List Loc) (ls : Array Slot), Mem D ba s ad w H → va_S (fun q => ba ≤ q) s.heap H locs → lv_has ls nL lv → vx_Run5 p l e (rmO d mc ms) s m args below meth c H locs cells slots mc' ms' (F0 m pc ls st0) rest (mQc D ba QR a) (mXC D ba QX) (fun q => ba ≤ q))
    (kr : ∀ (v : Option Value) (ad' : Adr) (w' : Wd), QR v ad' w' → V p l e s m args below meth c D ba d mc ms Q nL ad' w' (pc + 5) lv (v.toList ++ rest) (cells + mc') (slots + ms'))
    (kx : ∀ (E : String) (ad' : Adr) (w' : Wd), QX E ad' w' → VX p l e s m args below meth c D ba d mc ms Q nL E ad' w' pc lv rest (cells + mc') (slots + ms')) : V p l e s m args below meth c D ba d mc ms Q nL ad w pc lv st0 cells slots := by
  intro H locs ls hM hS hl T hT X
  rcases hr H locs ls hM hS hl T hT X with ⟨v, st₀, t, T', L, h0, X', hL, e1, e2, ⟨v', ad', w', hv, hq, hM', hF⟩, st⟩ | ⟨q, st₀, t, T', L, E, ce, h0, X', hL, e1, e2, ⟨ad', w', hq, hM', hF⟩, hce, hcv, hcl, st⟩
  · cases hv
    obtain ⟨-, -, k3⟩ := vx_keep h0 e1 hS (A1 := fun q => ba ≤ q) (fun _ _ z => z) (fun _ z => z) hL hF
    have hal : t.vm.Alike s.vm := by rw [← e2]; exact X'.warmed.alike.symm
    obtain ⟨t2, a1, b1⟩ := kr v ad' w' hq T'.heap (locs ++ L) ls (by rw [e1]; exact hM'.moved hal) k3 hl T' rfl X'
    exact ⟨t2, st t2 a1, b1⟩
  · obtain ⟨-, -, k3⟩ := vx_keep h0 e1 hS (A1 := fun q => ba ≤ q) (fun _ _ z => z) (fun _ z => z) hL hF
    have hal : t.vm.Alike s.vm := by rw [← e2]; exact X'.warmed.alike.symm
    obtain ⟨t2, a1, b1⟩ := kx E ad' w' hq T'.heap (locs ++ L) ls q ce (by rw [e1]; exact hM'.moved hal) k3 hl (by rw [e1]; exact hce) hcv hcl T' rfl X'
    exact ⟨t2, st.trans a1, b1⟩
/-- a call's room: the callee's depth, its locals -/
def eg_rm (d d' n mc ms cells slots mc' ms' : Nat) : Prop := d' + 1 ≤ d ∧ 8 + (n + 11) + (39 * d' + 2) ≤ 39 * d + 2 ∧ cells + mc' ≤ mc ∧ slots + ms' ≤ ms
theorem V_callV (C : Cx p l s m args meth c D ba own cc nL tb d) {i n k d' mc' ms' : Nat} {y : MethodName} {cy : ByteArray} {ry : Option FieldType} {b : Nat} {L : Lab} {ci : Nat} {fs : List Value} {r : vw_C} {st : List Value} (As : List Value) (h : decode cc pc = .ok (.invokevirtual i, 3)) (hy : eg_M y cy n ry k) (hy2 : Cond.instanceMethod y ∈ eg_T ∧ Cond.selects y.cls y y ∈ eg_T) (hlink : Cond.methodLink own i y ∈ eg_T) (hb : b = ad L) (hc : vwCl[ci]? = some r) (hrc : r.1 = y.cls) (hw : w L = some (.inr (ci, fs))) (hk : As.length = k) (hst : st = As.reverse ++ .ref b :: rest) (hW : (rest.map fun v => v.category).sum ≤ 8) (hrm : eg_rm d d' n mc ms cells slots mc' ms')
    (hM : CT l y (wsO y cy n ry) d' mc' ms' D ba (.ref b :: As) ad w QR QX)
    (kr : ∀ (v : Option Value) (ad' : Adr) (w' : Wd), QR v ad' w' → V p l e s m args below meth c D ba d mc ms Q nL ad' w' (pc + 3) lv (v.toList ++ rest) (cells + mc') (slots + ms'))
    (kx : ∀ (E : String) (ad' : Adr) (w' : Wd), QX E ad' w' → VX p l e s m args below meth c D ba d mc ms Q nL E ad' w' pc lv rest (cells + mc') (slots + ms')) : V p l e s m args below meth c D ba d mc ms Q nL ad w pc lv st cells slots := by
  subst hst
  subst hb
  refine V_run (a := (Value.ref (ad L) :: As).toArray) C (fun H locs ls hMm hS hl => ?_) kr kx
  have hts := C.2.2.2.2.1
  have hrv := eg_recv C hMm hc hw
  rw [hrc] at hrv
  refine vx_runV (Ts := eg_T) (C := y.cls) (bytes := cy) (maxL := n) (ret := ry) (ws := wsO y cy n ry) (rm := rmO d' mc' ms') (n := k) ⟨C.1, C.2.1, C.2.2.1, C.2.2.2.1, hts⟩ hM ?_ ⟨mPc_blind, hrv, eg_pre C hMm hS _⟩ rfl hk hl.1 rfl (lv_room hW) h ⟨hrm.2.2.1, hrm.2.2.2⟩
  exact cwV k hts (eg_gi (eg_c1 hlink (eg_c1 hy2.1 (eg_c1 hy2.2 (eg_c1 hy.2.1 (eg_c1 hy.1 eg_c0)))))) rfl rfl rfl ⟨rfl, hy.2.2.1, hy.2.2.2.1, hy.2.2.2.2⟩ ⟨hrm.1, hrm.2.1⟩
/-- a private method of a nest mate -/
theorem V_callVN (C : Cx p l s m args meth c D ba own cc nL tb d) {i n k d' mc' ms' : Nat} {y : MethodName} {cy : ByteArray} {ry : Option FieldType} {b : Nat} {L : Lab} {ci : Nat} {fs : List Value} {r : vw_C} {st : List Value} (host : String) (As : List Value) (h : decode cc pc = .ok (.invokevirtual i, 3)) (hy : eg_M y cy n ry k) (hy2 : Cond.instanceMethod y ∈ eg_T ∧ Cond.selects y.cls y y ∈ eg_T) (hlink : Cond.methodLinkNest own i y host ∈ lw_tbl) (hb : b = ad L) (hc : vwCl[ci]? = some r) (hrc : r.1 = y.cls) (hw : w L = some (.inr (ci, fs))) (hk : As.length = k) (hst : st = As.reverse ++ .ref b :: rest) (hW : (rest.map fun v => v.category).sum ≤ 8) (hrm : eg_rm d d' n mc ms cells slots mc' ms')
    (hM : CT l y (wsO y cy n ry) d' mc' ms' D ba (.ref b :: As) ad w QR QX)
    (kr : ∀ (v : Option Value) (ad' : Adr) (w' : Wd), QR v ad' w' → V p l e s m args below meth c D ba d mc ms Q nL ad' w' (pc + 3) lv (v.toList ++ rest) (cells + mc') (slots + ms'))
    (kx : ∀ (E : String) (ad' : Adr) (w' : Wd), QX E ad' w' → VX p l e s m args below meth c D ba d mc ms Q nL E ad' w' pc lv rest (cells + mc') (slots + ms')) : V p l e s m args below meth c D ba d mc ms Q nL ad w pc lv st cells slots := by
  subst hst
  subst hb
  refine V_run (a := (Value.ref (ad L) :: As).toArray) C (fun H locs ls hMm hS hl => ?_) kr kx
  have hts := C.2.2.2.2.1
  have hrv := eg_recv C hMm hc hw
  rw [hrc] at hrv
  refine vx_runVN (Ts := eg_T) (C := y.cls) (host := host) (bytes := cy) (maxL := n) (ret := ry) (ws := wsO y cy n ry) (rm := rmO d' mc' ms') (n := k) ⟨C.1, C.2.1, C.2.2.1, C.2.2.2.1, hts⟩ hM ?_ ⟨mPc_blind, hrv, eg_pre C hMm hS _⟩ rfl hk hl.1 rfl (lv_room hW) h ⟨hrm.2.2.1, hrm.2.2.2⟩
  exact ⟨va_cnB k hts (eg_gi (eg_c1 hy.1 eg_c0)) rfl rfl rfl (C.2.2.2.2.2.1.2.1 _ hlink rfl) (hts _ hy.2.1) ⟨hy.2.2.1, hy.2.2.2.1, hy.2.2.2.2⟩ ⟨hrm.1, hrm.2.1⟩, hts _ hy2.1, hts _ hy2.2⟩
theorem V_callS (C : Cx p l s m args meth c D ba own cc nL tb d) {i n k d' mc' ms' : Nat} {y : MethodName} {cy : ByteArray} {ry : Option FieldType} {st : List Value} (As : List Value) (h : decode cc pc = .ok (.invokestatic i, 3)) (hy : eg_M y cy n ry k) (hy2 : Cond.static y ∈ eg_T) (hlink : Cond.methodLink own i y ∈ eg_T) (hk : As.length = k) (hst : st = As.reverse ++ rest) (hW : (rest.map fun v => v.category).sum ≤ 8) (hrm : eg_rm d d' n mc ms cells slots mc' ms')
    (hM : CT l y (wsO y cy n ry) d' mc' ms' D ba As ad w QR QX)
    (kr : ∀ (v : Option Value) (ad' : Adr) (w' : Wd), QR v ad' w' → V p l e s m args below meth c D ba d mc ms Q nL ad' w' (pc + 3) lv (v.toList ++ rest) (cells + mc') (slots + ms'))
    (kx : ∀ (E : String) (ad' : Adr) (w' : Wd), QX E ad' w' → VX p l e s m args below meth c D ba d mc ms Q nL E ad' w' pc lv rest (cells + mc') (slots + ms')) : V p l e s m args below meth c D ba d mc ms Q nL ad w pc lv st cells slots := by
  subst hst
  refine V_run (a := As.toArray) C (fun H locs ls hMm hS hl => ?_) kr kx
  have hts := C.2.2.2.2.1
  refine vx_runS (Ts := eg_T) (bytes := cy) (maxL := n) (ret := ry) (ws := wsO y cy n ry) (rm := rmO d' mc' ms') (n := k) ⟨C.1, C.2.1, C.2.2.1, C.2.2.2.1, hts⟩ hM ?_ ⟨mPc_blind, eg_pre C hMm hS _⟩ rfl hk hl.1 rfl (lv_room hW) h ⟨hrm.2.2.1, hrm.2.2.2⟩
  exact ⟨callB_of k hts (eg_gi (eg_c1 hy.1 eg_c0)) rfl rfl rfl (hts _ hy.2.1) (hts _ hlink) ⟨hy.2.2.1, hy.2.2.2.1, hy.2.2.2.2⟩ ⟨hrm.1, hrm.2.1⟩, hts _ hy2⟩
/-- a static method with a table of its own -/
theorem V_callSX (C : Cx p l s m args meth c D ba own cc nL tb d) {i n k d' mc' ms' : Nat} {y : MethodName} {cy : ByteArray} {ry : Option FieldType} {hh : List (Nat × Nat × Nat × Nat)} {st : List Value} (As : List Value) (h : decode cc pc = .ok (.invokestatic i, 3)) (hy : eg_MH y cy n ry hh k) (hy2 : Cond.static y ∈ eg_T) (hlink : Cond.methodLink own i y ∈ eg_T) (hk : As.length = k) (hst : st = As.reverse ++ rest) (hW : (rest.map fun v => v.category).sum ≤ 8) (hrm : eg_rm d d' n mc ms cells slots mc' ms')
    (hM : CT l y (wsH y cy n ry hh) d' mc' ms' D ba As ad w QR QX)
    (kr : ∀ (v : Option Value) (ad' : Adr) (w' : Wd), QR v ad' w' → V p l e s m args below meth c D ba d mc ms Q nL ad' w' (pc + 3) lv (v.toList ++ rest) (cells + mc') (slots + ms'))
    (kx : ∀ (E : String) (ad' : Adr) (w' : Wd), QX E ad' w' → VX p l e s m args below meth c D ba d mc ms Q nL E ad' w' pc lv rest (cells + mc') (slots + ms')) : V p l e s m args below meth c D ba d mc ms Q nL ad w pc lv st cells slots := by
  subst hst
  refine V_run (a := As.toArray) C (fun H locs ls hMm hS hl => ?_) kr kx
  have hts := C.2.2.2.2.1
  refine vx_runSX (Ts := eg_T) (hh := hh) (bytes := cy) (maxL := n) (ret := ry) (ws := wsH y cy n ry hh) (rm := rmO d' mc' ms') (n := k) ⟨C.1, C.2.1, C.2.2.1, C.2.2.2.1, hts⟩ hM ?_ ⟨mPc_blind, eg_pre C hMm hS _⟩ rfl hk hl.1 rfl (lv_room hW) h ⟨hrm.2.2.1, hrm.2.2.2⟩
  exact vx_cwSW k hts (eg_gi (eg_c1 hlink (eg_c1 hy2 (eg_c1 hy.2.1 (eg_c1 hy.1 eg_c0))))) rfl rfl rfl ⟨hy.2.2.1, hy.2.2.2.1, hy.2.2.2.2⟩ ⟨hrm.1, hrm.2.1⟩
theorem V_callI (C : Cx p l s m args meth c D ba own cc nL tb d) {i n k d' mc' ms' : Nat} {y : MethodName} {cy : ByteArray} {b : Nat} {st : List Value} (As : List Value) (h : decode cc pc = .ok (.invokespecial i, 3)) (hy : eg_M y cy n none k) (hy2 : Cond.instanceMethod y ∈ eg_T ∧ y.name = "<init>") (hlink : Cond.methodLink own i y ∈ eg_T) (hk : As.length = k) (hst : st = As.reverse ++ .ref b :: rest) (hW : (rest.map fun v => v.category).sum ≤ 8) (hrm : eg_rm d d' n mc ms cells slots mc' ms')
    (hM : CT l y (wsO y cy n none) d' mc' ms' D ba (.ref b :: As) ad w QR QX)
    (kr : ∀ (v : Option Value) (ad' : Adr) (w' : Wd), QR v ad' w' → V p l e s m args below meth c D ba d mc ms Q nL ad' w' (pc + 3) lv (v.toList ++ rest) (cells + mc') (slots + ms'))
    (kx : ∀ (E : String) (ad' : Adr) (w' : Wd), QX E ad' w' → VX p l e s m args below meth c D ba d mc ms Q nL E ad' w' pc lv rest (cells + mc') (slots + ms')) : V p l e s m args below meth c D ba d mc ms Q nL ad w pc lv st cells slots := by
  subst hst
  refine V_run (a := (Value.ref b :: As).toArray) C (fun H locs ls hMm hS hl => ?_) kr kx
  have hts := C.2.2.2.2.1
  refine vx_runI (Ts := eg_T) (bytes := cy) (maxL := n) (ws := wsO y cy n none) (rm := rmO d' mc' ms') (n := k) ⟨C.1, C.2.1, C.2.2.1, C.2.2.2.1, hts⟩ hM ?_ ⟨mPc_blind, eg_pre C hMm hS _⟩ rfl hk hl.1 rfl (lv_room hW) h ⟨hrm.2.2.1, hrm.2.2.2⟩
  exact cwI k hts (eg_gi (eg_c1 hy.1 eg_c0)) rfl rfl rfl (hts _ hy.2.1) (hts _ hlink) (hts _ hy2.1) hy2.2 ⟨hy.2.2.1, hy.2.2.2.1, hy.2.2.2.2⟩ ⟨hrm.1, hrm.2.1⟩
/-- a private constructor of a nest mate -/
theorem V_callIN (C : Cx p l s m args meth c D ba own cc nL tb d) {i n k d' mc' ms' : Nat} {y : MethodName} {cy : ByteArray} {b : Nat} {st : List Value} (host : String) (As : List Value) (h : decode cc pc = .ok (.invokespecial i, 3)) (hy : eg_M y cy n none k) (hy2 : Cond.instanceMethod y ∈ eg_T ∧ y.name = "<init>") (hlink : Cond.methodLinkNest own i y host ∈ lw_tbl) (hk : As.length = k) (hst : st = As.reverse ++ .ref b :: rest) (hW : (rest.map fun v => v.category).sum ≤ 8) (hrm : eg_rm d d' n mc ms cells slots mc' ms')
    (hM : CT l y (wsO y cy n none) d' mc' ms' D ba (.ref b :: As) ad w QR QX)
    (kr : ∀ (v : Option Value) (ad' : Adr) (w' : Wd), QR v ad' w' → V p l e s m args below meth c D ba d mc ms Q nL ad' w' (pc + 3) lv (v.toList ++ rest) (cells + mc') (slots + ms'))
    (kx : ∀ (E : String) (ad' : Adr) (w' : Wd), QX E ad' w' → VX p l e s m args below meth c D ba d mc ms Q nL E ad' w' pc lv rest (cells + mc') (slots + ms')) : V p l e s m args below meth c D ba d mc ms Q nL ad w pc lv st cells slots := by
  subst hst
  refine V_run (a := (Value.ref b :: As).toArray) C (fun H locs ls hMm hS hl => ?_) kr kx
  have hts := C.2.2.2.2.1
  refine vx_runIN (Ts := eg_T) (host := host) (bytes := cy) (maxL := n) (ws := wsO y cy n none) (rm := rmO d' mc' ms') (n := k) ⟨C.1, C.2.1, C.2.2.1, C.2.2.2.1, hts⟩ hM ?_ ⟨mPc_blind, eg_pre C hMm hS _⟩ rfl hk hl.1 rfl (lv_room hW) h ⟨hrm.2.2.1, hrm.2.2.2⟩
  exact ⟨va_cnB k hts (eg_gi (eg_c1 hy.1 eg_c0)) rfl rfl rfl (C.2.2.2.2.2.1.2.1 _ hlink rfl) (hts _ hy.2.1) ⟨hy.2.2.1, hy.2.2.2.1, hy.2.2.2.2⟩ ⟨hrm.1, hrm.2.1⟩, hy2.2, hts _ hy2.1⟩
/-- through an interface, the receiver's kind known -/
theorem V_callF (C : Cx p l s m args meth c D ba own cc nL tb d) {i n k d' mc' ms' cnt : Nat} {x y : MethodName} {cy : ByteArray} {ry : Option FieldType} {b : Nat} {L : Lab} {ci : Nat} {fs : List Value} {r : vw_C} {st : List Value} (As : List Value) (h : decode cc pc = .ok (.invokeinterface i cnt, 5)) (hy : eg_M y cy n ry k) (hy2 : Cond.instanceMethod y ∈ eg_T ∧ Cond.selects y.cls x y ∈ eg_T) (hlink : Cond.methodLink own i x ∈ eg_T) (hx : x.cls ≠ "java/lang/invoke/MethodHandle" ∧ x.cls ≠ "java/lang/invoke/VarHandle" ∧ (parseMethodDescriptor x.desc).map (fun d => d.parameters.length) = some k) (hf : (y.cls, x, y) ∈ eg_faces) (hb : b = ad L) (hc : vwCl[ci]? = some r) (hrc : r.1 = y.cls) (hw : w L = some (.inr (ci, fs))) (hk : As.length = k) (hst : st = As.reverse ++ .ref b :: rest) (hW : (rest.map fun v => v.category).sum ≤ 8) (hrm : eg_rm d d' n mc ms cells slots mc' ms')
    (hM : CT l y (wsO y cy n ry) d' mc' ms' D ba (.ref b :: As) ad w QR QX)
    (kr : ∀ (v : Option Value) (ad' : Adr) (w' : Wd), QR v ad' w' → V p l e s m args below meth c D ba d mc ms Q nL ad' w' (pc + 5) lv (v.toList ++ rest) (cells + mc') (slots + ms'))
    (kx : ∀ (E : String) (ad' : Adr) (w' : Wd), QX E ad' w' → VX p l e s m args below meth c D ba d mc ms Q nL E ad' w' pc lv rest (cells + mc') (slots + ms')) : V p l e s m args below meth c D ba d mc ms Q nL ad w pc lv st cells slots := by
  subst hst
  subst hb
  refine V_run5 (a := (Value.ref (ad L) :: As).toArray) C (fun H locs ls hMm hS hl => ?_) kr kx
  have hts := C.2.2.2.2.1
  have hrv := eg_recv C hMm hc hw
  have hat := (C.2.2.2.2.2.1.1.1 ci r hc).2
  rw [hrc] at hrv hat
  refine vx_runF (Ts := eg_T) (C := y.cls) (x := x) (bytes := cy) (maxL := n) (ret := ry) (ws := wsO y cy n ry) (rm := rmO d' mc' ms') (n := k) hat ⟨C.1, C.2.1, C.2.2.1, C.2.2.2.1, hts⟩ hM ?_ ⟨mPc_blind, hrv, eg_pre C hMm hS _⟩ rfl hk hl.1 rfl (lv_room hW) h ⟨hrm.2.2.1, hrm.2.2.2⟩
  exact va_cwF k hts (eg_gi (eg_c1 hlink (eg_c1 hy2.2 (eg_c1 hy2.1 (eg_c1 hy.2.1 (eg_c1 hy.1 eg_c0)))))) rfl rfl rfl (C.2.2.2.2.2.1.2.2.2.1 _ hf) hx ⟨hrm.1, hrm.2.1⟩
/-! ends -/
theorem V_iret (C : Cx p l s m args meth c D ba own cc nL tb d) {v : Int32} (ty : FieldType) (h : decode cc pc = .ok (.ireturn, 1)) (hr : meth.sig.returnType = some ty) (hn : narrow ty (.int v) = .int v) (hq : QR (some (.int v)) ad w) (h1 : cells ≤ mc) (h2 : slots ≤ ms) : V p l e s m args below meth c D ba d mc ms (MO D ba QR QX below args s mc ms) nL ad w pc lv [.int v] cells slots := fun H locs ls hM hS hl =>
  W.widen h1 h2 (vx_ret (W.zret (hlocks := C.2.2.2.2.2.2.2.1) C.1 C.2.1 hr hn (fun t ht hW => ⟨_, ad, w, rfl, hq, by rw [ht]; exact hM.moved hW.alike, hS.F ht⟩) hS.2.2 h))
theorem V_lret (C : Cx p l s m args meth c D ba own cc nL tb d) {v : Int64} (h : decode cc pc = .ok (.lreturn, 1)) (hr : meth.sig.returnType = some .long) (hq : QR (some (.long v)) ad w) (h1 : cells ≤ mc) (h2 : slots ≤ ms) : V p l e s m args below meth c D ba d mc ms (MO D ba QR QX below args s mc ms) nL ad w pc lv [.long v] cells slots := fun H locs ls hM hS hl =>
  W.widen h1 h2 (vx_ret (W.lret (hlocks := C.2.2.2.2.2.2.2.1) C.1 C.2.1 hr (fun t ht hW => ⟨_, ad, w, rfl, hq, by rw [ht]; exact hM.moved hW.alike, hS.F ht⟩) hS.2.2 h))
theorem V_dret (C : Cx p l s m args meth c D ba own cc nL tb d) {v : UInt64} (h : decode cc pc = .ok (.dreturn, 1)) (hr : meth.sig.returnType = some .double) (hq : QR (some (.double v)) ad w) (h1 : cells ≤ mc) (h2 : slots ≤ ms) : V p l e s m args below meth c D ba d mc ms (MO D ba QR QX below args s mc ms) nL ad w pc lv [.double v] cells slots := fun H locs ls hM hS hl =>
  W.widen h1 h2 (vx_ret (W.dret (hlocks := C.2.2.2.2.2.2.2.1) C.1 C.2.1 hr (fun t ht hW => ⟨_, ad, w, rfl, hq, by rw [ht]; exact hM.moved hW.alike, hS.F ht⟩) hS.2.2 h))
theorem V_vret (C : Cx p l s m args meth c D ba own cc nL tb d) (h : decode cc pc = .ok (.return_, 1)) (hr : meth.sig.returnType = none) (hq : QR none ad w) (h1 : cells ≤ mc) (h2 : slots ≤ ms) : V p l e s m args below meth c D ba d mc ms (MO D ba QR QX below args s mc ms) nL ad w pc lv [] cells slots := fun H locs ls hM hS hl =>
  W.widen h1 h2 (vx_ret (W.vret (hlocks := C.2.2.2.2.2.2.2.1) C.1 C.2.1 hr (fun t ht hW => ⟨_, ad, w, rfl, hq, by rw [ht]; exact hM.moved hW.alike, hS.F ht⟩) hS.2.2 h))
theorem V_aret (C : Cx p l s m args meth c D ba own cc nL tb d) {a : Nat} (K : String) (h : decode cc pc = .ok (.areturn, 1)) (hr : meth.sig.returnType = some (.object K)) (hq : QR (some (.ref a)) ad w) (h1 : cells ≤ mc) (h2 : slots ≤ ms) : V p l e s m args below meth c D ba d mc ms (MO D ba QR QX below args s mc ms) nL ad w pc lv [.ref a] cells slots := fun H locs ls hM hS hl =>
  W.widen h1 h2 (vx_ret (W.aret (hlocks := C.2.2.2.2.2.2.2.1) C.1 C.2.1 hr (Or.inl ⟨K, rfl⟩) (Or.inr ⟨a, rfl⟩) (fun t ht hW => ⟨_, ad, w, rfl, hq, by rw [ht]; exact hM.moved hW.alike, hS.F ht⟩) hS.2.2 h))
/-! throws -/
theorem eg_atS {own : String} {ic : Nat} {K : String} {names : List String} (C : Cx p l s m args meth c D ba own cc nL tb d) (h1 : ∀ w ∈ vx_atS own ic K names, w ∈ lw_tbl) (h2 : ∀ w ∈ vx_atS own ic K names, (goodWord w || eg_nw w) = true) : ∀ w ∈ vx_atS own ic K names, w.before args s = true := by
  intro w hw
  have h3 := h2 w hw
  simp only [Bool.or_eq_true] at h3
  rcases h3 with h3 | h3
  · exact C.2.2.2.2.1 w (List.mem_filter.mpr ⟨h1 w hw, h3⟩)
  · exact va_Nw.use (eg_nw_tab h3) (C.2.2.2.2.2.1.2.1 w (h1 w hw) h3)
theorem V_throw (C : Cx p l s m args meth c D ba own cc nL tb d) {ik is ic : Nat} (K text : String) (names : List String) (d0 : decode cc pc = .ok (.new ik, 3)) (d3 : decode cc (pc + 3) = .ok (.dup, 1)) (d4 : decode cc (pc + 4) = .ok (.ldc is, 2)) (d6 : decode cc (pc + 6) = .ok (.invokespecial ic, 3)) (d9 : decode cc (pc + 9) = .ok (.athrow, 1))
    (hcls : Bundle.fit K = true) (hnames : ∀ n ∈ names, Bundle.fit n = true) (hk : Cond.classLink own ik K ∈ eg_T) (hini : Cond.initialized K ∈ eg_T) (hstr : Cond.stringRef own is text ∈ lw_tbl) (hat : ∀ w ∈ vx_atS own ic K names, w ∈ lw_tbl) (hat2 : ∀ w ∈ vx_atS own ic K names, (goodWord w || eg_nw w) = true) (hgood : ∀ w ∈ Cond.classLink own ik K :: Cond.initialized K :: vx_atS own ic K names, vx_ot w = true)
    (hout : tb.all (fun x => covers x (pc + 9) == false) = true) (hd : names.length + 3 < d) (hd2 : (rest.map fun v => v.category).sum + (13 * (names.length + 1) + 43) ≤ 39 * d + 2) (h1 : cells + 1 ≤ mc) (h2 : slots + 6 ≤ ms) (hq : QX K ad w) : V p l e s m args below meth c D ba d mc ms (MO D ba QR QX below args s mc ms) nL ad w pc lv rest cells slots := by
  intro H locs ls hM hS hl
  obtain ⟨sa, hsa⟩ := C.2.2.2.2.2.1.2.2.2.2.2.1 _ _ _ hstr
  have hts := C.2.2.2.2.1
  refine vx_throwS C.1 C.2.1 C.2.2.2.2.2.2.2.2.1 C.2.2.2.1 hcls hnames (hts _ hk) (hts _ hini) hsa (eg_atS C hat hat2) hgood C.2.2.2.2.2.1.2.2.2.2.1.1 C.2.2.2.2.2.1.2.2.2.2.1.2 hS (hl.1.trans C.2.2.1.symm) d0 d3 d4 d6 d9 ?_ hd hd2 h1 h2 C.2.2.2.2.2.2.2.1 ?_ hS.2.2 h1 h2
  · intro x hx
    rw [C.2.2.2.2.2.2.2.2.2] at hx
    exact beq_iff_eq.mp (List.all_eq_true.mp hout x hx)
  · intro t hvm hz hk2
    exact ⟨ad, w, hq, (hM.kept hk2).moved hvm, ⟨Nat.le_trans hS.1 hz, fun q g1 g2 => (hk2 q (Nat.lt_of_lt_of_le g1 hS.1)).trans (hS.2.1 q g1 g2)⟩⟩
/-- a callee's throw goes on -/
theorem VX_out (C : Cx p l s m args meth c D ba own cc nL tb d) {E : String} (hout : tb.all (fun x => covers x pc == false) = true) (hq : QX E ad w) (h1 : cells ≤ mc) (h2 : slots ≤ ms) : VX p l e s m args below meth c D ba d mc ms (MO D ba QR QX below args s mc ms) nL E ad w pc lv rest cells slots := by
  intro H locs ls q ce hM hS hl hce hcv hcl
  refine vx_out ?_ C.2.2.2.2.2.2.2.1 hce hcv hcl ?_ hS.2.2 h1 h2
  · intro x hx
    rw [C.2.2.2.2.2.2.2.2.2] at hx
    exact beq_iff_eq.mp (List.all_eq_true.mp hout x hx)
  · intro t ht hvm
    exact ⟨ad, w, hq, by rw [ht]; exact hM.moved hvm, hS.F ht⟩
/-- caught by the row x of the table -/
theorem VX_catch (C : Cx p l s m args meth c D ba own cc nL tb d) {E : String} (name : String) (pre : List ExceptionTableEntry) (x : ExceptionTableEntry) (suf : List ExceptionTableEntry) (hsplit : tb = pre ++ x :: suf)
    (hpass : ∀ z ∈ pre, covers z pc = false ∨ (z.catchType ≠ 0 ∧ ∃ nm : String, Cond.classLink own z.catchType nm ∈ eg_T ∧ (E, nm) ∈ eg_nc)) (hx : covers x pc = true) (h0 : x.catchType ≠ 0) (hlink : Cond.classLink own x.catchType name ∈ eg_T) (hcast : Cond.castable E name ∈ lw_tbl)
    (kk : ∀ a : Nat, V p l e s m args below meth c D ba d mc ms Q nL ad w x.handlerPc lv [.ref a] cells slots) : VX p l e s m args below meth c D ba d mc ms Q nL E ad w pc lv rest cells slots := by
  intro H locs ls q ce hM hS hl hce hcv hcl
  have hts := C.2.2.2.2.1
  refine vx_catch C.2.2.2.1 pre x suf (C.2.2.2.2.2.2.2.2.2.trans hsplit) ?_ hx h0 (hts _ hlink) (va_Nw.use rfl (C.2.2.2.2.2.1.2.1 _ hcast rfl)) hce hcv hcl (kk q H locs ls hM hS hl)
  intro z hz
  rcases hpass z hz with h | ⟨h, nm, h3, h4⟩
  · exact Or.inl h
  · exact Or.inr ⟨h, nm, hts _ h3, C.2.2.2.2.2.1.2.2.2.2.2.2.1 _ h4⟩
/-! methods of the JDK -/
theorem V_max (C : Cx p l s m args meth c D ba own cc nL tb d) {i : Nat} {x y : Int32} (h : decode cc pc = .ok (.invokestatic i, 3)) (hlink : Cond.methodLink own i Lib.Math.max.name ∈ eg_T) (h1 : Cond.static Lib.Math.max.name ∈ eg_T) (h2 : Cond.initialized "java/lang/Math" ∈ eg_T) (h3 : Cond.code Lib.Math.max.name Lib.Math.max.code 2 (some .int) ∈ eg_T) (hd : 1 ≤ d) (hd2 : (rest.map fun v => v.category).sum + 13 ≤ 39 * d + 2) (hc : cells ≤ mc) (hs : slots ≤ ms)
    (k : V p l e s m args below meth c D ba d mc ms Q nL ad w (pc + 3) lv (.int (if x < y then y else x) :: rest) cells slots) : V p l e s m args below meth c D ba d mc ms Q nL ad w pc lv (.int y :: .int x :: rest) cells slots := fun H locs ls hM hS hl =>
  va_mmax C.1 C.2.1 (C.2.2.1.trans hl.1.symm) C.2.2.2.1 (C.2.2.2.2.1 _ hlink) (C.2.2.2.2.1 _ h1) (C.2.2.2.2.1 _ h2) (C.2.2.2.2.1 _ h3) hd hd2 hc hs h (k H locs ls hM hS hl)
theorem V_min (C : Cx p l s m args meth c D ba own cc nL tb d) {i : Nat} {x y : Int32} (h : decode cc pc = .ok (.invokestatic i, 3)) (hlink : Cond.methodLink own i Lib.Math.min.name ∈ eg_T) (h1 : Cond.static Lib.Math.min.name ∈ eg_T) (h2 : Cond.initialized "java/lang/Math" ∈ eg_T) (h3 : Cond.code Lib.Math.min.name Lib.Math.min.code 2 (some .int) ∈ eg_T) (hd : 1 ≤ d) (hd2 : (rest.map fun v => v.category).sum + 13 ≤ 39 * d + 2) (hc : cells ≤ mc) (hs : slots ≤ ms)
    (k : V p l e s m args below meth c D ba d mc ms Q nL ad w (pc + 3) lv (.int (if y < x then y else x) :: rest) cells slots) : V p l e s m args below meth c D ba d mc ms Q nL ad w pc lv (.int y :: .int x :: rest) cells slots := fun H locs ls hM hS hl =>
  va_mmin C.1 C.2.1 (C.2.2.1.trans hl.1.symm) C.2.2.2.1 (C.2.2.2.2.1 _ hlink) (C.2.2.2.2.1 _ h1) (C.2.2.2.2.1 _ h2) (C.2.2.2.2.1 _ h3) hd hd2 hc hs h (k H locs ls hM hS hl)
theorem V_obj (C : Cx p l s m args meth c D ba own cc nL tb d) {i a : Nat} (h : decode cc pc = .ok (.invokespecial i, 3)) (hlink : Cond.methodLink own i Lib.objectInit ∈ eg_T) (h1 : Cond.instanceMethod Lib.objectInit ∈ eg_T) (h2 : Cond.code Lib.objectInit ⟨#[0xb1]⟩ 1 none ∈ eg_T) (hd : 1 ≤ d) (hd2 : (rest.map fun v => v.category).sum + 12 ≤ 39 * d + 2)
    (k : V p l e s m args below meth c D ba d mc ms Q nL ad w (pc + 3) lv rest cells slots) : V p l e s m args below meth c D ba d mc ms Q nL ad w pc lv (.ref a :: rest) cells slots := fun H locs ls hM hS hl =>
  W.objInit C.1 C.2.1 C.2.2.2.1 (C.2.2.2.2.1 _ hlink) (C.2.2.2.2.1 _ h1) (C.2.2.2.2.1 _ h2) rfl (hl.1.trans C.2.2.1.symm) rfl h hd (by show 2 * 0 + _ + 12 ≤ 39 * d + 2; omega) (k H locs ls hM hS hl)
/-! the law's own script -/
theorem V_sld (C : Cx p l s m args meth c D ba own cc nL tb d) {b L : Nat} {xs : Nat → Int32} (hX : va_X b L xs s s.heap) (hb : b < ba) {i : Int32} (hin : vp_in i L) (h : decode cc pc = .ok (.iaload, 1))
    (k : V p l e s m args below meth c D ba d mc ms Q nL ad w (pc + 1) lv (.int (xs i.toNatClampNeg) :: rest) cells slots) : V p l e s m args below meth c D ba d mc ms Q nL ad w pc lv (.int i :: .ref b :: rest) cells slots := fun H locs ls hM hS hl =>
  va_sld (A := fun q => ba ≤ q) C.1 C.2.1 hX (Nat.lt_of_lt_of_le hb C.2.2.2.2.2.2.1) (Nat.not_le.mpr hb) hS hin h (k H locs ls hM hS hl)
theorem V_slen (C : Cx p l s m args meth c D ba own cc nL tb d) {b L : Nat} {xs : Nat → Int32} (hX : va_X b L xs s s.heap) (hb : b < ba) (h : decode cc pc = .ok (.arraylength, 1))
    (k : V p l e s m args below meth c D ba d mc ms Q nL ad w (pc + 1) lv (.int (Int32.ofNat L) :: rest) cells slots) : V p l e s m args below meth c D ba d mc ms Q nL ad w pc lv (.ref b :: rest) cells slots := fun H locs ls hM hS hl =>
  va_slen (A := fun q => ba ≤ q) C.1 C.2.1 hX (Nat.lt_of_lt_of_le hb C.2.2.2.2.2.2.1) (Nat.not_le.mpr hb) hS h (k H locs ls hM hS hl)
/-! methods begin -/
theorem CT_of {y : MethodName} {cy : ByteArray} {n : Nat} {ry : Option FieldType} {as : List Value} (own : String) (hown : y.cls = own) (hy : plainName y.cls = true) (hl : l.stackTraces = false) (hn : (lg_sl as).length ≤ n)
    (body : ∀ (p : Program) (e : Env) (s : State) (m : MethodId) (args : Array Value) (below : List Frame) (meth : Method) (c : Code), Cx p l s m args meth c D ba own cy n [] d → meth.sig.returnType = ry → meth.name = y.name → V p l e s m args below meth c D ba d mc ms (MO D ba QR QX below args s mc ms) n ad w 0 (lv_args 0 as) [] 0 0) : CT l y (wsO y cy n ry) d mc ms D ba as ad w QR QX := by
  subst hown
  refine vx_ofW (cc := cy) (maxL := n) (ret := ry) hy rfl ?_
  intro p e s m args below meth c s₁ B hml ht hv
  obtain ⟨rfl, hNF, hba, hM⟩ := hv
  have hts := atoms_spec (ws := wsO y cy n ry) B.pre
  have hown : s.vm.findClass y.cls = some m.cls := findClass_of_methodNamed B.named
  have htb : c.exceptionTable.toList = [] := List.eq_nil_iff_forall_not_mem.mpr (fun x hx => ht x hx)
  have K := body p e s m as.toArray below meth c ⟨B.exec, B.bytes, hml, hown, fun w hw => hts w (List.mem_cons_of_mem _ hw), hNF, hba, B.notSynchronized, hl, htb⟩ B.returns (name_of_methodNamed B.named B.method).1
  rw [lg_entry_eq]
  exact K s.heap [] _ hM va_S.rf (lv_entry as hn)
theorem CT_ofH {y : MethodName} {cy : ByteArray} {n : Nat} {ry : Option FieldType} {hh : List (Nat × Nat × Nat × Nat)} {as : List Value} (own : String) (hown : y.cls = own) (hy : plainName y.cls = true) (hl : l.stackTraces = false) (hn : (lg_sl as).length ≤ n)
    (body : ∀ (p : Program) (e : Env) (s : State) (m : MethodId) (args : Array Value) (below : List Frame) (meth : Method) (c : Code), Cx p l s m args meth c D ba own cy n (tableOf hh) d → meth.sig.returnType = ry → meth.name = y.name → V p l e s m args below meth c D ba d mc ms (MO D ba QR QX below args s mc ms) n ad w 0 (lv_args 0 as) [] 0 0) : CT l y (wsH y cy n ry hh) d mc ms D ba as ad w QR QX := by
  subst hown
  refine vx_ofWH (cc := cy) (maxL := n) (ret := ry) (hh := hh) hy rfl ?_
  intro p e s m args below meth c s₁ B hml hv
  obtain ⟨rfl, hNF, hba, hM⟩ := hv
  have hts := atoms_spec (ws := wsH y cy n ry hh) B.pre
  have hown : s.vm.findClass y.cls = some m.cls := findClass_of_methodNamed B.named
  have htb := vx_table (x := y) B (hts _ List.mem_cons_self)
  have K := body p e s m as.toArray below meth c ⟨B.exec, B.bytes, hml, hown, fun w hw => hts w (List.mem_cons_of_mem _ hw), hNF, hba, B.notSynchronized, hl, htb⟩ B.returns (name_of_methodNamed B.named B.method).1
  rw [lg_entry_eq]
  exact K s.heap [] _ hM va_S.rf (lv_entry as hn)
end EC
end
section
set_option maxRecDepth 100000 in
theorem tw_518 : Cond.code yL_act cL_act 19 (some .boolean) ∈ eg_T := eg_in 541 rfl (by decide +kernel)
end
section
theorem tw_0 : Cond.initialized RL ∈ eg_T := eg_in 23 (by decide +kernel) (by decide +kernel)
theorem tw_1 : Cond.initialized RX6 ∈ eg_T := eg_in 24 (by decide +kernel) (by decide +kernel)
theorem tw_2 : Cond.initialized RX5 ∈ eg_T := eg_in 25 (by decide +kernel) (by decide +kernel)
theorem tw_3 : Cond.initialized RX2 ∈ eg_T := eg_in 26 (by decide +kernel) (by decide +kernel)
theorem tw_4 : Cond.initialized RX8 ∈ eg_T := eg_in 27 (by decide +kernel) (by decide +kernel)
theorem tw_5 : Cond.initialized RX7 ∈ eg_T := eg_in 28 (by decide +kernel) (by decide +kernel)
theorem tw_6 : Cond.initialized "java/lang/Throwable" ∈ eg_T := eg_in 29 (by decide +kernel) (by decide +kernel)
theorem tw_7 : Cond.initialized "java/lang/Exception" ∈ eg_T := eg_in 30 (by decide +kernel) (by decide +kernel)
theorem tw_8 : Cond.initialized "java/lang/RuntimeException" ∈ eg_T := eg_in 31 (by decide +kernel) (by decide +kernel)
theorem tw_9 : Cond.initialized "java/lang/IllegalArgumentException" ∈ eg_T := eg_in 32 (by decide +kernel) (by decide +kernel)
theorem tw_10 : Cond.initialized "java/lang/IllegalStateException" ∈ eg_T := eg_in 33 (by decide +kernel) (by decide +kernel)
theorem tw_11 : Cond.initialized RX0 ∈ eg_T := eg_in 34 (by decide +kernel) (by decide +kernel)
theorem tw_12 : Cond.initialized "java/lang/IndexOutOfBoundsException" ∈ eg_T := eg_in 35 (by decide +kernel) (by decide +kernel)
theorem tw_13 : Cond.initialized RX4 ∈ eg_T := eg_in 36 (by decide +kernel) (by decide +kernel)
theorem tw_14 : Cond.initialized RX3 ∈ eg_T := eg_in 37 (by decide +kernel) (by decide +kernel)
theorem tw_15 : Cond.initialized RJ9 ∈ eg_T := eg_in 38 (by decide +kernel) (by decide +kernel)
theorem tw_16 : Cond.initialized RJ7 ∈ eg_T := eg_in 39 (by decide +kernel) (by decide +kernel)
theorem tw_17 : Cond.classLink RL 29 RX6 ∈ eg_T := eg_in 40 (by decide +kernel) (by decide +kernel)
theorem tw_18 : Cond.instantiable RX6 8 ∈ eg_T := eg_in 41 (by decide +kernel) (by decide +kernel)
theorem tw_19 : Cond.methodLink RL 107 yX6_init ∈ eg_T := eg_in 42 (by decide +kernel) (by decide +kernel)
theorem tw_20 : Cond.instanceMethod yX6_init ∈ eg_T := eg_in 43 (by decide +kernel) (by decide +kernel)
theorem tw_21 : Cond.code yX6_init cX6_init 1 none ∈ eg_T := eg_in 44 (by decide +kernel) (by decide +kernel)
theorem tw_22 : Cond.methodLink RX6 3 Lib.objectInit ∈ eg_T := eg_in 45 (by decide +kernel) (by decide +kernel)
theorem tw_23 : Cond.instanceMethod Lib.objectInit ∈ eg_T := eg_in 46 (by decide +kernel) (by decide +kernel)
theorem tw_24 : Cond.code Lib.objectInit ⟨#[0xb1]⟩ 1 none ∈ eg_T := eg_in 47 (by decide +kernel) (by decide +kernel)
theorem tw_25 : Cond.classLink RX6 9 RX0 ∈ eg_T := eg_in 48 (by decide +kernel) (by decide +kernel)
theorem tw_26 : Cond.arrayOver (.object RX0) ∈ lw_tbl := List.mem_of_getElem? (i := 49) (by decide +kernel)
theorem tw_27 : Cond.classLink RX6 15 RX3 ∈ eg_T := eg_in 50 (by decide +kernel) (by decide +kernel)
theorem tw_28 : Cond.arrayOver (.object RX3) ∈ lw_tbl := List.mem_of_getElem? (i := 51) (by decide +kernel)
theorem tw_29 : Cond.classLink RX6 21 RX5 ∈ eg_T := eg_in 52 (by decide +kernel) (by decide +kernel)
theorem tw_30 : Cond.instantiable RX5 5 ∈ eg_T := eg_in 53 (by decide +kernel) (by decide +kernel)
theorem tw_31 : Cond.methodLinkNest RX6 23 yX5_init RX6 ∈ lw_tbl := List.mem_of_getElem? (i := 54) (by decide +kernel)
theorem tw_32 : Cond.instanceMethod yX5_init ∈ eg_T := eg_in 55 (by decide +kernel) (by decide +kernel)
theorem tw_33 : Cond.code yX5_init cX5_init 1 none ∈ eg_T := eg_in 56 (by decide +kernel) (by decide +kernel)
theorem tw_34 : Cond.methodLink RX5 3 Lib.objectInit ∈ eg_T := eg_in 57 (by decide +kernel) (by decide +kernel)
theorem tw_35 : Cond.fieldLink RX5 9 RX5 "limit" "I" ∈ eg_T := eg_in 58 (by decide +kernel) (by decide +kernel)
theorem tw_36 : Cond.fieldLinkNest RX3 25 RX5 "count" "I" RX6 ∈ lw_tbl := List.mem_of_getElem? (i := 59) (by decide +kernel)
theorem tw_37 : Cond.fieldLink RX5 15 RX5 "count" "I" ∈ eg_T := eg_in 60 (by decide +kernel) (by decide +kernel)
theorem tw_38 : Cond.fieldLinkNest RX6 159 RX5 "count" "I" RX6 ∈ lw_tbl := List.mem_of_getElem? (i := 61) (by decide +kernel)
theorem tw_39 : Cond.fieldLink RX5 18 RX5 "loudCount" "I" ∈ eg_T := eg_in 62 (by decide +kernel) (by decide +kernel)
theorem tw_40 : Cond.fieldLinkNest RX3 36 RX5 "loudCount" "I" RX6 ∈ lw_tbl := List.mem_of_getElem? (i := 63) (by decide +kernel)
theorem tw_41 : Cond.fieldLinkNest RX6 169 RX5 "loudCount" "I" RX6 ∈ lw_tbl := List.mem_of_getElem? (i := 64) (by decide +kernel)
theorem tw_42 : Cond.fieldLinkNest RX3 30 RX5 "first" "I" RX6 ∈ lw_tbl := List.mem_of_getElem? (i := 65) (by decide +kernel)
theorem tw_43 : Cond.fieldLink RX5 21 RX5 "first" "I" ∈ eg_T := eg_in 66 (by decide +kernel) (by decide +kernel)
theorem tw_44 : Cond.fieldLinkNest RX6 172 RX5 "first" "I" RX6 ∈ lw_tbl := List.mem_of_getElem? (i := 67) (by decide +kernel)
theorem tw_45 : Cond.fieldLinkNest RX3 33 RX5 "last" "I" RX6 ∈ lw_tbl := List.mem_of_getElem? (i := 68) (by decide +kernel)
theorem tw_46 : Cond.fieldLink RX5 24 RX5 "last" "I" ∈ eg_T := eg_in 69 (by decide +kernel) (by decide +kernel)
theorem tw_47 : Cond.fieldLinkNest RX6 175 RX5 "last" "I" RX6 ∈ lw_tbl := List.mem_of_getElem? (i := 70) (by decide +kernel)
theorem tw_59 : Cond.classLink RX6 28 RX2 ∈ eg_T := eg_in 82 (by decide +kernel) (by decide +kernel)
theorem tw_60 : Cond.instantiable RX2 1 ∈ eg_T := eg_in 83 (by decide +kernel) (by decide +kernel)
theorem tw_61 : Cond.methodLinkNest RX6 30 yX2_init RX6 ∈ lw_tbl := List.mem_of_getElem? (i := 84) (by decide +kernel)
theorem tw_62 : Cond.instanceMethod yX2_init ∈ eg_T := eg_in 85 (by decide +kernel) (by decide +kernel)
theorem tw_63 : Cond.code yX2_init cX2_init 1 none ∈ eg_T := eg_in 86 (by decide +kernel) (by decide +kernel)
theorem tw_64 : Cond.methodLink RX2 3 Lib.objectInit ∈ eg_T := eg_in 87 (by decide +kernel) (by decide +kernel)
theorem tw_65 : Cond.fieldLink RX2 9 RX2 "added" "[I" ∈ eg_T := eg_in 88 (by decide +kernel) (by decide +kernel)
theorem tw_69 : Cond.arrayClass .int ∈ eg_T := eg_in 92 (by decide +kernel) (by decide +kernel)
theorem tw_70 : Cond.fieldLink RX6 11 RX6 "hallRow" "[LEchoBureau$Hall;" ∈ eg_T := eg_in 93 (by decide +kernel) (by decide +kernel)
theorem tw_71 : Cond.fieldLink RX6 17 RX6 "standardRow" "[LEchoBureau$Standard;" ∈ eg_T := eg_in 94 (by decide +kernel) (by decide +kernel)
theorem tw_72 : Cond.fieldLink RX6 39 RX6 "hallCount" "I" ∈ eg_T := eg_in 95 (by decide +kernel) (by decide +kernel)
theorem tw_73 : Cond.fieldLink RX6 101 RX6 "standardCount" "I" ∈ eg_T := eg_in 96 (by decide +kernel) (by decide +kernel)
theorem tw_74 : Cond.fieldLink RX6 141 RX6 "today" "I" ∈ eg_T := eg_in 97 (by decide +kernel) (by decide +kernel)
theorem tw_75 : Cond.fieldLink RX6 113 RX6 "inspectionCount" "I" ∈ eg_T := eg_in 98 (by decide +kernel) (by decide +kernel)
theorem tw_76 : Cond.fieldLink RX6 24 RX6 "tally" "LEchoBureau$Tally;" ∈ eg_T := eg_in 99 (by decide +kernel) (by decide +kernel)
theorem tw_77 : Cond.fieldLink RX6 31 RX6 "loudnesses" "LEchoBureau$Loudnesses;" ∈ eg_T := eg_in 100 (by decide +kernel) (by decide +kernel)
theorem tw_95 : Cond.methodLink RL 28 yX6_addHall ∈ eg_T := eg_in 118 (by decide +kernel) (by decide +kernel)
theorem tw_96 : Cond.instanceMethod yX6_addHall ∈ eg_T := eg_in 119 (by decide +kernel) (by decide +kernel)
theorem tw_97 : Cond.selects RX6 yX6_addHall yX6_addHall ∈ eg_T := eg_in 120 (by decide +kernel) (by decide +kernel)
theorem tw_98 : Cond.code yX6_addHall cX6_addHall 3 (some .int) ∈ eg_T := eg_in 121 (by decide +kernel) (by decide +kernel)
theorem tw_99 : Cond.methodLink RX6 35 yX6_checkDamping ∈ eg_T := eg_in 122 (by decide +kernel) (by decide +kernel)
theorem tw_100 : Cond.static yX6_checkDamping ∈ eg_T := eg_in 123 (by decide +kernel) (by decide +kernel)
theorem tw_101 : Cond.code yX6_checkDamping cX6_checkDamping 1 none ∈ eg_T := eg_in 124 (by decide +kernel) (by decide +kernel)
theorem tw_102 : Cond.methodLink RX6 59 yX6_isWithin ∈ eg_T := eg_in 125 (by decide +kernel) (by decide +kernel)
theorem tw_103 : Cond.static yX6_isWithin ∈ eg_T := eg_in 126 (by decide +kernel) (by decide +kernel)
theorem tw_104 : Cond.code yX6_isWithin cX6_isWithin 3 (some .boolean) ∈ eg_T := eg_in 127 (by decide +kernel) (by decide +kernel)
theorem tw_105 : Cond.classLink RX6 63 "java/lang/IllegalArgumentException" ∈ eg_T := eg_in 128 (by decide +kernel) (by decide +kernel)
theorem tw_106 : Cond.instantiable "java/lang/IllegalArgumentException" 6 ∈ eg_T := eg_in 129 (by decide +kernel) (by decide +kernel)
theorem tw_107 : Cond.castable "java/lang/IllegalArgumentException" "java/lang/IllegalArgumentException" ∈ lw_tbl := List.mem_of_getElem? (i := 130) (by decide +kernel)
theorem tw_108 : Cond.declares ⟨"java/lang/RuntimeException", "<init>", "()V"⟩ ∈ lw_tbl := List.mem_of_getElem? (i := 131) (by decide +kernel)
theorem tw_109 : Cond.declares ⟨"java/lang/RuntimeException", "<init>", "(Ljava/lang/String;)V"⟩ ∈ lw_tbl := List.mem_of_getElem? (i := 132) (by decide +kernel)
theorem tw_110 : Cond.declares ⟨"java/lang/Exception", "<init>", "()V"⟩ ∈ lw_tbl := List.mem_of_getElem? (i := 133) (by decide +kernel)
theorem tw_111 : Cond.declares ⟨"java/lang/Exception", "<init>", "(Ljava/lang/String;)V"⟩ ∈ lw_tbl := List.mem_of_getElem? (i := 134) (by decide +kernel)
theorem tw_112 : Cond.declares ⟨"java/lang/Throwable", "<init>", "()V"⟩ ∈ lw_tbl := List.mem_of_getElem? (i := 135) (by decide +kernel)
theorem tw_113 : Cond.declares ⟨"java/lang/Throwable", "<init>", "(Ljava/lang/String;)V"⟩ ∈ lw_tbl := List.mem_of_getElem? (i := 136) (by decide +kernel)
theorem tw_114 : Cond.selects "java/lang/IllegalArgumentException" ⟨"java/lang/Throwable", "fillInStackTrace", "(I)Ljava/lang/Throwable;"⟩ ⟨"java/lang/Throwable", "fillInStackTrace", "(I)Ljava/lang/Throwable;"⟩ ∈ eg_T := eg_in 137 (by decide +kernel) (by decide +kernel)
theorem tw_115 : Cond.selects "java/lang/IllegalArgumentException" ⟨"java/lang/Throwable", "fillInStackTrace", "()Ljava/lang/Throwable;"⟩ ⟨"java/lang/Throwable", "fillInStackTrace", "()Ljava/lang/Throwable;"⟩ ∈ eg_T := eg_in 138 (by decide +kernel) (by decide +kernel)
theorem tw_126 : Cond.fieldLink "java/lang/Throwable" 198 "java/lang/Throwable" "backtrace" "Ljava/lang/Object;" ∈ eg_T := eg_in 149 (by decide +kernel) (by decide +kernel)
theorem tw_128 : Cond.instanceMethod ⟨"java/lang/Throwable", "<init>", "()V"⟩ ∈ eg_T := eg_in 151 (by decide +kernel) (by decide +kernel)
theorem tw_129 : Cond.code ⟨"java/lang/Throwable", "<init>", "()V"⟩ prog_19_method_1_code 1 none ∈ eg_T := eg_in 152 (by decide +kernel) (by decide +kernel)
theorem tw_130 : Cond.methodLink "java/lang/Throwable" 1 Lib.objectInit ∈ eg_T := eg_in 153 (by decide +kernel) (by decide +kernel)
theorem tw_131 : Cond.fieldLink "java/lang/Throwable" 13 "java/lang/Throwable" "UNASSIGNED_STACK" "[Ljava/lang/StackTraceElement;" ∈ eg_T := eg_in 154 (by decide +kernel) (by decide +kernel)
theorem tw_133 : Cond.fieldLink "java/lang/Throwable" 20 "java/lang/Throwable" "SUPPRESSED_SENTINEL" "Ljava/util/List;" ∈ eg_T := eg_in 156 (by decide +kernel) (by decide +kernel)
theorem tw_135 : Cond.methodLink "java/lang/Throwable" 27 ⟨"java/lang/Throwable", "fillInStackTrace", "()Ljava/lang/Throwable;"⟩ ∈ eg_T := eg_in 158 (by decide +kernel) (by decide +kernel)
theorem tw_136 : Cond.instanceMethod ⟨"java/lang/Throwable", "fillInStackTrace", "()Ljava/lang/Throwable;"⟩ ∈ eg_T := eg_in 159 (by decide +kernel) (by decide +kernel)
theorem tw_138 : Cond.selects "java/lang/IllegalStateException" ⟨"java/lang/Throwable", "fillInStackTrace", "()Ljava/lang/Throwable;"⟩ ⟨"java/lang/Throwable", "fillInStackTrace", "()Ljava/lang/Throwable;"⟩ ∈ eg_T := eg_in 161 (by decide +kernel) (by decide +kernel)
theorem tw_139 : Cond.selects "java/lang/IndexOutOfBoundsException" ⟨"java/lang/Throwable", "fillInStackTrace", "()Ljava/lang/Throwable;"⟩ ⟨"java/lang/Throwable", "fillInStackTrace", "()Ljava/lang/Throwable;"⟩ ∈ eg_T := eg_in 162 (by decide +kernel) (by decide +kernel)
theorem tw_141 : Cond.methodLink "java/lang/Throwable" 202 ⟨"java/lang/Throwable", "fillInStackTrace", "(I)Ljava/lang/Throwable;"⟩ ∈ eg_T := eg_in 164 (by decide +kernel) (by decide +kernel)
theorem tw_143 : Cond.instanceMethod ⟨"java/lang/Throwable", "fillInStackTrace", "(I)Ljava/lang/Throwable;"⟩ ∈ eg_T := eg_in 166 (by decide +kernel) (by decide +kernel)
theorem tw_144 : Cond.instantiable "java/lang/Throwable" 6 ∈ eg_T := eg_in 167 (by decide +kernel) (by decide +kernel)
theorem tw_145 : Cond.native ⟨"java/lang/Throwable", "fillInStackTrace", "(I)Ljava/lang/Throwable;"⟩ ∈ eg_T := eg_in 168 (by decide +kernel) (by decide +kernel)
theorem tw_146 : Cond.stringRef RX6 219 "no such damping" ∈ lw_tbl := List.mem_of_getElem? (i := 169) (by decide +kernel)
theorem tw_147 : Cond.methodLink RX6 67 ⟨"java/lang/IllegalArgumentException", "<init>", "(Ljava/lang/String;)V"⟩ ∈ eg_T := eg_in 170 (by decide +kernel) (by decide +kernel)
theorem tw_148 : Cond.instanceMethod ⟨"java/lang/IllegalArgumentException", "<init>", "(Ljava/lang/String;)V"⟩ ∈ eg_T := eg_in 171 (by decide +kernel) (by decide +kernel)
theorem tw_149 : Cond.code ⟨"java/lang/IllegalArgumentException", "<init>", "(Ljava/lang/String;)V"⟩ prog_13_method_2_code 2 none ∈ eg_T := eg_in 172 (by decide +kernel) (by decide +kernel)
theorem tw_150 : Cond.methodLink "java/lang/IllegalArgumentException" 7 ⟨"java/lang/RuntimeException", "<init>", "(Ljava/lang/String;)V"⟩ ∈ eg_T := eg_in 173 (by decide +kernel) (by decide +kernel)
theorem tw_151 : Cond.instanceMethod ⟨"java/lang/RuntimeException", "<init>", "(Ljava/lang/String;)V"⟩ ∈ eg_T := eg_in 174 (by decide +kernel) (by decide +kernel)
theorem tw_152 : Cond.code ⟨"java/lang/RuntimeException", "<init>", "(Ljava/lang/String;)V"⟩ prog_17_method_2_code 2 none ∈ eg_T := eg_in 175 (by decide +kernel) (by decide +kernel)
theorem tw_153 : Cond.methodLink "java/lang/RuntimeException" 7 ⟨"java/lang/Exception", "<init>", "(Ljava/lang/String;)V"⟩ ∈ eg_T := eg_in 176 (by decide +kernel) (by decide +kernel)
theorem tw_154 : Cond.instanceMethod ⟨"java/lang/Exception", "<init>", "(Ljava/lang/String;)V"⟩ ∈ eg_T := eg_in 177 (by decide +kernel) (by decide +kernel)
theorem tw_155 : Cond.code ⟨"java/lang/Exception", "<init>", "(Ljava/lang/String;)V"⟩ prog_12_method_2_code 2 none ∈ eg_T := eg_in 178 (by decide +kernel) (by decide +kernel)
theorem tw_156 : Cond.methodLink "java/lang/Exception" 7 ⟨"java/lang/Throwable", "<init>", "(Ljava/lang/String;)V"⟩ ∈ eg_T := eg_in 179 (by decide +kernel) (by decide +kernel)
theorem tw_157 : Cond.instanceMethod ⟨"java/lang/Throwable", "<init>", "(Ljava/lang/String;)V"⟩ ∈ eg_T := eg_in 180 (by decide +kernel) (by decide +kernel)
theorem tw_158 : Cond.code ⟨"java/lang/Throwable", "<init>", "(Ljava/lang/String;)V"⟩ prog_19_method_2_code 2 none ∈ eg_T := eg_in 181 (by decide +kernel) (by decide +kernel)
theorem tw_159 : Cond.fieldLink "java/lang/Throwable" 198 "java/lang/Throwable" "backtrace" "Ljava/lang/Object;" ∈ eg_T := eg_in 182 (by decide +kernel) (by decide +kernel)
theorem tw_160 : Cond.fieldLink "java/lang/Throwable" 31 "java/lang/Throwable" "detailMessage" "Ljava/lang/String;" ∈ eg_T := eg_in 183 (by decide +kernel) (by decide +kernel)
theorem tw_161 : Cond.fieldLink "java/lang/Throwable" 7 "java/lang/Throwable" "cause" "Ljava/lang/Throwable;" ∈ eg_T := eg_in 184 (by decide +kernel) (by decide +kernel)
theorem tw_162 : Cond.fieldLink "java/lang/Throwable" 17 "java/lang/Throwable" "stackTrace" "[Ljava/lang/StackTraceElement;" ∈ eg_T := eg_in 185 (by decide +kernel) (by decide +kernel)
theorem tw_163 : Cond.fieldLink "java/lang/Throwable" 24 "java/lang/Throwable" "suppressedExceptions" "Ljava/util/List;" ∈ eg_T := eg_in 186 (by decide +kernel) (by decide +kernel)
theorem tw_172 : Cond.arrayClass .byte ∈ eg_T := eg_in 195 (by decide +kernel) (by decide +kernel)
theorem tw_173 : Cond.classLink RX6 43 "java/lang/IllegalStateException" ∈ eg_T := eg_in 196 (by decide +kernel) (by decide +kernel)
theorem tw_174 : Cond.instantiable "java/lang/IllegalStateException" 6 ∈ eg_T := eg_in 197 (by decide +kernel) (by decide +kernel)
theorem tw_175 : Cond.castable "java/lang/IllegalStateException" "java/lang/IllegalStateException" ∈ lw_tbl := List.mem_of_getElem? (i := 198) (by decide +kernel)
theorem tw_176 : Cond.selects "java/lang/IllegalStateException" ⟨"java/lang/Throwable", "fillInStackTrace", "(I)Ljava/lang/Throwable;"⟩ ⟨"java/lang/Throwable", "fillInStackTrace", "(I)Ljava/lang/Throwable;"⟩ ∈ eg_T := eg_in 199 (by decide +kernel) (by decide +kernel)
theorem tw_182 : Cond.stringRef RX6 45 "no room for another hall" ∈ lw_tbl := List.mem_of_getElem? (i := 205) (by decide +kernel)
theorem tw_183 : Cond.methodLink RX6 47 ⟨"java/lang/IllegalStateException", "<init>", "(Ljava/lang/String;)V"⟩ ∈ eg_T := eg_in 206 (by decide +kernel) (by decide +kernel)
theorem tw_184 : Cond.instanceMethod ⟨"java/lang/IllegalStateException", "<init>", "(Ljava/lang/String;)V"⟩ ∈ eg_T := eg_in 207 (by decide +kernel) (by decide +kernel)
theorem tw_185 : Cond.code ⟨"java/lang/IllegalStateException", "<init>", "(Ljava/lang/String;)V"⟩ prog_14_method_2_code 2 none ∈ eg_T := eg_in 208 (by decide +kernel) (by decide +kernel)
theorem tw_186 : Cond.methodLink "java/lang/IllegalStateException" 7 ⟨"java/lang/RuntimeException", "<init>", "(Ljava/lang/String;)V"⟩ ∈ eg_T := eg_in 209 (by decide +kernel) (by decide +kernel)
theorem tw_189 : Cond.instantiable RX0 6 ∈ eg_T := eg_in 212 (by decide +kernel) (by decide +kernel)
theorem tw_190 : Cond.methodLinkNest RX6 50 yX0_init RX6 ∈ lw_tbl := List.mem_of_getElem? (i := 213) (by decide +kernel)
theorem tw_191 : Cond.instanceMethod yX0_init ∈ eg_T := eg_in 214 (by decide +kernel) (by decide +kernel)
theorem tw_192 : Cond.code yX0_init cX0_init 2 none ∈ eg_T := eg_in 215 (by decide +kernel) (by decide +kernel)
theorem tw_193 : Cond.methodLink RX0 3 Lib.objectInit ∈ eg_T := eg_in 216 (by decide +kernel) (by decide +kernel)
theorem tw_194 : Cond.classLink RX0 9 RX4 ∈ eg_T := eg_in 217 (by decide +kernel) (by decide +kernel)
theorem tw_195 : Cond.arrayOver (.object RX4) ∈ lw_tbl := List.mem_of_getElem? (i := 218) (by decide +kernel)
theorem tw_196 : Cond.fieldLink RX0 11 RX0 "surfaces" "[LEchoBureau$Surface;" ∈ eg_T := eg_in 219 (by decide +kernel) (by decide +kernel)
theorem tw_197 : Cond.fieldLinkNest RX6 215 RX0 "surfaces" "[LEchoBureau$Surface;" RX6 ∈ lw_tbl := List.mem_of_getElem? (i := 220) (by decide +kernel)
theorem tw_198 : Cond.fieldLink RX0 24 RX0 "surfaceCount" "I" ∈ eg_T := eg_in 221 (by decide +kernel) (by decide +kernel)
theorem tw_199 : Cond.fieldLinkNest RX6 148 RX0 "surfaceCount" "I" RX6 ∈ lw_tbl := List.mem_of_getElem? (i := 222) (by decide +kernel)
theorem tw_200 : Cond.fieldLink RX0 21 RX0 "damping" "I" ∈ eg_T := eg_in 223 (by decide +kernel) (by decide +kernel)
theorem tw_201 : Cond.fieldLinkNest RX6 93 RX0 "damping" "I" RX6 ∈ lw_tbl := List.mem_of_getElem? (i := 224) (by decide +kernel)
theorem tw_202 : Cond.fieldLinkNest RX6 96 RX0 "dust" "I" RX6 ∈ lw_tbl := List.mem_of_getElem? (i := 225) (by decide +kernel)
theorem tw_203 : Cond.fieldLink RX0 30 RX0 "dust" "I" ∈ eg_T := eg_in 226 (by decide +kernel) (by decide +kernel)
theorem tw_204 : Cond.fieldLink RX0 17 RX0 "certificate" "I" ∈ eg_T := eg_in 227 (by decide +kernel) (by decide +kernel)
theorem tw_205 : Cond.fieldLinkNest RX6 126 RX0 "certificate" "I" RX6 ∈ lw_tbl := List.mem_of_getElem? (i := 228) (by decide +kernel)
theorem tw_206 : Cond.fieldLink RX0 27 RX0 "certificateDays" "I" ∈ eg_T := eg_in 229 (by decide +kernel) (by decide +kernel)
theorem tw_207 : Cond.fieldLinkNest RX6 133 RX0 "certificateDays" "I" RX6 ∈ lw_tbl := List.mem_of_getElem? (i := 230) (by decide +kernel)
theorem tw_221 : Cond.methodLink RL 45 yX6_addSurface ∈ eg_T := eg_in 244 (by decide +kernel) (by decide +kernel)
theorem tw_222 : Cond.instanceMethod yX6_addSurface ∈ eg_T := eg_in 245 (by decide +kernel) (by decide +kernel)
theorem tw_223 : Cond.selects RX6 yX6_addSurface yX6_addSurface ∈ eg_T := eg_in 246 (by decide +kernel) (by decide +kernel)
theorem tw_224 : Cond.code yX6_addSurface cX6_addSurface 5 (some .int) ∈ eg_T := eg_in 247 (by decide +kernel) (by decide +kernel)
theorem tw_225 : Cond.methodLink RX6 52 yX6_findHall ∈ eg_T := eg_in 248 (by decide +kernel) (by decide +kernel)
theorem tw_227 : Cond.instanceMethod yX6_findHall ∈ eg_T := eg_in 250 (by decide +kernel) (by decide +kernel)
theorem tw_228 : Cond.code yX6_findHall cX6_findHall 3 (some (.object "EchoBureau$Hall")) ∈ eg_T := eg_in 251 (by decide +kernel) (by decide +kernel)
theorem tw_229 : Cond.classLink RX6 227 "java/lang/IndexOutOfBoundsException" ∈ eg_T := eg_in 252 (by decide +kernel) (by decide +kernel)
theorem tw_230 : Cond.instantiable "java/lang/IndexOutOfBoundsException" 6 ∈ eg_T := eg_in 253 (by decide +kernel) (by decide +kernel)
theorem tw_231 : Cond.castable "java/lang/IndexOutOfBoundsException" "java/lang/IndexOutOfBoundsException" ∈ lw_tbl := List.mem_of_getElem? (i := 254) (by decide +kernel)
theorem tw_232 : Cond.selects "java/lang/IndexOutOfBoundsException" ⟨"java/lang/Throwable", "fillInStackTrace", "(I)Ljava/lang/Throwable;"⟩ ⟨"java/lang/Throwable", "fillInStackTrace", "(I)Ljava/lang/Throwable;"⟩ ∈ eg_T := eg_in 255 (by decide +kernel) (by decide +kernel)
theorem tw_238 : Cond.stringRef RX6 229 "no such hall" ∈ lw_tbl := List.mem_of_getElem? (i := 261) (by decide +kernel)
theorem tw_239 : Cond.methodLink RX6 231 ⟨"java/lang/IndexOutOfBoundsException", "<init>", "(Ljava/lang/String;)V"⟩ ∈ eg_T := eg_in 262 (by decide +kernel) (by decide +kernel)
theorem tw_240 : Cond.instanceMethod ⟨"java/lang/IndexOutOfBoundsException", "<init>", "(Ljava/lang/String;)V"⟩ ∈ eg_T := eg_in 263 (by decide +kernel) (by decide +kernel)
theorem tw_241 : Cond.code ⟨"java/lang/IndexOutOfBoundsException", "<init>", "(Ljava/lang/String;)V"⟩ prog_15_method_2_code 2 none ∈ eg_T := eg_in 264 (by decide +kernel) (by decide +kernel)
theorem tw_242 : Cond.methodLink "java/lang/IndexOutOfBoundsException" 7 ⟨"java/lang/RuntimeException", "<init>", "(Ljava/lang/String;)V"⟩ ∈ eg_T := eg_in 265 (by decide +kernel) (by decide +kernel)
theorem tw_245 : Cond.stringRef RX6 232 "no such hall yet" ∈ lw_tbl := List.mem_of_getElem? (i := 268) (by decide +kernel)
theorem tw_246 : Cond.methodLink RX6 56 yX6_checkDistance ∈ eg_T := eg_in 269 (by decide +kernel) (by decide +kernel)
theorem tw_247 : Cond.static yX6_checkDistance ∈ eg_T := eg_in 270 (by decide +kernel) (by decide +kernel)
theorem tw_248 : Cond.code yX6_checkDistance cX6_checkDistance 1 none ∈ eg_T := eg_in 271 (by decide +kernel) (by decide +kernel)
theorem tw_249 : Cond.stringRef RX6 221 "no such distance" ∈ lw_tbl := List.mem_of_getElem? (i := 272) (by decide +kernel)
theorem tw_250 : Cond.stringRef RX6 65 "no such hardness" ∈ lw_tbl := List.mem_of_getElem? (i := 273) (by decide +kernel)
theorem tw_251 : Cond.methodLinkNest RX6 68 yX0_isFull RX6 ∈ lw_tbl := List.mem_of_getElem? (i := 274) (by decide +kernel)
theorem tw_253 : Cond.instanceMethod yX0_isFull ∈ eg_T := eg_in 276 (by decide +kernel) (by decide +kernel)
theorem tw_254 : Cond.code yX0_isFull cX0_isFull 1 (some .boolean) ∈ eg_T := eg_in 277 (by decide +kernel) (by decide +kernel)
theorem tw_255 : Cond.stringRef RX6 72 "no room for another surface" ∈ lw_tbl := List.mem_of_getElem? (i := 278) (by decide +kernel)
theorem tw_256 : Cond.methodLinkNest RX6 74 yX0_loseCertificate RX6 ∈ lw_tbl := List.mem_of_getElem? (i := 279) (by decide +kernel)
theorem tw_258 : Cond.instanceMethod yX0_loseCertificate ∈ eg_T := eg_in 281 (by decide +kernel) (by decide +kernel)
theorem tw_259 : Cond.code yX0_loseCertificate cX0_loseCertificate 1 none ∈ eg_T := eg_in 282 (by decide +kernel) (by decide +kernel)
theorem tw_260 : Cond.classLink RX6 77 RX4 ∈ eg_T := eg_in 283 (by decide +kernel) (by decide +kernel)
theorem tw_261 : Cond.instantiable RX4 2 ∈ eg_T := eg_in 284 (by decide +kernel) (by decide +kernel)
theorem tw_262 : Cond.methodLinkNest RX6 79 yX4_init RX6 ∈ lw_tbl := List.mem_of_getElem? (i := 285) (by decide +kernel)
theorem tw_263 : Cond.instanceMethod yX4_init ∈ eg_T := eg_in 286 (by decide +kernel) (by decide +kernel)
theorem tw_264 : Cond.code yX4_init cX4_init 3 none ∈ eg_T := eg_in 287 (by decide +kernel) (by decide +kernel)
theorem tw_265 : Cond.methodLink RX4 3 Lib.objectInit ∈ eg_T := eg_in 288 (by decide +kernel) (by decide +kernel)
theorem tw_266 : Cond.fieldLink RX4 15 RX4 "hardnessAsBuilt" "I" ∈ eg_T := eg_in 289 (by decide +kernel) (by decide +kernel)
theorem tw_267 : Cond.fieldLink RX4 9 RX4 "distance" "I" ∈ eg_T := eg_in 290 (by decide +kernel) (by decide +kernel)
theorem tw_268 : Cond.fieldLinkNest RX6 90 RX4 "distance" "I" RX6 ∈ lw_tbl := List.mem_of_getElem? (i := 291) (by decide +kernel)
theorem tw_274 : Cond.methodLinkNest RX6 82 yX0_build RX6 ∈ lw_tbl := List.mem_of_getElem? (i := 297) (by decide +kernel)
theorem tw_276 : Cond.instanceMethod yX0_build ∈ eg_T := eg_in 299 (by decide +kernel) (by decide +kernel)
theorem tw_277 : Cond.code yX0_build cX0_build 3 (some .int) ∈ eg_T := eg_in 300 (by decide +kernel) (by decide +kernel)
theorem tw_278 : Cond.methodLink RL 120 yX6_surfacesOf ∈ eg_T := eg_in 301 (by decide +kernel) (by decide +kernel)
theorem tw_279 : Cond.instanceMethod yX6_surfacesOf ∈ eg_T := eg_in 302 (by decide +kernel) (by decide +kernel)
theorem tw_280 : Cond.selects RX6 yX6_surfacesOf yX6_surfacesOf ∈ eg_T := eg_in 303 (by decide +kernel) (by decide +kernel)
theorem tw_281 : Cond.code yX6_surfacesOf cX6_surfacesOf 2 (some .int) ∈ eg_T := eg_in 304 (by decide +kernel) (by decide +kernel)
theorem tw_282 : Cond.methodLink RL 130 yX6_distanceOf ∈ eg_T := eg_in 305 (by decide +kernel) (by decide +kernel)
theorem tw_283 : Cond.instanceMethod yX6_distanceOf ∈ eg_T := eg_in 306 (by decide +kernel) (by decide +kernel)
theorem tw_284 : Cond.selects RX6 yX6_distanceOf yX6_distanceOf ∈ eg_T := eg_in 307 (by decide +kernel) (by decide +kernel)
theorem tw_285 : Cond.code yX6_distanceOf cX6_distanceOf 3 (some .int) ∈ eg_T := eg_in 308 (by decide +kernel) (by decide +kernel)
theorem tw_286 : Cond.methodLink RX6 86 yX6_findSurface ∈ eg_T := eg_in 309 (by decide +kernel) (by decide +kernel)
theorem tw_287 : Cond.static yX6_findSurface ∈ eg_T := eg_in 310 (by decide +kernel) (by decide +kernel)
theorem tw_288 : Cond.code yX6_findSurface cX6_findSurface 3 (some (.object "EchoBureau$Surface")) ∈ eg_T := eg_in 311 (by decide +kernel) (by decide +kernel)
theorem tw_289 : Cond.stringRef RX6 238 "no such surface" ∈ lw_tbl := List.mem_of_getElem? (i := 312) (by decide +kernel)
theorem tw_290 : Cond.stringRef RX6 240 "no such surface yet" ∈ lw_tbl := List.mem_of_getElem? (i := 313) (by decide +kernel)
theorem tw_291 : Cond.methodLink RL 133 yX6_hardnessOf ∈ eg_T := eg_in 314 (by decide +kernel) (by decide +kernel)
theorem tw_292 : Cond.instanceMethod yX6_hardnessOf ∈ eg_T := eg_in 315 (by decide +kernel) (by decide +kernel)
theorem tw_293 : Cond.selects RX6 yX6_hardnessOf yX6_hardnessOf ∈ eg_T := eg_in 316 (by decide +kernel) (by decide +kernel)
theorem tw_294 : Cond.code yX6_hardnessOf cX6_hardnessOf 4 (some .int) ∈ eg_T := eg_in 317 (by decide +kernel) (by decide +kernel)
theorem tw_295 : Cond.methodLinkNest RX6 151 yX4_hardnessUnder RX6 ∈ lw_tbl := List.mem_of_getElem? (i := 318) (by decide +kernel)
theorem tw_297 : Cond.instanceMethod yX4_hardnessUnder ∈ eg_T := eg_in 320 (by decide +kernel) (by decide +kernel)
theorem tw_298 : Cond.code yX4_hardnessUnder cX4_hardnessUnder 2 (some .int) ∈ eg_T := eg_in 321 (by decide +kernel) (by decide +kernel)
theorem tw_299 : Cond.methodLink RX4 18 Lib.Math.max.name ∈ eg_T := eg_in 322 (by decide +kernel) (by decide +kernel)
theorem tw_300 : Cond.static Lib.Math.max.name ∈ eg_T := eg_in 323 (by decide +kernel) (by decide +kernel)
theorem tw_301 : Cond.code Lib.Math.max.name Lib.Math.max.code 2 (some .int) ∈ eg_T := eg_in 324 (by decide +kernel) (by decide +kernel)
theorem tw_302 : Cond.methodLink RL 117 yX6_dampingOf ∈ eg_T := eg_in 325 (by decide +kernel) (by decide +kernel)
theorem tw_303 : Cond.instanceMethod yX6_dampingOf ∈ eg_T := eg_in 326 (by decide +kernel) (by decide +kernel)
theorem tw_304 : Cond.selects RX6 yX6_dampingOf yX6_dampingOf ∈ eg_T := eg_in 327 (by decide +kernel) (by decide +kernel)
theorem tw_305 : Cond.code yX6_dampingOf cX6_dampingOf 2 (some .int) ∈ eg_T := eg_in 328 (by decide +kernel) (by decide +kernel)
theorem tw_306 : Cond.methodLink RL 114 yX6_dustOf ∈ eg_T := eg_in 329 (by decide +kernel) (by decide +kernel)
theorem tw_307 : Cond.instanceMethod yX6_dustOf ∈ eg_T := eg_in 330 (by decide +kernel) (by decide +kernel)
theorem tw_308 : Cond.selects RX6 yX6_dustOf yX6_dustOf ∈ eg_T := eg_in 331 (by decide +kernel) (by decide +kernel)
theorem tw_309 : Cond.code yX6_dustOf cX6_dustOf 2 (some .int) ∈ eg_T := eg_in 332 (by decide +kernel) (by decide +kernel)
theorem tw_310 : Cond.methodLink RL 136 yX6_echoes ∈ eg_T := eg_in 333 (by decide +kernel) (by decide +kernel)
theorem tw_311 : Cond.instanceMethod yX6_echoes ∈ eg_T := eg_in 334 (by decide +kernel) (by decide +kernel)
theorem tw_312 : Cond.selects RX6 yX6_echoes yX6_echoes ∈ eg_T := eg_in 335 (by decide +kernel) (by decide +kernel)
theorem tw_313 : Cond.code yX6_echoes cX6_echoes 3 (some .int) ∈ eg_T := eg_in 336 (by decide +kernel) (by decide +kernel)
theorem tw_314 : Cond.methodLink RX6 155 yX6_tallyOfClick ∈ eg_T := eg_in 337 (by decide +kernel) (by decide +kernel)
theorem tw_316 : Cond.instanceMethod yX6_tallyOfClick ∈ eg_T := eg_in 339 (by decide +kernel) (by decide +kernel)
theorem tw_317 : Cond.code yX6_tallyOfClick cX6_tallyOfClick 4 (some (.object "EchoBureau$Tally")) ∈ eg_T := eg_in 340 (by decide +kernel) (by decide +kernel)
theorem tw_318 : Cond.methodLink RX6 162 yX6_checkLoudness ∈ eg_T := eg_in 341 (by decide +kernel) (by decide +kernel)
theorem tw_319 : Cond.static yX6_checkLoudness ∈ eg_T := eg_in 342 (by decide +kernel) (by decide +kernel)
theorem tw_320 : Cond.code yX6_checkLoudness cX6_checkLoudness 1 none ∈ eg_T := eg_in 343 (by decide +kernel) (by decide +kernel)
theorem tw_321 : Cond.stringRef RX6 223 "no such loudness" ∈ lw_tbl := List.mem_of_getElem? (i := 344) (by decide +kernel)
theorem tw_322 : Cond.methodLink RX6 165 yX6_tallyOf ∈ eg_T := eg_in 345 (by decide +kernel) (by decide +kernel)
theorem tw_324 : Cond.instanceMethod yX6_tallyOf ∈ eg_T := eg_in 347 (by decide +kernel) (by decide +kernel)
theorem tw_325 : Cond.code yX6_tallyOf cX6_tallyOf 4 (some (.object "EchoBureau$Tally")) ∈ eg_T := eg_in 348 (by decide +kernel) (by decide +kernel)
theorem tw_326 : Cond.methodLinkNest RX6 242 yX5_begin RX6 ∈ lw_tbl := List.mem_of_getElem? (i := 349) (by decide +kernel)
theorem tw_328 : Cond.instanceMethod yX5_begin ∈ eg_T := eg_in 351 (by decide +kernel) (by decide +kernel)
theorem tw_329 : Cond.code yX5_begin cX5_begin 2 none ∈ eg_T := eg_in 352 (by decide +kernel) (by decide +kernel)
theorem tw_330 : Cond.methodLinkNest RX6 245 yX0_throwBack RX6 ∈ lw_tbl := List.mem_of_getElem? (i := 353) (by decide +kernel)
theorem tw_332 : Cond.instanceMethod yX0_throwBack ∈ eg_T := eg_in 355 (by decide +kernel) (by decide +kernel)
theorem tw_333 : Cond.code yX0_throwBack cX0_throwBack 9 none ∈ eg_T := eg_in 356 (by decide +kernel) (by decide +kernel)
theorem tw_334 : Cond.methodLinkNest RX0 46 yX4_throwRow RX6 ∈ lw_tbl := List.mem_of_getElem? (i := 357) (by decide +kernel)
theorem tw_336 : Cond.instanceMethod yX4_throwRow ∈ eg_T := eg_in 359 (by decide +kernel) (by decide +kernel)
theorem tw_337 : Cond.code yX4_throwRow cX4_throwRow 9 none ∈ eg_T := eg_in 360 (by decide +kernel) (by decide +kernel)
theorem tw_338 : Cond.methodLink RX4 24 yX4_hardnessUnder ∈ eg_T := eg_in 361 (by decide +kernel) (by decide +kernel)
theorem tw_340 : Cond.methodLink RX4 28 ⟨"EchoBureau$Listener", "hear", "(II)V"⟩ ∈ eg_T := eg_in 363 (by decide +kernel) (by decide +kernel)
theorem tw_342 : Cond.declares ⟨"EchoBureau$Listener", "hear", "(II)V"⟩ ∈ lw_tbl := List.mem_of_getElem? (i := 365) (by decide +kernel)
theorem tw_343 : Cond.castable "EchoBureau$Loudnesses" "EchoBureau$Listener" ∈ lw_tbl := List.mem_of_getElem? (i := 366) (by decide +kernel)
theorem tw_344 : Cond.selects RX2 ⟨"EchoBureau$Listener", "hear", "(II)V"⟩ yX2_hear ∈ eg_T := eg_in 367 (by decide +kernel) (by decide +kernel)
theorem tw_346 : Cond.instanceMethod yX2_hear ∈ eg_T := eg_in 369 (by decide +kernel) (by decide +kernel)
theorem tw_347 : Cond.publicMethod yX2_hear ∈ lw_tbl := List.mem_of_getElem? (i := 370) (by decide +kernel)
theorem tw_348 : Cond.code yX2_hear cX2_hear 4 none ∈ eg_T := eg_in 371 (by decide +kernel) (by decide +kernel)
theorem tw_349 : Cond.castable "EchoBureau$Tally" "EchoBureau$Listener" ∈ lw_tbl := List.mem_of_getElem? (i := 372) (by decide +kernel)
theorem tw_350 : Cond.selects RX5 ⟨"EchoBureau$Listener", "hear", "(II)V"⟩ yX5_hear ∈ eg_T := eg_in 373 (by decide +kernel) (by decide +kernel)
theorem tw_352 : Cond.instanceMethod yX5_hear ∈ eg_T := eg_in 375 (by decide +kernel) (by decide +kernel)
theorem tw_353 : Cond.publicMethod yX5_hear ∈ lw_tbl := List.mem_of_getElem? (i := 376) (by decide +kernel)
theorem tw_354 : Cond.code yX5_hear cX5_hear 3 none ∈ eg_T := eg_in 377 (by decide +kernel) (by decide +kernel)
theorem tw_355 : Cond.methodLink RL 139 yX6_loudEchoes ∈ eg_T := eg_in 378 (by decide +kernel) (by decide +kernel)
theorem tw_356 : Cond.instanceMethod yX6_loudEchoes ∈ eg_T := eg_in 379 (by decide +kernel) (by decide +kernel)
theorem tw_357 : Cond.selects RX6 yX6_loudEchoes yX6_loudEchoes ∈ eg_T := eg_in 380 (by decide +kernel) (by decide +kernel)
theorem tw_358 : Cond.code yX6_loudEchoes cX6_loudEchoes 5 (some .int) ∈ eg_T := eg_in 381 (by decide +kernel) (by decide +kernel)
theorem tw_359 : Cond.methodLink RL 145 yX6_firstEcho ∈ eg_T := eg_in 382 (by decide +kernel) (by decide +kernel)
theorem tw_360 : Cond.instanceMethod yX6_firstEcho ∈ eg_T := eg_in 383 (by decide +kernel) (by decide +kernel)
theorem tw_361 : Cond.selects RX6 yX6_firstEcho yX6_firstEcho ∈ eg_T := eg_in 384 (by decide +kernel) (by decide +kernel)
theorem tw_362 : Cond.code yX6_firstEcho cX6_firstEcho 3 (some .int) ∈ eg_T := eg_in 385 (by decide +kernel) (by decide +kernel)
theorem tw_363 : Cond.methodLink RL 148 yX6_lastEcho ∈ eg_T := eg_in 386 (by decide +kernel) (by decide +kernel)
theorem tw_364 : Cond.instanceMethod yX6_lastEcho ∈ eg_T := eg_in 387 (by decide +kernel) (by decide +kernel)
theorem tw_365 : Cond.selects RX6 yX6_lastEcho yX6_lastEcho ∈ eg_T := eg_in 388 (by decide +kernel) (by decide +kernel)
theorem tw_366 : Cond.code yX6_lastEcho cX6_lastEcho 3 (some .int) ∈ eg_T := eg_in 389 (by decide +kernel) (by decide +kernel)
theorem tw_367 : Cond.methodLink RL 142 yX6_loudnessAt ∈ eg_T := eg_in 390 (by decide +kernel) (by decide +kernel)
theorem tw_368 : Cond.instanceMethod yX6_loudnessAt ∈ eg_T := eg_in 391 (by decide +kernel) (by decide +kernel)
theorem tw_369 : Cond.selects RX6 yX6_loudnessAt yX6_loudnessAt ∈ eg_T := eg_in 392 (by decide +kernel) (by decide +kernel)
theorem tw_370 : Cond.code yX6_loudnessAt cX6_loudnessAt 5 (some .int) ∈ eg_T := eg_in 393 (by decide +kernel) (by decide +kernel)
theorem tw_371 : Cond.stringRef RX6 178 "no such moment" ∈ lw_tbl := List.mem_of_getElem? (i := 394) (by decide +kernel)
theorem tw_372 : Cond.methodLink RX6 180 yX6_loudnessesOf ∈ eg_T := eg_in 395 (by decide +kernel) (by decide +kernel)
theorem tw_374 : Cond.instanceMethod yX6_loudnessesOf ∈ eg_T := eg_in 397 (by decide +kernel) (by decide +kernel)
theorem tw_375 : Cond.code yX6_loudnessesOf cX6_loudnessesOf 3 (some (.object "EchoBureau$Loudnesses")) ∈ eg_T := eg_in 398 (by decide +kernel) (by decide +kernel)
theorem tw_376 : Cond.methodLinkNest RX6 249 yX2_begin RX6 ∈ lw_tbl := List.mem_of_getElem? (i := 399) (by decide +kernel)
theorem tw_378 : Cond.instanceMethod yX2_begin ∈ eg_T := eg_in 401 (by decide +kernel) (by decide +kernel)
theorem tw_379 : Cond.code yX2_begin cX2_begin 1 none ∈ eg_T := eg_in 402 (by decide +kernel) (by decide +kernel)
theorem tw_380 : Cond.methodLink RX2 15 yJ7_fill_53178 ∈ eg_T := eg_in 403 (by decide +kernel) (by decide +kernel)
theorem tw_381 : Cond.static yJ7_fill_53178 ∈ eg_T := eg_in 404 (by decide +kernel) (by decide +kernel)
theorem tw_382 : Cond.code yJ7_fill_53178 cJ7_fill_53178 4 none ∈ eg_T := eg_in 405 (by decide +kernel) (by decide +kernel)
theorem tw_383 : Cond.methodLinkNest RX6 184 yX2_addedAt RX6 ∈ lw_tbl := List.mem_of_getElem? (i := 406) (by decide +kernel)
theorem tw_385 : Cond.instanceMethod yX2_addedAt ∈ eg_T := eg_in 408 (by decide +kernel) (by decide +kernel)
theorem tw_386 : Cond.code yX2_addedAt cX2_addedAt 4 (some .int) ∈ eg_T := eg_in 409 (by decide +kernel) (by decide +kernel)
theorem tw_387 : Cond.methodLink RL 166 yX6_meets ∈ eg_T := eg_in 410 (by decide +kernel) (by decide +kernel)
theorem tw_388 : Cond.instanceMethod yX6_meets ∈ eg_T := eg_in 411 (by decide +kernel) (by decide +kernel)
theorem tw_389 : Cond.selects RX6 yX6_meets yX6_meets ∈ eg_T := eg_in 412 (by decide +kernel) (by decide +kernel)
theorem tw_390 : Cond.code yX6_meets cX6_meets 4 (some .boolean) ∈ eg_T := eg_in 413 (by decide +kernel) (by decide +kernel)
theorem tw_391 : Cond.methodLink RX6 109 yX6_findStandard ∈ eg_T := eg_in 414 (by decide +kernel) (by decide +kernel)
theorem tw_393 : Cond.instanceMethod yX6_findStandard ∈ eg_T := eg_in 416 (by decide +kernel) (by decide +kernel)
theorem tw_394 : Cond.code yX6_findStandard cX6_findStandard 3 (some (.object "EchoBureau$Standard")) ∈ eg_T := eg_in 417 (by decide +kernel) (by decide +kernel)
theorem tw_395 : Cond.stringRef RX6 234 "no such standard" ∈ lw_tbl := List.mem_of_getElem? (i := 418) (by decide +kernel)
theorem tw_396 : Cond.stringRef RX6 236 "no such standard yet" ∈ lw_tbl := List.mem_of_getElem? (i := 419) (by decide +kernel)
theorem tw_397 : Cond.methodLink RX6 116 yX6_meetsNow ∈ eg_T := eg_in 420 (by decide +kernel) (by decide +kernel)
theorem tw_399 : Cond.instanceMethod yX6_meetsNow ∈ eg_T := eg_in 422 (by decide +kernel) (by decide +kernel)
theorem tw_400 : Cond.code yX6_meetsNow cX6_meetsNow 3 (some .boolean) ∈ eg_T := eg_in 423 (by decide +kernel) (by decide +kernel)
theorem tw_401 : Cond.methodLink RX6 193 yX6_wouldMeet ∈ eg_T := eg_in 424 (by decide +kernel) (by decide +kernel)
theorem tw_403 : Cond.instanceMethod yX6_wouldMeet ∈ eg_T := eg_in 426 (by decide +kernel) (by decide +kernel)
theorem tw_404 : Cond.code yX6_wouldMeet cX6_wouldMeet 5 (some .boolean) ∈ eg_T := eg_in 427 (by decide +kernel) (by decide +kernel)
theorem tw_405 : Cond.methodLinkNest RX6 254 yX3_allows RX6 ∈ lw_tbl := List.mem_of_getElem? (i := 428) (by decide +kernel)
theorem tw_407 : Cond.instanceMethod yX3_allows ∈ eg_T := eg_in 430 (by decide +kernel) (by decide +kernel)
theorem tw_408 : Cond.instantiable RX3 5 ∈ eg_T := eg_in 431 (by decide +kernel) (by decide +kernel)
theorem tw_409 : Cond.code yX3_allows cX3_allows 2 (some .boolean) ∈ eg_T := eg_in 432 (by decide +kernel) (by decide +kernel)
theorem tw_410 : Cond.methodLink RL 172 yX6_hallsMeeting ∈ eg_T := eg_in 433 (by decide +kernel) (by decide +kernel)
theorem tw_411 : Cond.instanceMethod yX6_hallsMeeting ∈ eg_T := eg_in 434 (by decide +kernel) (by decide +kernel)
theorem tw_412 : Cond.selects RX6 yX6_hallsMeeting yX6_hallsMeeting ∈ eg_T := eg_in 435 (by decide +kernel) (by decide +kernel)
theorem tw_413 : Cond.code yX6_hallsMeeting cX6_hallsMeeting 8 (some .int) ∈ eg_T := eg_in 436 (by decide +kernel) (by decide +kernel)
theorem tw_414 : Cond.methodLink RL 123 yX6_isCertified ∈ eg_T := eg_in 437 (by decide +kernel) (by decide +kernel)
theorem tw_415 : Cond.instanceMethod yX6_isCertified ∈ eg_T := eg_in 438 (by decide +kernel) (by decide +kernel)
theorem tw_416 : Cond.selects RX6 yX6_isCertified yX6_isCertified ∈ eg_T := eg_in 439 (by decide +kernel) (by decide +kernel)
theorem tw_417 : Cond.code yX6_isCertified cX6_isCertified 2 (some .boolean) ∈ eg_T := eg_in 440 (by decide +kernel) (by decide +kernel)
theorem tw_418 : Cond.methodLinkNest RX6 190 yX0_hasCertificate RX6 ∈ lw_tbl := List.mem_of_getElem? (i := 441) (by decide +kernel)
theorem tw_420 : Cond.instanceMethod yX0_hasCertificate ∈ eg_T := eg_in 443 (by decide +kernel) (by decide +kernel)
theorem tw_421 : Cond.code yX0_hasCertificate cX0_hasCertificate 1 (some .boolean) ∈ eg_T := eg_in 444 (by decide +kernel) (by decide +kernel)
theorem tw_422 : Cond.methodLink RL 127 yX6_daysLeft ∈ eg_T := eg_in 445 (by decide +kernel) (by decide +kernel)
theorem tw_423 : Cond.instanceMethod yX6_daysLeft ∈ eg_T := eg_in 446 (by decide +kernel) (by decide +kernel)
theorem tw_424 : Cond.selects RX6 yX6_daysLeft yX6_daysLeft ∈ eg_T := eg_in 447 (by decide +kernel) (by decide +kernel)
theorem tw_425 : Cond.code yX6_daysLeft cX6_daysLeft 2 (some .int) ∈ eg_T := eg_in 448 (by decide +kernel) (by decide +kernel)
theorem tw_426 : Cond.methodLink RL 112 yX6_halls ∈ eg_T := eg_in 449 (by decide +kernel) (by decide +kernel)
theorem tw_427 : Cond.instanceMethod yX6_halls ∈ eg_T := eg_in 450 (by decide +kernel) (by decide +kernel)
theorem tw_428 : Cond.selects RX6 yX6_halls yX6_halls ∈ eg_T := eg_in 451 (by decide +kernel) (by decide +kernel)
theorem tw_429 : Cond.code yX6_halls cX6_halls 1 (some .int) ∈ eg_T := eg_in 452 (by decide +kernel) (by decide +kernel)
theorem tw_430 : Cond.methodLink RL 163 yX6_standards ∈ eg_T := eg_in 453 (by decide +kernel) (by decide +kernel)
theorem tw_431 : Cond.instanceMethod yX6_standards ∈ eg_T := eg_in 454 (by decide +kernel) (by decide +kernel)
theorem tw_432 : Cond.selects RX6 yX6_standards yX6_standards ∈ eg_T := eg_in 455 (by decide +kernel) (by decide +kernel)
theorem tw_433 : Cond.code yX6_standards cX6_standards 1 (some .int) ∈ eg_T := eg_in 456 (by decide +kernel) (by decide +kernel)
theorem tw_434 : Cond.methodLink RL 156 yX6_certifiedHalls ∈ eg_T := eg_in 457 (by decide +kernel) (by decide +kernel)
theorem tw_435 : Cond.instanceMethod yX6_certifiedHalls ∈ eg_T := eg_in 458 (by decide +kernel) (by decide +kernel)
theorem tw_436 : Cond.selects RX6 yX6_certifiedHalls yX6_certifiedHalls ∈ eg_T := eg_in 459 (by decide +kernel) (by decide +kernel)
theorem tw_437 : Cond.code yX6_certifiedHalls cX6_certifiedHalls 1 (some .int) ∈ eg_T := eg_in 460 (by decide +kernel) (by decide +kernel)
theorem tw_438 : Cond.methodLink RX6 144 yX6_countCertified ∈ eg_T := eg_in 461 (by decide +kernel) (by decide +kernel)
theorem tw_440 : Cond.instanceMethod yX6_countCertified ∈ eg_T := eg_in 463 (by decide +kernel) (by decide +kernel)
theorem tw_441 : Cond.code yX6_countCertified cX6_countCertified 6 (some .int) ∈ eg_T := eg_in 464 (by decide +kernel) (by decide +kernel)
theorem tw_442 : Cond.methodLink RL 168 yX6_meetsWithDamping ∈ eg_T := eg_in 465 (by decide +kernel) (by decide +kernel)
theorem tw_443 : Cond.instanceMethod yX6_meetsWithDamping ∈ eg_T := eg_in 466 (by decide +kernel) (by decide +kernel)
theorem tw_444 : Cond.selects RX6 yX6_meetsWithDamping yX6_meetsWithDamping ∈ eg_T := eg_in 467 (by decide +kernel) (by decide +kernel)
theorem tw_445 : Cond.code yX6_meetsWithDamping cX6_meetsWithDamping 6 (some .boolean) ∈ eg_T := eg_in 468 (by decide +kernel) (by decide +kernel)
theorem tw_446 : Cond.methodLink RL 159 yX6_meanDamping ∈ eg_T := eg_in 469 (by decide +kernel) (by decide +kernel)
theorem tw_447 : Cond.instanceMethod yX6_meanDamping ∈ eg_T := eg_in 470 (by decide +kernel) (by decide +kernel)
theorem tw_448 : Cond.selects RX6 yX6_meanDamping yX6_meanDamping ∈ eg_T := eg_in 471 (by decide +kernel) (by decide +kernel)
theorem tw_449 : Cond.code yX6_meanDamping cX6_meanDamping 6 (some .double) ∈ eg_T := eg_in 472 (by decide +kernel) (by decide +kernel)
theorem tw_450 : Cond.methodLink RL 175 yX8_isSame ∈ eg_T := eg_in 473 (by decide +kernel) (by decide +kernel)
theorem tw_451 : Cond.instanceMethod yX8_isSame ∈ eg_T := eg_in 474 (by decide +kernel) (by decide +kernel)
theorem tw_452 : Cond.selects RX8 yX8_isSame yX8_isSame ∈ eg_T := eg_in 475 (by decide +kernel) (by decide +kernel)
theorem tw_453 : Cond.code yX8_isSame cX8_isSame 8 (some .boolean) ∈ eg_T := eg_in 476 (by decide +kernel) (by decide +kernel)
theorem tw_454 : Cond.methodLink RX8 37 yX6_halls ∈ eg_T := eg_in 477 (by decide +kernel) (by decide +kernel)
theorem tw_455 : Cond.methodLink RX8 42 yX6_standards ∈ eg_T := eg_in 478 (by decide +kernel) (by decide +kernel)
theorem tw_456 : Cond.methodLink RX8 45 yX6_day ∈ eg_T := eg_in 479 (by decide +kernel) (by decide +kernel)
theorem tw_457 : Cond.instanceMethod yX6_day ∈ eg_T := eg_in 480 (by decide +kernel) (by decide +kernel)
theorem tw_458 : Cond.selects RX6 yX6_day yX6_day ∈ eg_T := eg_in 481 (by decide +kernel) (by decide +kernel)
theorem tw_459 : Cond.code yX6_day cX6_day 1 (some .int) ∈ eg_T := eg_in 482 (by decide +kernel) (by decide +kernel)
theorem tw_460 : Cond.methodLink RX8 47 yX6_inspections ∈ eg_T := eg_in 483 (by decide +kernel) (by decide +kernel)
theorem tw_461 : Cond.instanceMethod yX6_inspections ∈ eg_T := eg_in 484 (by decide +kernel) (by decide +kernel)
theorem tw_462 : Cond.selects RX6 yX6_inspections yX6_inspections ∈ eg_T := eg_in 485 (by decide +kernel) (by decide +kernel)
theorem tw_463 : Cond.code yX6_inspections cX6_inspections 1 (some .int) ∈ eg_T := eg_in 486 (by decide +kernel) (by decide +kernel)
theorem tw_464 : Cond.methodLink RX8 52 yX6_certifiedHalls ∈ eg_T := eg_in 487 (by decide +kernel) (by decide +kernel)
theorem tw_465 : Cond.methodLink RX8 55 yX8_certified ∈ eg_T := eg_in 488 (by decide +kernel) (by decide +kernel)
theorem tw_466 : Cond.instanceMethod yX8_certified ∈ eg_T := eg_in 489 (by decide +kernel) (by decide +kernel)
theorem tw_467 : Cond.selects RX8 yX8_certified yX8_certified ∈ eg_T := eg_in 490 (by decide +kernel) (by decide +kernel)
theorem tw_468 : Cond.code yX8_certified cX8_certified 6 (some .int) ∈ eg_T := eg_in 491 (by decide +kernel) (by decide +kernel)
theorem tw_469 : Cond.methodLink RX8 58 yX6_surfacesOf ∈ eg_T := eg_in 492 (by decide +kernel) (by decide +kernel)
theorem tw_470 : Cond.methodLink RX8 65 yX6_dampingOf ∈ eg_T := eg_in 493 (by decide +kernel) (by decide +kernel)
theorem tw_471 : Cond.methodLink RX8 71 yX6_dustOf ∈ eg_T := eg_in 494 (by decide +kernel) (by decide +kernel)
theorem tw_472 : Cond.methodLink RX8 74 yX6_isCertified ∈ eg_T := eg_in 495 (by decide +kernel) (by decide +kernel)
theorem tw_473 : Cond.methodLink RX8 78 yX6_certifiedBy ∈ eg_T := eg_in 496 (by decide +kernel) (by decide +kernel)
theorem tw_474 : Cond.instanceMethod yX6_certifiedBy ∈ eg_T := eg_in 497 (by decide +kernel) (by decide +kernel)
theorem tw_475 : Cond.selects RX6 yX6_certifiedBy yX6_certifiedBy ∈ eg_T := eg_in 498 (by decide +kernel) (by decide +kernel)
theorem tw_476 : Cond.code yX6_certifiedBy cX6_certifiedBy 3 (some .int) ∈ eg_T := eg_in 499 (by decide +kernel) (by decide +kernel)
theorem tw_477 : Cond.methodLink RX6 129 yX6_checkCertificate ∈ eg_T := eg_in 500 (by decide +kernel) (by decide +kernel)
theorem tw_478 : Cond.static yX6_checkCertificate ∈ eg_T := eg_in 501 (by decide +kernel) (by decide +kernel)
theorem tw_479 : Cond.code yX6_checkCertificate cX6_checkCertificate 1 none ∈ eg_T := eg_in 502 (by decide +kernel) (by decide +kernel)
theorem tw_480 : Cond.stringRef RX6 225 "the hall has no certificate" ∈ lw_tbl := List.mem_of_getElem? (i := 503) (by decide +kernel)
theorem tw_481 : Cond.methodLink RX8 81 yX6_daysLeft ∈ eg_T := eg_in 504 (by decide +kernel) (by decide +kernel)
theorem tw_482 : Cond.methodLink RX8 84 yX6_distanceOf ∈ eg_T := eg_in 505 (by decide +kernel) (by decide +kernel)
theorem tw_483 : Cond.methodLink RX8 88 yX6_hardnessOf ∈ eg_T := eg_in 506 (by decide +kernel) (by decide +kernel)
theorem tw_484 : Cond.methodLink RX8 91 yX7_hard ∈ eg_T := eg_in 507 (by decide +kernel) (by decide +kernel)
theorem tw_485 : Cond.instanceMethod yX7_hard ∈ eg_T := eg_in 508 (by decide +kernel) (by decide +kernel)
theorem tw_486 : Cond.selects RX7 yX7_hard yX7_hard ∈ eg_T := eg_in 509 (by decide +kernel) (by decide +kernel)
theorem tw_487 : Cond.code yX7_hard cX7_hard 3 (some .int) ∈ eg_T := eg_in 510 (by decide +kernel) (by decide +kernel)
theorem tw_488 : Cond.methodLink RX7 19 Lib.Math.max.name ∈ eg_T := eg_in 511 (by decide +kernel) (by decide +kernel)
theorem tw_489 : Cond.methodLink RX8 94 yX7_echoes ∈ eg_T := eg_in 512 (by decide +kernel) (by decide +kernel)
theorem tw_490 : Cond.instanceMethod yX7_echoes ∈ eg_T := eg_in 513 (by decide +kernel) (by decide +kernel)
theorem tw_491 : Cond.selects RX7 yX7_echoes yX7_echoes ∈ eg_T := eg_in 514 (by decide +kernel) (by decide +kernel)
theorem tw_492 : Cond.code yX7_echoes cX7_echoes 9 (some (.array .int)) ∈ eg_T := eg_in 515 (by decide +kernel) (by decide +kernel)
theorem tw_493 : Cond.methodLink RX7 25 yX7_hard ∈ eg_T := eg_in 516 (by decide +kernel) (by decide +kernel)
theorem tw_494 : Cond.methodLink RX7 28 Lib.Math.min.name ∈ eg_T := eg_in 517 (by decide +kernel) (by decide +kernel)
theorem tw_495 : Cond.static Lib.Math.min.name ∈ eg_T := eg_in 518 (by decide +kernel) (by decide +kernel)
theorem tw_496 : Cond.code Lib.Math.min.name Lib.Math.min.code 2 (some .int) ∈ eg_T := eg_in 519 (by decide +kernel) (by decide +kernel)
theorem tw_497 : Cond.methodLink RX8 98 yX6_echoes ∈ eg_T := eg_in 520 (by decide +kernel) (by decide +kernel)
theorem tw_498 : Cond.methodLink RX8 100 yX6_loudEchoes ∈ eg_T := eg_in 521 (by decide +kernel) (by decide +kernel)
theorem tw_499 : Cond.methodLink RX8 104 yX6_firstEcho ∈ eg_T := eg_in 522 (by decide +kernel) (by decide +kernel)
theorem tw_500 : Cond.methodLink RX8 107 yX6_lastEcho ∈ eg_T := eg_in 523 (by decide +kernel) (by decide +kernel)
theorem tw_501 : Cond.methodLink RX8 110 yX6_meets ∈ eg_T := eg_in 524 (by decide +kernel) (by decide +kernel)
theorem tw_502 : Cond.methodLink RX8 114 yX7_meets ∈ eg_T := eg_in 525 (by decide +kernel) (by decide +kernel)
theorem tw_503 : Cond.instanceMethod yX7_meets ∈ eg_T := eg_in 526 (by decide +kernel) (by decide +kernel)
theorem tw_504 : Cond.selects RX7 yX7_meets yX7_meets ∈ eg_T := eg_in 527 (by decide +kernel) (by decide +kernel)
theorem tw_505 : Cond.code yX7_meets cX7_meets 5 (some .boolean) ∈ eg_T := eg_in 528 (by decide +kernel) (by decide +kernel)
theorem tw_506 : Cond.methodLink RX7 37 yX7_echoes ∈ eg_T := eg_in 529 (by decide +kernel) (by decide +kernel)
theorem tw_507 : Cond.methodLink RX8 117 yX6_meanDamping ∈ eg_T := eg_in 530 (by decide +kernel) (by decide +kernel)
theorem tw_508 : Cond.methodLink RL 15 yL_below ∈ eg_T := eg_in 531 (by decide +kernel) (by decide +kernel)
theorem tw_509 : Cond.static yL_below ∈ eg_T := eg_in 532 (by decide +kernel) (by decide +kernel)
theorem tw_510 : Cond.code yL_below cL_below 2 (some .int) ∈ eg_T := eg_in 533 (by decide +kernel) (by decide +kernel)
theorem tw_512 : Cond.methodLink RL 99 yL_cell ∈ eg_T := eg_in 535 (by decide +kernel) (by decide +kernel)
theorem tw_513 : Cond.static yL_cell ∈ eg_T := eg_in 536 (by decide +kernel) (by decide +kernel)
theorem tw_514 : Cond.code yL_cell cL_cell 2 (some .int) ∈ eg_T := eg_in 537 (by decide +kernel) (by decide +kernel)
theorem tw_516 : Cond.methodLink RL 103 yL_act ∈ eg_T := eg_in 539 (by decide +kernel) (by decide +kernel)
theorem tw_517 : Cond.static yL_act ∈ eg_T := eg_in 540 (by decide +kernel) (by decide +kernel)
theorem tw_519 : Cond.classLink RL 21 RX7 ∈ eg_T := eg_in 542 (by decide +kernel) (by decide +kernel)
theorem tw_520 : Cond.arrayOver (.object RX7) ∈ lw_tbl := List.mem_of_getElem? (i := 543) (by decide +kernel)
theorem tw_521 : Cond.instantiable RX7 5 ∈ eg_T := eg_in 544 (by decide +kernel) (by decide +kernel)
theorem tw_522 : Cond.methodLinkNest RL 23 yX7_init RL ∈ lw_tbl := List.mem_of_getElem? (i := 545) (by decide +kernel)
theorem tw_523 : Cond.instanceMethod yX7_init ∈ eg_T := eg_in 546 (by decide +kernel) (by decide +kernel)
theorem tw_524 : Cond.code yX7_init cX7_init 1 none ∈ eg_T := eg_in 547 (by decide +kernel) (by decide +kernel)
theorem tw_525 : Cond.methodLink RX7 1 Lib.objectInit ∈ eg_T := eg_in 548 (by decide +kernel) (by decide +kernel)
theorem tw_526 : Cond.classLink RX7 7 "[I" ∈ eg_T := eg_in 549 (by decide +kernel) (by decide +kernel)
theorem tw_528 : Cond.fieldLink RX7 9 RX7 "surfaces" "[[I" ∈ eg_T := eg_in 551 (by decide +kernel) (by decide +kernel)
theorem tw_529 : Cond.fieldLink RL 34 RX7 "surfaces" "[[I" ∈ eg_T := eg_in 552 (by decide +kernel) (by decide +kernel)
theorem tw_530 : Cond.fieldLink RX8 62 RX7 "surfaces" "[[I" ∈ eg_T := eg_in 553 (by decide +kernel) (by decide +kernel)
theorem tw_531 : Cond.fieldLink RL 24 RX7 "damping" "I" ∈ eg_T := eg_in 554 (by decide +kernel) (by decide +kernel)
theorem tw_532 : Cond.fieldLink RX8 68 RX7 "damping" "I" ∈ eg_T := eg_in 555 (by decide +kernel) (by decide +kernel)
theorem tw_533 : Cond.fieldLink RX8 25 RX7 "dust" "I" ∈ eg_T := eg_in 556 (by decide +kernel) (by decide +kernel)
theorem tw_534 : Cond.fieldLink RL 58 RX7 "dust" "I" ∈ eg_T := eg_in 557 (by decide +kernel) (by decide +kernel)
theorem tw_535 : Cond.fieldLink RX7 15 RX7 "standard" "I" ∈ eg_T := eg_in 558 (by decide +kernel) (by decide +kernel)
theorem tw_536 : Cond.fieldLink RX8 21 RX7 "standard" "I" ∈ eg_T := eg_in 559 (by decide +kernel) (by decide +kernel)
theorem tw_537 : Cond.fieldLink RL 75 RX7 "standard" "I" ∈ eg_T := eg_in 560 (by decide +kernel) (by decide +kernel)
theorem tw_538 : Cond.fieldLink RX8 28 RX7 "left" "I" ∈ eg_T := eg_in 561 (by decide +kernel) (by decide +kernel)
theorem tw_539 : Cond.fieldLink RL 78 RX7 "left" "I" ∈ eg_T := eg_in 562 (by decide +kernel) (by decide +kernel)
theorem tw_540 : Cond.fieldLink RX7 41 RX7 "left" "I" ∈ eg_T := eg_in 563 (by decide +kernel) (by decide +kernel)
theorem tw_552 : Cond.methodLink RL 38 yX8_with ∈ eg_T := eg_in 575 (by decide +kernel) (by decide +kernel)
theorem tw_553 : Cond.static yX8_with ∈ eg_T := eg_in 576 (by decide +kernel) (by decide +kernel)
theorem tw_554 : Cond.code yX8_with cX8_with 4 (some (.array (.array .int))) ∈ eg_T := eg_in 577 (by decide +kernel) (by decide +kernel)
theorem tw_555 : Cond.classLink RX8 15 "[I" ∈ eg_T := eg_in 578 (by decide +kernel) (by decide +kernel)
theorem tw_556 : Cond.methodLink RL 42 yX7_strike ∈ eg_T := eg_in 579 (by decide +kernel) (by decide +kernel)
theorem tw_557 : Cond.instanceMethod yX7_strike ∈ eg_T := eg_in 580 (by decide +kernel) (by decide +kernel)
theorem tw_558 : Cond.selects RX7 yX7_strike yX7_strike ∈ eg_T := eg_in 581 (by decide +kernel) (by decide +kernel)
theorem tw_559 : Cond.code yX7_strike cX7_strike 1 none ∈ eg_T := eg_in 582 (by decide +kernel) (by decide +kernel)
theorem tw_560 : Cond.methodLink RL 52 yX6_moveSurface ∈ eg_T := eg_in 583 (by decide +kernel) (by decide +kernel)
theorem tw_561 : Cond.instanceMethod yX6_moveSurface ∈ eg_T := eg_in 584 (by decide +kernel) (by decide +kernel)
theorem tw_562 : Cond.selects RX6 yX6_moveSurface yX6_moveSurface ∈ eg_T := eg_in 585 (by decide +kernel) (by decide +kernel)
theorem tw_563 : Cond.code yX6_moveSurface cX6_moveSurface 7 (some .int) ∈ eg_T := eg_in 586 (by decide +kernel) (by decide +kernel)
theorem tw_564 : Cond.methodLink RL 55 yX6_setDamping ∈ eg_T := eg_in 587 (by decide +kernel) (by decide +kernel)
theorem tw_565 : Cond.instanceMethod yX6_setDamping ∈ eg_T := eg_in 588 (by decide +kernel) (by decide +kernel)
theorem tw_566 : Cond.selects RX6 yX6_setDamping yX6_setDamping ∈ eg_T := eg_in 589 (by decide +kernel) (by decide +kernel)
theorem tw_567 : Cond.code yX6_setDamping cX6_setDamping 5 (some .int) ∈ eg_T := eg_in 590 (by decide +kernel) (by decide +kernel)
theorem tw_568 : Cond.methodLink RL 61 yX6_clean ∈ eg_T := eg_in 591 (by decide +kernel) (by decide +kernel)
theorem tw_569 : Cond.instanceMethod yX6_clean ∈ eg_T := eg_in 592 (by decide +kernel) (by decide +kernel)
theorem tw_570 : Cond.selects RX6 yX6_clean yX6_clean ∈ eg_T := eg_in 593 (by decide +kernel) (by decide +kernel)
theorem tw_571 : Cond.code yX6_clean cX6_clean 4 (some .int) ∈ eg_T := eg_in 594 (by decide +kernel) (by decide +kernel)
theorem tw_572 : Cond.methodLink RL 64 yX6_addStandard ∈ eg_T := eg_in 595 (by decide +kernel) (by decide +kernel)
theorem tw_573 : Cond.instanceMethod yX6_addStandard ∈ eg_T := eg_in 596 (by decide +kernel) (by decide +kernel)
theorem tw_574 : Cond.selects RX6 yX6_addStandard yX6_addStandard ∈ eg_T := eg_in 597 (by decide +kernel) (by decide +kernel)
theorem tw_575 : Cond.code yX6_addStandard cX6_addStandard 8 (some .int) ∈ eg_T := eg_in 598 (by decide +kernel) (by decide +kernel)
theorem tw_576 : Cond.stringRef RX6 99 "no such standard can be" ∈ lw_tbl := List.mem_of_getElem? (i := 599) (by decide +kernel)
theorem tw_577 : Cond.stringRef RX6 104 "no room for another standard" ∈ lw_tbl := List.mem_of_getElem? (i := 600) (by decide +kernel)
theorem tw_578 : Cond.methodLinkNest RX6 106 yX3_init RX6 ∈ lw_tbl := List.mem_of_getElem? (i := 601) (by decide +kernel)
theorem tw_579 : Cond.instanceMethod yX3_init ∈ eg_T := eg_in 602 (by decide +kernel) (by decide +kernel)
theorem tw_580 : Cond.code yX3_init cX3_init 6 none ∈ eg_T := eg_in 603 (by decide +kernel) (by decide +kernel)
theorem tw_581 : Cond.methodLink RX3 1 Lib.objectInit ∈ eg_T := eg_in 604 (by decide +kernel) (by decide +kernel)
theorem tw_582 : Cond.fieldLink RX3 7 RX3 "earliest" "I" ∈ eg_T := eg_in 605 (by decide +kernel) (by decide +kernel)
theorem tw_583 : Cond.fieldLink RX3 13 RX3 "limit" "I" ∈ eg_T := eg_in 606 (by decide +kernel) (by decide +kernel)
theorem tw_584 : Cond.fieldLinkNest RX6 251 RX3 "limit" "I" RX6 ∈ lw_tbl := List.mem_of_getElem? (i := 607) (by decide +kernel)
theorem tw_585 : Cond.fieldLink RX3 16 RX3 "most" "I" ∈ eg_T := eg_in 608 (by decide +kernel) (by decide +kernel)
theorem tw_586 : Cond.fieldLink RX3 19 RX3 "latest" "I" ∈ eg_T := eg_in 609 (by decide +kernel) (by decide +kernel)
theorem tw_587 : Cond.fieldLink RX3 22 RX3 "days" "I" ∈ eg_T := eg_in 610 (by decide +kernel) (by decide +kernel)
theorem tw_588 : Cond.fieldLinkNest RX6 120 RX3 "days" "I" RX6 ∈ lw_tbl := List.mem_of_getElem? (i := 611) (by decide +kernel)
theorem tw_600 : Cond.methodLink RL 68 yX7_meets ∈ eg_T := eg_in 623 (by decide +kernel) (by decide +kernel)
theorem tw_601 : Cond.methodLink RL 81 yX6_inspect ∈ eg_T := eg_in 624 (by decide +kernel) (by decide +kernel)
theorem tw_602 : Cond.instanceMethod yX6_inspect ∈ eg_T := eg_in 625 (by decide +kernel) (by decide +kernel)
theorem tw_603 : Cond.selects RX6 yX6_inspect yX6_inspect ∈ eg_T := eg_in 626 (by decide +kernel) (by decide +kernel)
theorem tw_604 : Cond.code yX6_inspect cX6_inspect 6 (some .boolean) ∈ eg_T := eg_in 627 (by decide +kernel) (by decide +kernel)
theorem tw_605 : Cond.methodLinkNest RX6 123 yX0_takeCertificate RX6 ∈ lw_tbl := List.mem_of_getElem? (i := 628) (by decide +kernel)
theorem tw_607 : Cond.instanceMethod yX0_takeCertificate ∈ eg_T := eg_in 630 (by decide +kernel) (by decide +kernel)
theorem tw_608 : Cond.code yX0_takeCertificate cX0_takeCertificate 3 none ∈ eg_T := eg_in 631 (by decide +kernel) (by decide +kernel)
theorem tw_609 : Cond.methodLink RL 85 yX6_revoke ∈ eg_T := eg_in 632 (by decide +kernel) (by decide +kernel)
theorem tw_610 : Cond.instanceMethod yX6_revoke ∈ eg_T := eg_in 633 (by decide +kernel) (by decide +kernel)
theorem tw_611 : Cond.selects RX6 yX6_revoke yX6_revoke ∈ eg_T := eg_in 634 (by decide +kernel) (by decide +kernel)
theorem tw_612 : Cond.code yX6_revoke cX6_revoke 4 (some .int) ∈ eg_T := eg_in 635 (by decide +kernel) (by decide +kernel)
theorem tw_613 : Cond.methodLink RL 88 yX8_pass ∈ eg_T := eg_in 636 (by decide +kernel) (by decide +kernel)
theorem tw_614 : Cond.instanceMethod yX8_pass ∈ eg_T := eg_in 637 (by decide +kernel) (by decide +kernel)
theorem tw_615 : Cond.selects RX8 yX8_pass yX8_pass ∈ eg_T := eg_in 638 (by decide +kernel) (by decide +kernel)
theorem tw_616 : Cond.code yX8_pass cX8_pass 5 none ∈ eg_T := eg_in 639 (by decide +kernel) (by decide +kernel)
theorem tw_617 : Cond.methodLink RX8 31 yX7_strike ∈ eg_T := eg_in 640 (by decide +kernel) (by decide +kernel)
theorem tw_618 : Cond.methodLink RL 91 yX6_passDays ∈ eg_T := eg_in 641 (by decide +kernel) (by decide +kernel)
theorem tw_619 : Cond.instanceMethod yX6_passDays ∈ eg_T := eg_in 642 (by decide +kernel) (by decide +kernel)
theorem tw_620 : Cond.selects RX6 yX6_passDays yX6_passDays ∈ eg_T := eg_in 643 (by decide +kernel) (by decide +kernel)
theorem tw_621 : Cond.code yX6_passDays cX6_passDays 6 (some .int) ∈ eg_T := eg_in 644 (by decide +kernel) (by decide +kernel)
theorem tw_622 : Cond.stringRef RX6 136 "no such number of days can go by" ∈ lw_tbl := List.mem_of_getElem? (i := 645) (by decide +kernel)
theorem tw_623 : Cond.methodLinkNest RX6 138 yX0_growOlder RX6 ∈ lw_tbl := List.mem_of_getElem? (i := 646) (by decide +kernel)
theorem tw_625 : Cond.instanceMethod yX0_growOlder ∈ eg_T := eg_in 648 (by decide +kernel) (by decide +kernel)
theorem tw_626 : Cond.code yX0_growOlder cX0_growOlder 2 none ∈ eg_T := eg_in 649 (by decide +kernel) (by decide +kernel)
theorem tw_627 : Cond.methodLink RX0 39 yX0_dustBehind ∈ eg_T := eg_in 650 (by decide +kernel) (by decide +kernel)
theorem tw_629 : Cond.instanceMethod yX0_dustBehind ∈ eg_T := eg_in 652 (by decide +kernel) (by decide +kernel)
theorem tw_630 : Cond.code yX0_dustBehind cX0_dustBehind 2 (some .int) ∈ eg_T := eg_in 653 (by decide +kernel) (by decide +kernel)
theorem tw_631 : Cond.methodLink RX0 33 Lib.Math.min.name ∈ eg_T := eg_in 654 (by decide +kernel) (by decide +kernel)
theorem tw_632 : Cond.methodLink RX0 43 yX0_loseCertificate ∈ eg_T := eg_in 655 (by decide +kernel) (by decide +kernel)
theorem tw_633 : Cond.methodLink RL 94 yX8_certified ∈ eg_T := eg_in 656 (by decide +kernel) (by decide +kernel)
theorem tw_634 : Cond.methodLink RL 108 yL_build ∈ eg_T := eg_in 657 (by decide +kernel) (by decide +kernel)
theorem tw_635 : Cond.static yL_build ∈ eg_T := eg_in 658 (by decide +kernel) (by decide +kernel)
theorem tw_636 : Cond.code yL_build cL_build 5 (some (.object "EchoBureauLaw$Sim")) ∈ eg_T := eg_in 659 (by decide +kernel) (by decide +kernel)
theorem tw_637 : Cond.classLink RL 10 RX8 ∈ eg_T := eg_in 660 (by decide +kernel) (by decide +kernel)
theorem tw_638 : Cond.instantiable RX8 4 ∈ eg_T := eg_in 661 (by decide +kernel) (by decide +kernel)
theorem tw_639 : Cond.methodLinkNest RL 98 yX8_init RL ∈ lw_tbl := List.mem_of_getElem? (i := 662) (by decide +kernel)
theorem tw_640 : Cond.instanceMethod yX8_init ∈ eg_T := eg_in 663 (by decide +kernel) (by decide +kernel)
theorem tw_641 : Cond.code yX8_init cX8_init 1 none ∈ eg_T := eg_in 664 (by decide +kernel) (by decide +kernel)
theorem tw_642 : Cond.methodLink RX8 1 Lib.objectInit ∈ eg_T := eg_in 665 (by decide +kernel) (by decide +kernel)
theorem tw_643 : Cond.classLink RX8 7 RX7 ∈ eg_T := eg_in 666 (by decide +kernel) (by decide +kernel)
theorem tw_644 : Cond.fieldLink RX8 34 RX8 "day" "I" ∈ eg_T := eg_in 667 (by decide +kernel) (by decide +kernel)
theorem tw_645 : Cond.fieldLink RL 72 RX8 "inspections" "I" ∈ eg_T := eg_in 668 (by decide +kernel) (by decide +kernel)
theorem tw_646 : Cond.fieldLink RX8 50 RX8 "inspections" "I" ∈ eg_T := eg_in 669 (by decide +kernel) (by decide +kernel)
theorem tw_647 : Cond.fieldLink RX8 9 RX8 "halls" "[LEchoBureauLaw$Hall;" ∈ eg_T := eg_in 670 (by decide +kernel) (by decide +kernel)
theorem tw_648 : Cond.fieldLink RL 9 RX8 "halls" "[LEchoBureauLaw$Hall;" ∈ eg_T := eg_in 671 (by decide +kernel) (by decide +kernel)
theorem tw_649 : Cond.fieldLink RX8 17 RX8 "rules" "[[I" ∈ eg_T := eg_in 672 (by decide +kernel) (by decide +kernel)
theorem tw_650 : Cond.fieldLink RL 49 RX8 "rules" "[[I" ∈ eg_T := eg_in 673 (by decide +kernel) (by decide +kernel)
theorem tw_660 : Cond.methodLink RL 151 Lib.Math.max.name ∈ eg_T := eg_in 683 (by decide +kernel) (by decide +kernel)
theorem tp_X6_findHall : Cond.selects RX6 yX6_findHall yX6_findHall ∈ eg_T := eg_in 1 (by decide +kernel) (by decide +kernel)
theorem tp_X0_isFull : Cond.selects RX0 yX0_isFull yX0_isFull ∈ eg_T := eg_in 2 (by decide +kernel) (by decide +kernel)
theorem tp_X0_loseCertificate : Cond.selects RX0 yX0_loseCertificate yX0_loseCertificate ∈ eg_T := eg_in 3 (by decide +kernel) (by decide +kernel)
theorem tp_X0_build : Cond.selects RX0 yX0_build yX0_build ∈ eg_T := eg_in 4 (by decide +kernel) (by decide +kernel)
theorem tp_X4_hardnessUnder : Cond.selects RX4 yX4_hardnessUnder yX4_hardnessUnder ∈ eg_T := eg_in 5 (by decide +kernel) (by decide +kernel)
theorem tp_X6_tallyOfClick : Cond.selects RX6 yX6_tallyOfClick yX6_tallyOfClick ∈ eg_T := eg_in 6 (by decide +kernel) (by decide +kernel)
theorem tp_X6_tallyOf : Cond.selects RX6 yX6_tallyOf yX6_tallyOf ∈ eg_T := eg_in 7 (by decide +kernel) (by decide +kernel)
theorem tp_X5_begin : Cond.selects RX5 yX5_begin yX5_begin ∈ eg_T := eg_in 8 (by decide +kernel) (by decide +kernel)
theorem tp_X0_throwBack : Cond.selects RX0 yX0_throwBack yX0_throwBack ∈ eg_T := eg_in 9 (by decide +kernel) (by decide +kernel)
theorem tp_X4_throwRow : Cond.selects RX4 yX4_throwRow yX4_throwRow ∈ eg_T := eg_in 10 (by decide +kernel) (by decide +kernel)
theorem tp_X6_loudnessesOf : Cond.selects RX6 yX6_loudnessesOf yX6_loudnessesOf ∈ eg_T := eg_in 11 (by decide +kernel) (by decide +kernel)
theorem tp_X2_begin : Cond.selects RX2 yX2_begin yX2_begin ∈ eg_T := eg_in 12 (by decide +kernel) (by decide +kernel)
theorem tp_X2_addedAt : Cond.selects RX2 yX2_addedAt yX2_addedAt ∈ eg_T := eg_in 13 (by decide +kernel) (by decide +kernel)
theorem tp_X6_findStandard : Cond.selects RX6 yX6_findStandard yX6_findStandard ∈ eg_T := eg_in 14 (by decide +kernel) (by decide +kernel)
theorem tp_X6_meetsNow : Cond.selects RX6 yX6_meetsNow yX6_meetsNow ∈ eg_T := eg_in 15 (by decide +kernel) (by decide +kernel)
theorem tp_X6_wouldMeet : Cond.selects RX6 yX6_wouldMeet yX6_wouldMeet ∈ eg_T := eg_in 16 (by decide +kernel) (by decide +kernel)
theorem tp_X3_allows : Cond.selects RX3 yX3_allows yX3_allows ∈ eg_T := eg_in 17 (by decide +kernel) (by decide +kernel)
theorem tp_X0_hasCertificate : Cond.selects RX0 yX0_hasCertificate yX0_hasCertificate ∈ eg_T := eg_in 18 (by decide +kernel) (by decide +kernel)
theorem tp_X6_countCertified : Cond.selects RX6 yX6_countCertified yX6_countCertified ∈ eg_T := eg_in 19 (by decide +kernel) (by decide +kernel)
theorem tp_X0_takeCertificate : Cond.selects RX0 yX0_takeCertificate yX0_takeCertificate ∈ eg_T := eg_in 20 (by decide +kernel) (by decide +kernel)
theorem tp_X0_growOlder : Cond.selects RX0 yX0_growOlder yX0_growOlder ∈ eg_T := eg_in 21 (by decide +kernel) (by decide +kernel)
theorem tp_X0_dustBehind : Cond.selects RX0 yX0_dustBehind yX0_dustBehind ∈ eg_T := eg_in 22 (by decide +kernel) (by decide +kernel)
set_option maxRecDepth 20000 in
theorem fw_X0 : eg_FW RX0 TX0 6 := fun w hw => List.mem_filter.mpr ⟨(by decide +kernel : ∀ w ∈ u_ws RX0 TX0 6, w ∈ lw_tbl) w hw, (by decide +kernel : ∀ w ∈ u_ws RX0 TX0 6, goodWord w = true) w hw⟩
set_option maxRecDepth 20000 in
theorem fw_X2 : eg_FW RX2 TX2 1 := fun w hw => List.mem_filter.mpr ⟨(by decide +kernel : ∀ w ∈ u_ws RX2 TX2 1, w ∈ lw_tbl) w hw, (by decide +kernel : ∀ w ∈ u_ws RX2 TX2 1, goodWord w = true) w hw⟩
set_option maxRecDepth 20000 in
theorem fw_X3 : eg_FW RX3 TX3 5 := fun w hw => List.mem_filter.mpr ⟨(by decide +kernel : ∀ w ∈ u_ws RX3 TX3 5, w ∈ lw_tbl) w hw, (by decide +kernel : ∀ w ∈ u_ws RX3 TX3 5, goodWord w = true) w hw⟩
set_option maxRecDepth 20000 in
theorem fw_X4 : eg_FW RX4 TX4 2 := fun w hw => List.mem_filter.mpr ⟨(by decide +kernel : ∀ w ∈ u_ws RX4 TX4 2, w ∈ lw_tbl) w hw, (by decide +kernel : ∀ w ∈ u_ws RX4 TX4 2, goodWord w = true) w hw⟩
set_option maxRecDepth 20000 in
theorem fw_X5 : eg_FW RX5 TX5 5 := fun w hw => List.mem_filter.mpr ⟨(by decide +kernel : ∀ w ∈ u_ws RX5 TX5 5, w ∈ lw_tbl) w hw, (by decide +kernel : ∀ w ∈ u_ws RX5 TX5 5, goodWord w = true) w hw⟩
set_option maxRecDepth 20000 in
theorem fw_X6 : eg_FW RX6 TX6 8 := fun w hw => List.mem_filter.mpr ⟨(by decide +kernel : ∀ w ∈ u_ws RX6 TX6 8, w ∈ lw_tbl) w hw, (by decide +kernel : ∀ w ∈ u_ws RX6 TX6 8, goodWord w = true) w hw⟩
set_option maxRecDepth 20000 in
theorem fw_X7 : eg_FW RX7 TX7 5 := fun w hw => List.mem_filter.mpr ⟨(by decide +kernel : ∀ w ∈ u_ws RX7 TX7 5, w ∈ lw_tbl) w hw, (by decide +kernel : ∀ w ∈ u_ws RX7 TX7 5, goodWord w = true) w hw⟩
set_option maxRecDepth 20000 in
theorem fw_X8 : eg_FW RX8 TX8 4 := fun w hw => List.mem_filter.mpr ⟨(by decide +kernel : ∀ w ∈ u_ws RX8 TX8 4, w ∈ lw_tbl) w hw, (by decide +kernel : ∀ w ∈ u_ws RX8 TX8 4, goodWord w = true) w hw⟩
theorem m_X6_init : eg_M yX6_init cX6_init 1 none 0 := ⟨tw_21, tw_1, by decide +kernel, by decide +kernel, by decide +kernel⟩
theorem k_X6_init : Cond.instanceMethod yX6_init ∈ eg_T ∧ yX6_init.name = "<init>" := ⟨tw_20, rfl⟩
theorem m_X5_init : eg_M yX5_init cX5_init 1 none 0 := ⟨tw_33, tw_2, by decide +kernel, by decide +kernel, by decide +kernel⟩
theorem k_X5_init : Cond.instanceMethod yX5_init ∈ eg_T ∧ yX5_init.name = "<init>" := ⟨tw_32, rfl⟩
theorem m_X2_init : eg_M yX2_init cX2_init 1 none 0 := ⟨tw_63, tw_3, by decide +kernel, by decide +kernel, by decide +kernel⟩
theorem k_X2_init : Cond.instanceMethod yX2_init ∈ eg_T ∧ yX2_init.name = "<init>" := ⟨tw_62, rfl⟩
theorem m_X6_addHall : eg_M yX6_addHall cX6_addHall 3 (some .int) 1 := ⟨tw_98, tw_1, by decide +kernel, by decide +kernel, by decide +kernel⟩
theorem k_X6_addHall : Cond.instanceMethod yX6_addHall ∈ eg_T ∧ Cond.selects yX6_addHall.cls yX6_addHall yX6_addHall ∈ eg_T := ⟨tw_96, tw_97⟩
theorem m_X6_checkDamping : eg_M yX6_checkDamping cX6_checkDamping 1 none 1 := ⟨tw_101, tw_1, by decide +kernel, by decide +kernel, by decide +kernel⟩
theorem k_X6_checkDamping : Cond.static yX6_checkDamping ∈ eg_T := tw_100
theorem m_X6_isWithin : eg_M yX6_isWithin cX6_isWithin 3 (some .boolean) 3 := ⟨tw_104, tw_1, by decide +kernel, by decide +kernel, by decide +kernel⟩
theorem k_X6_isWithin : Cond.static yX6_isWithin ∈ eg_T := tw_103
theorem m_X0_init : eg_M yX0_init cX0_init 2 none 1 := ⟨tw_192, tw_11, by decide +kernel, by decide +kernel, by decide +kernel⟩
theorem k_X0_init : Cond.instanceMethod yX0_init ∈ eg_T ∧ yX0_init.name = "<init>" := ⟨tw_191, rfl⟩
theorem m_X6_addSurface : eg_M yX6_addSurface cX6_addSurface 5 (some .int) 3 := ⟨tw_224, tw_1, by decide +kernel, by decide +kernel, by decide +kernel⟩
theorem k_X6_addSurface : Cond.instanceMethod yX6_addSurface ∈ eg_T ∧ Cond.selects yX6_addSurface.cls yX6_addSurface yX6_addSurface ∈ eg_T := ⟨tw_222, tw_223⟩
theorem m_X6_findHall : eg_M yX6_findHall cX6_findHall 3 (some (.object "EchoBureau$Hall")) 1 := ⟨tw_228, tw_1, by decide +kernel, by decide +kernel, by decide +kernel⟩
theorem k_X6_findHall : Cond.instanceMethod yX6_findHall ∈ eg_T ∧ Cond.selects yX6_findHall.cls yX6_findHall yX6_findHall ∈ eg_T := ⟨tw_227, tp_X6_findHall⟩
theorem m_X6_checkDistance : eg_M yX6_checkDistance cX6_checkDistance 1 none 1 := ⟨tw_248, tw_1, by decide +kernel, by decide +kernel, by decide +kernel⟩
theorem k_X6_checkDistance : Cond.static yX6_checkDistance ∈ eg_T := tw_247
theorem m_X0_isFull : eg_M yX0_isFull cX0_isFull 1 (some .boolean) 0 := ⟨tw_254, tw_11, by decide +kernel, by decide +kernel, by decide +kernel⟩
theorem k_X0_isFull : Cond.instanceMethod yX0_isFull ∈ eg_T ∧ Cond.selects yX0_isFull.cls yX0_isFull yX0_isFull ∈ eg_T := ⟨tw_253, tp_X0_isFull⟩
theorem m_X0_loseCertificate : eg_M yX0_loseCertificate cX0_loseCertificate 1 none 0 := ⟨tw_259, tw_11, by decide +kernel, by decide +kernel, by decide +kernel⟩
theorem k_X0_loseCertificate : Cond.instanceMethod yX0_loseCertificate ∈ eg_T ∧ Cond.selects yX0_loseCertificate.cls yX0_loseCertificate yX0_loseCertificate ∈ eg_T := ⟨tw_258, tp_X0_loseCertificate⟩
theorem m_X4_init : eg_M yX4_init cX4_init 3 none 2 := ⟨tw_264, tw_13, by decide +kernel, by decide +kernel, by decide +kernel⟩
theorem k_X4_init : Cond.instanceMethod yX4_init ∈ eg_T ∧ yX4_init.name = "<init>" := ⟨tw_263, rfl⟩
theorem m_X0_build : eg_M yX0_build cX0_build 3 (some .int) 1 := ⟨tw_277, tw_11, by decide +kernel, by decide +kernel, by decide +kernel⟩
theorem k_X0_build : Cond.instanceMethod yX0_build ∈ eg_T ∧ Cond.selects yX0_build.cls yX0_build yX0_build ∈ eg_T := ⟨tw_276, tp_X0_build⟩
theorem m_X6_surfacesOf : eg_M yX6_surfacesOf cX6_surfacesOf 2 (some .int) 1 := ⟨tw_281, tw_1, by decide +kernel, by decide +kernel, by decide +kernel⟩
theorem k_X6_surfacesOf : Cond.instanceMethod yX6_surfacesOf ∈ eg_T ∧ Cond.selects yX6_surfacesOf.cls yX6_surfacesOf yX6_surfacesOf ∈ eg_T := ⟨tw_279, tw_280⟩
theorem m_X6_distanceOf : eg_M yX6_distanceOf cX6_distanceOf 3 (some .int) 2 := ⟨tw_285, tw_1, by decide +kernel, by decide +kernel, by decide +kernel⟩
theorem k_X6_distanceOf : Cond.instanceMethod yX6_distanceOf ∈ eg_T ∧ Cond.selects yX6_distanceOf.cls yX6_distanceOf yX6_distanceOf ∈ eg_T := ⟨tw_283, tw_284⟩
theorem m_X6_findSurface : eg_M yX6_findSurface cX6_findSurface 3 (some (.object "EchoBureau$Surface")) 2 := ⟨tw_288, tw_1, by decide +kernel, by decide +kernel, by decide +kernel⟩
theorem k_X6_findSurface : Cond.static yX6_findSurface ∈ eg_T := tw_287
theorem m_X6_hardnessOf : eg_M yX6_hardnessOf cX6_hardnessOf 4 (some .int) 2 := ⟨tw_294, tw_1, by decide +kernel, by decide +kernel, by decide +kernel⟩
theorem k_X6_hardnessOf : Cond.instanceMethod yX6_hardnessOf ∈ eg_T ∧ Cond.selects yX6_hardnessOf.cls yX6_hardnessOf yX6_hardnessOf ∈ eg_T := ⟨tw_292, tw_293⟩
theorem m_X4_hardnessUnder : eg_M yX4_hardnessUnder cX4_hardnessUnder 2 (some .int) 1 := ⟨tw_298, tw_13, by decide +kernel, by decide +kernel, by decide +kernel⟩
theorem k_X4_hardnessUnder : Cond.instanceMethod yX4_hardnessUnder ∈ eg_T ∧ Cond.selects yX4_hardnessUnder.cls yX4_hardnessUnder yX4_hardnessUnder ∈ eg_T := ⟨tw_297, tp_X4_hardnessUnder⟩
theorem m_X6_dampingOf : eg_M yX6_dampingOf cX6_dampingOf 2 (some .int) 1 := ⟨tw_305, tw_1, by decide +kernel, by decide +kernel, by decide +kernel⟩
theorem k_X6_dampingOf : Cond.instanceMethod yX6_dampingOf ∈ eg_T ∧ Cond.selects yX6_dampingOf.cls yX6_dampingOf yX6_dampingOf ∈ eg_T := ⟨tw_303, tw_304⟩
theorem m_X6_dustOf : eg_M yX6_dustOf cX6_dustOf 2 (some .int) 1 := ⟨tw_309, tw_1, by decide +kernel, by decide +kernel, by decide +kernel⟩
theorem k_X6_dustOf : Cond.instanceMethod yX6_dustOf ∈ eg_T ∧ Cond.selects yX6_dustOf.cls yX6_dustOf yX6_dustOf ∈ eg_T := ⟨tw_307, tw_308⟩
theorem m_X6_echoes : eg_M yX6_echoes cX6_echoes 3 (some .int) 2 := ⟨tw_313, tw_1, by decide +kernel, by decide +kernel, by decide +kernel⟩
theorem k_X6_echoes : Cond.instanceMethod yX6_echoes ∈ eg_T ∧ Cond.selects yX6_echoes.cls yX6_echoes yX6_echoes ∈ eg_T := ⟨tw_311, tw_312⟩
theorem m_X6_tallyOfClick : eg_M yX6_tallyOfClick cX6_tallyOfClick 4 (some (.object "EchoBureau$Tally")) 2 := ⟨tw_317, tw_1, by decide +kernel, by decide +kernel, by decide +kernel⟩
theorem k_X6_tallyOfClick : Cond.instanceMethod yX6_tallyOfClick ∈ eg_T ∧ Cond.selects yX6_tallyOfClick.cls yX6_tallyOfClick yX6_tallyOfClick ∈ eg_T := ⟨tw_316, tp_X6_tallyOfClick⟩
theorem m_X6_checkLoudness : eg_M yX6_checkLoudness cX6_checkLoudness 1 none 1 := ⟨tw_320, tw_1, by decide +kernel, by decide +kernel, by decide +kernel⟩
theorem k_X6_checkLoudness : Cond.static yX6_checkLoudness ∈ eg_T := tw_319
theorem m_X6_tallyOf : eg_M yX6_tallyOf cX6_tallyOf 4 (some (.object "EchoBureau$Tally")) 3 := ⟨tw_325, tw_1, by decide +kernel, by decide +kernel, by decide +kernel⟩
theorem k_X6_tallyOf : Cond.instanceMethod yX6_tallyOf ∈ eg_T ∧ Cond.selects yX6_tallyOf.cls yX6_tallyOf yX6_tallyOf ∈ eg_T := ⟨tw_324, tp_X6_tallyOf⟩
theorem m_X5_begin : eg_M yX5_begin cX5_begin 2 none 1 := ⟨tw_329, tw_2, by decide +kernel, by decide +kernel, by decide +kernel⟩
theorem k_X5_begin : Cond.instanceMethod yX5_begin ∈ eg_T ∧ Cond.selects yX5_begin.cls yX5_begin yX5_begin ∈ eg_T := ⟨tw_328, tp_X5_begin⟩
theorem m_X0_throwBack : eg_M yX0_throwBack cX0_throwBack 9 none 4 := ⟨tw_333, tw_11, by decide +kernel, by decide +kernel, by decide +kernel⟩
theorem k_X0_throwBack : Cond.instanceMethod yX0_throwBack ∈ eg_T ∧ Cond.selects yX0_throwBack.cls yX0_throwBack yX0_throwBack ∈ eg_T := ⟨tw_332, tp_X0_throwBack⟩
theorem m_X4_throwRow : eg_M yX4_throwRow cX4_throwRow 9 none 4 := ⟨tw_337, tw_13, by decide +kernel, by decide +kernel, by decide +kernel⟩
theorem k_X4_throwRow : Cond.instanceMethod yX4_throwRow ∈ eg_T ∧ Cond.selects yX4_throwRow.cls yX4_throwRow yX4_throwRow ∈ eg_T := ⟨tw_336, tp_X4_throwRow⟩
theorem m_X2_hear : eg_M yX2_hear cX2_hear 4 none 2 := ⟨tw_348, tw_3, by decide +kernel, by decide +kernel, by decide +kernel⟩
theorem k_X2_hear : Cond.instanceMethod yX2_hear ∈ eg_T ∧ Cond.selects yX2_hear.cls (⟨"EchoBureau$Listener", "hear", "(II)V"⟩ : MethodName) yX2_hear ∈ eg_T := ⟨tw_346, tw_344⟩
theorem m_X5_hear : eg_M yX5_hear cX5_hear 3 none 2 := ⟨tw_354, tw_2, by decide +kernel, by decide +kernel, by decide +kernel⟩
theorem k_X5_hear : Cond.instanceMethod yX5_hear ∈ eg_T ∧ Cond.selects yX5_hear.cls (⟨"EchoBureau$Listener", "hear", "(II)V"⟩ : MethodName) yX5_hear ∈ eg_T := ⟨tw_352, tw_350⟩
theorem m_X6_loudEchoes : eg_M yX6_loudEchoes cX6_loudEchoes 5 (some .int) 3 := ⟨tw_358, tw_1, by decide +kernel, by decide +kernel, by decide +kernel⟩
theorem k_X6_loudEchoes : Cond.instanceMethod yX6_loudEchoes ∈ eg_T ∧ Cond.selects yX6_loudEchoes.cls yX6_loudEchoes yX6_loudEchoes ∈ eg_T := ⟨tw_356, tw_357⟩
theorem m_X6_firstEcho : eg_M yX6_firstEcho cX6_firstEcho 3 (some .int) 2 := ⟨tw_362, tw_1, by decide +kernel, by decide +kernel, by decide +kernel⟩
theorem k_X6_firstEcho : Cond.instanceMethod yX6_firstEcho ∈ eg_T ∧ Cond.selects yX6_firstEcho.cls yX6_firstEcho yX6_firstEcho ∈ eg_T := ⟨tw_360, tw_361⟩
theorem m_X6_lastEcho : eg_M yX6_lastEcho cX6_lastEcho 3 (some .int) 2 := ⟨tw_366, tw_1, by decide +kernel, by decide +kernel, by decide +kernel⟩
theorem k_X6_lastEcho : Cond.instanceMethod yX6_lastEcho ∈ eg_T ∧ Cond.selects yX6_lastEcho.cls yX6_lastEcho yX6_lastEcho ∈ eg_T := ⟨tw_364, tw_365⟩
theorem m_X6_loudnessAt : eg_M yX6_loudnessAt cX6_loudnessAt 5 (some .int) 3 := ⟨tw_370, tw_1, by decide +kernel, by decide +kernel, by decide +kernel⟩
theorem k_X6_loudnessAt : Cond.instanceMethod yX6_loudnessAt ∈ eg_T ∧ Cond.selects yX6_loudnessAt.cls yX6_loudnessAt yX6_loudnessAt ∈ eg_T := ⟨tw_368, tw_369⟩
theorem m_X6_loudnessesOf : eg_M yX6_loudnessesOf cX6_loudnessesOf 3 (some (.object "EchoBureau$Loudnesses")) 2 := ⟨tw_375, tw_1, by decide +kernel, by decide +kernel, by decide +kernel⟩
theorem k_X6_loudnessesOf : Cond.instanceMethod yX6_loudnessesOf ∈ eg_T ∧ Cond.selects yX6_loudnessesOf.cls yX6_loudnessesOf yX6_loudnessesOf ∈ eg_T := ⟨tw_374, tp_X6_loudnessesOf⟩
theorem m_X2_begin : eg_M yX2_begin cX2_begin 1 none 0 := ⟨tw_379, tw_3, by decide +kernel, by decide +kernel, by decide +kernel⟩
theorem k_X2_begin : Cond.instanceMethod yX2_begin ∈ eg_T ∧ Cond.selects yX2_begin.cls yX2_begin yX2_begin ∈ eg_T := ⟨tw_378, tp_X2_begin⟩
theorem m_J7_fill_53178 : eg_M yJ7_fill_53178 cJ7_fill_53178 4 none 2 := ⟨tw_382, tw_16, by decide +kernel, by decide +kernel, by decide +kernel⟩
theorem k_J7_fill_53178 : Cond.static yJ7_fill_53178 ∈ eg_T := tw_381
theorem m_X2_addedAt : eg_M yX2_addedAt cX2_addedAt 4 (some .int) 1 := ⟨tw_386, tw_3, by decide +kernel, by decide +kernel, by decide +kernel⟩
theorem k_X2_addedAt : Cond.instanceMethod yX2_addedAt ∈ eg_T ∧ Cond.selects yX2_addedAt.cls yX2_addedAt yX2_addedAt ∈ eg_T := ⟨tw_385, tp_X2_addedAt⟩
theorem m_X6_meets : eg_M yX6_meets cX6_meets 4 (some .boolean) 2 := ⟨tw_390, tw_1, by decide +kernel, by decide +kernel, by decide +kernel⟩
theorem k_X6_meets : Cond.instanceMethod yX6_meets ∈ eg_T ∧ Cond.selects yX6_meets.cls yX6_meets yX6_meets ∈ eg_T := ⟨tw_388, tw_389⟩
theorem m_X6_findStandard : eg_M yX6_findStandard cX6_findStandard 3 (some (.object "EchoBureau$Standard")) 1 := ⟨tw_394, tw_1, by decide +kernel, by decide +kernel, by decide +kernel⟩
theorem k_X6_findStandard : Cond.instanceMethod yX6_findStandard ∈ eg_T ∧ Cond.selects yX6_findStandard.cls yX6_findStandard yX6_findStandard ∈ eg_T := ⟨tw_393, tp_X6_findStandard⟩
theorem m_X6_meetsNow : eg_M yX6_meetsNow cX6_meetsNow 3 (some .boolean) 2 := ⟨tw_400, tw_1, by decide +kernel, by decide +kernel, by decide +kernel⟩
theorem k_X6_meetsNow : Cond.instanceMethod yX6_meetsNow ∈ eg_T ∧ Cond.selects yX6_meetsNow.cls yX6_meetsNow yX6_meetsNow ∈ eg_T := ⟨tw_399, tp_X6_meetsNow⟩
theorem m_X6_wouldMeet : eg_M yX6_wouldMeet cX6_wouldMeet 5 (some .boolean) 4 := ⟨tw_404, tw_1, by decide +kernel, by decide +kernel, by decide +kernel⟩
theorem k_X6_wouldMeet : Cond.instanceMethod yX6_wouldMeet ∈ eg_T ∧ Cond.selects yX6_wouldMeet.cls yX6_wouldMeet yX6_wouldMeet ∈ eg_T := ⟨tw_403, tp_X6_wouldMeet⟩
theorem m_X3_allows : eg_M yX3_allows cX3_allows 2 (some .boolean) 1 := ⟨tw_409, tw_14, by decide +kernel, by decide +kernel, by decide +kernel⟩
theorem k_X3_allows : Cond.instanceMethod yX3_allows ∈ eg_T ∧ Cond.selects yX3_allows.cls yX3_allows yX3_allows ∈ eg_T := ⟨tw_407, tp_X3_allows⟩
theorem m_X6_hallsMeeting : eg_M yX6_hallsMeeting cX6_hallsMeeting 8 (some .int) 1 := ⟨tw_413, tw_1, by decide +kernel, by decide +kernel, by decide +kernel⟩
theorem k_X6_hallsMeeting : Cond.instanceMethod yX6_hallsMeeting ∈ eg_T ∧ Cond.selects yX6_hallsMeeting.cls yX6_hallsMeeting yX6_hallsMeeting ∈ eg_T := ⟨tw_411, tw_412⟩
theorem m_X6_isCertified : eg_M yX6_isCertified cX6_isCertified 2 (some .boolean) 1 := ⟨tw_417, tw_1, by decide +kernel, by decide +kernel, by decide +kernel⟩
theorem k_X6_isCertified : Cond.instanceMethod yX6_isCertified ∈ eg_T ∧ Cond.selects yX6_isCertified.cls yX6_isCertified yX6_isCertified ∈ eg_T := ⟨tw_415, tw_416⟩
theorem m_X0_hasCertificate : eg_M yX0_hasCertificate cX0_hasCertificate 1 (some .boolean) 0 := ⟨tw_421, tw_11, by decide +kernel, by decide +kernel, by decide +kernel⟩
theorem k_X0_hasCertificate : Cond.instanceMethod yX0_hasCertificate ∈ eg_T ∧ Cond.selects yX0_hasCertificate.cls yX0_hasCertificate yX0_hasCertificate ∈ eg_T := ⟨tw_420, tp_X0_hasCertificate⟩
theorem m_X6_daysLeft : eg_M yX6_daysLeft cX6_daysLeft 2 (some .int) 1 := ⟨tw_425, tw_1, by decide +kernel, by decide +kernel, by decide +kernel⟩
theorem k_X6_daysLeft : Cond.instanceMethod yX6_daysLeft ∈ eg_T ∧ Cond.selects yX6_daysLeft.cls yX6_daysLeft yX6_daysLeft ∈ eg_T := ⟨tw_423, tw_424⟩
theorem m_X6_halls : eg_M yX6_halls cX6_halls 1 (some .int) 0 := ⟨tw_429, tw_1, by decide +kernel, by decide +kernel, by decide +kernel⟩
theorem k_X6_halls : Cond.instanceMethod yX6_halls ∈ eg_T ∧ Cond.selects yX6_halls.cls yX6_halls yX6_halls ∈ eg_T := ⟨tw_427, tw_428⟩
theorem m_X6_standards : eg_M yX6_standards cX6_standards 1 (some .int) 0 := ⟨tw_433, tw_1, by decide +kernel, by decide +kernel, by decide +kernel⟩
theorem k_X6_standards : Cond.instanceMethod yX6_standards ∈ eg_T ∧ Cond.selects yX6_standards.cls yX6_standards yX6_standards ∈ eg_T := ⟨tw_431, tw_432⟩
theorem m_X6_certifiedHalls : eg_M yX6_certifiedHalls cX6_certifiedHalls 1 (some .int) 0 := ⟨tw_437, tw_1, by decide +kernel, by decide +kernel, by decide +kernel⟩
theorem k_X6_certifiedHalls : Cond.instanceMethod yX6_certifiedHalls ∈ eg_T ∧ Cond.selects yX6_certifiedHalls.cls yX6_certifiedHalls yX6_certifiedHalls ∈ eg_T := ⟨tw_435, tw_436⟩
theorem m_X6_countCertified : eg_M yX6_countCertified cX6_countCertified 6 (some .int) 0 := ⟨tw_441, tw_1, by decide +kernel, by decide +kernel, by decide +kernel⟩
theorem k_X6_countCertified : Cond.instanceMethod yX6_countCertified ∈ eg_T ∧ Cond.selects yX6_countCertified.cls yX6_countCertified yX6_countCertified ∈ eg_T := ⟨tw_440, tp_X6_countCertified⟩
theorem m_X6_meetsWithDamping : eg_M yX6_meetsWithDamping cX6_meetsWithDamping 6 (some .boolean) 3 := ⟨tw_445, tw_1, by decide +kernel, by decide +kernel, by decide +kernel⟩
theorem k_X6_meetsWithDamping : Cond.instanceMethod yX6_meetsWithDamping ∈ eg_T ∧ Cond.selects yX6_meetsWithDamping.cls yX6_meetsWithDamping yX6_meetsWithDamping ∈ eg_T := ⟨tw_443, tw_444⟩
theorem m_X6_meanDamping : eg_M yX6_meanDamping cX6_meanDamping 6 (some .double) 0 := ⟨tw_449, tw_1, by decide +kernel, by decide +kernel, by decide +kernel⟩
theorem k_X6_meanDamping : Cond.instanceMethod yX6_meanDamping ∈ eg_T ∧ Cond.selects yX6_meanDamping.cls yX6_meanDamping yX6_meanDamping ∈ eg_T := ⟨tw_447, tw_448⟩
theorem m_X8_isSame : eg_M yX8_isSame cX8_isSame 8 (some .boolean) 2 := ⟨tw_453, tw_4, by decide +kernel, by decide +kernel, by decide +kernel⟩
theorem k_X8_isSame : Cond.instanceMethod yX8_isSame ∈ eg_T ∧ Cond.selects yX8_isSame.cls yX8_isSame yX8_isSame ∈ eg_T := ⟨tw_451, tw_452⟩
theorem m_X6_day : eg_M yX6_day cX6_day 1 (some .int) 0 := ⟨tw_459, tw_1, by decide +kernel, by decide +kernel, by decide +kernel⟩
theorem k_X6_day : Cond.instanceMethod yX6_day ∈ eg_T ∧ Cond.selects yX6_day.cls yX6_day yX6_day ∈ eg_T := ⟨tw_457, tw_458⟩
theorem m_X6_inspections : eg_M yX6_inspections cX6_inspections 1 (some .int) 0 := ⟨tw_463, tw_1, by decide +kernel, by decide +kernel, by decide +kernel⟩
theorem k_X6_inspections : Cond.instanceMethod yX6_inspections ∈ eg_T ∧ Cond.selects yX6_inspections.cls yX6_inspections yX6_inspections ∈ eg_T := ⟨tw_461, tw_462⟩
theorem m_X8_certified : eg_M yX8_certified cX8_certified 6 (some .int) 0 := ⟨tw_468, tw_4, by decide +kernel, by decide +kernel, by decide +kernel⟩
theorem k_X8_certified : Cond.instanceMethod yX8_certified ∈ eg_T ∧ Cond.selects yX8_certified.cls yX8_certified yX8_certified ∈ eg_T := ⟨tw_466, tw_467⟩
theorem m_X6_certifiedBy : eg_M yX6_certifiedBy cX6_certifiedBy 3 (some .int) 1 := ⟨tw_476, tw_1, by decide +kernel, by decide +kernel, by decide +kernel⟩
theorem k_X6_certifiedBy : Cond.instanceMethod yX6_certifiedBy ∈ eg_T ∧ Cond.selects yX6_certifiedBy.cls yX6_certifiedBy yX6_certifiedBy ∈ eg_T := ⟨tw_474, tw_475⟩
theorem m_X6_checkCertificate : eg_M yX6_checkCertificate cX6_checkCertificate 1 none 1 := ⟨tw_479, tw_1, by decide +kernel, by decide +kernel, by decide +kernel⟩
theorem k_X6_checkCertificate : Cond.static yX6_checkCertificate ∈ eg_T := tw_478
theorem m_X7_hard : eg_M yX7_hard cX7_hard 3 (some .int) 2 := ⟨tw_487, tw_5, by decide +kernel, by decide +kernel, by decide +kernel⟩
theorem k_X7_hard : Cond.instanceMethod yX7_hard ∈ eg_T ∧ Cond.selects yX7_hard.cls yX7_hard yX7_hard ∈ eg_T := ⟨tw_485, tw_486⟩
theorem m_X7_echoes : eg_M yX7_echoes cX7_echoes 9 (some (.array .int)) 4 := ⟨tw_492, tw_5, by decide +kernel, by decide +kernel, by decide +kernel⟩
theorem k_X7_echoes : Cond.instanceMethod yX7_echoes ∈ eg_T ∧ Cond.selects yX7_echoes.cls yX7_echoes yX7_echoes ∈ eg_T := ⟨tw_490, tw_491⟩
theorem m_X7_meets : eg_M yX7_meets cX7_meets 5 (some .boolean) 3 := ⟨tw_505, tw_5, by decide +kernel, by decide +kernel, by decide +kernel⟩
theorem k_X7_meets : Cond.instanceMethod yX7_meets ∈ eg_T ∧ Cond.selects yX7_meets.cls yX7_meets yX7_meets ∈ eg_T := ⟨tw_503, tw_504⟩
theorem m_L_below : eg_M yL_below cL_below 2 (some .int) 2 := ⟨tw_510, tw_0, by decide +kernel, by decide +kernel, by decide +kernel⟩
theorem k_L_below : Cond.static yL_below ∈ eg_T := tw_509
theorem m_L_cell : eg_M yL_cell cL_cell 2 (some .int) 2 := ⟨tw_514, tw_0, by decide +kernel, by decide +kernel, by decide +kernel⟩
theorem k_L_cell : Cond.static yL_cell ∈ eg_T := tw_513
theorem m_L_act : eg_M yL_act cL_act 19 (some .boolean) 3 := ⟨tw_518, tw_0, by decide +kernel, by decide +kernel, by decide +kernel⟩
theorem k_L_act : Cond.static yL_act ∈ eg_T := tw_517
theorem m_X7_init : eg_M yX7_init cX7_init 1 none 0 := ⟨tw_524, tw_5, by decide +kernel, by decide +kernel, by decide +kernel⟩
theorem k_X7_init : Cond.instanceMethod yX7_init ∈ eg_T ∧ yX7_init.name = "<init>" := ⟨tw_523, rfl⟩
theorem m_X8_with : eg_M yX8_with cX8_with 4 (some (.array (.array .int))) 2 := ⟨tw_554, tw_4, by decide +kernel, by decide +kernel, by decide +kernel⟩
theorem k_X8_with : Cond.static yX8_with ∈ eg_T := tw_553
theorem m_X7_strike : eg_M yX7_strike cX7_strike 1 none 0 := ⟨tw_559, tw_5, by decide +kernel, by decide +kernel, by decide +kernel⟩
theorem k_X7_strike : Cond.instanceMethod yX7_strike ∈ eg_T ∧ Cond.selects yX7_strike.cls yX7_strike yX7_strike ∈ eg_T := ⟨tw_557, tw_558⟩
theorem m_X6_moveSurface : eg_M yX6_moveSurface cX6_moveSurface 7 (some .int) 3 := ⟨tw_563, tw_1, by decide +kernel, by decide +kernel, by decide +kernel⟩
theorem k_X6_moveSurface : Cond.instanceMethod yX6_moveSurface ∈ eg_T ∧ Cond.selects yX6_moveSurface.cls yX6_moveSurface yX6_moveSurface ∈ eg_T := ⟨tw_561, tw_562⟩
theorem m_X6_setDamping : eg_M yX6_setDamping cX6_setDamping 5 (some .int) 2 := ⟨tw_567, tw_1, by decide +kernel, by decide +kernel, by decide +kernel⟩
theorem k_X6_setDamping : Cond.instanceMethod yX6_setDamping ∈ eg_T ∧ Cond.selects yX6_setDamping.cls yX6_setDamping yX6_setDamping ∈ eg_T := ⟨tw_565, tw_566⟩
theorem m_X6_clean : eg_M yX6_clean cX6_clean 4 (some .int) 1 := ⟨tw_571, tw_1, by decide +kernel, by decide +kernel, by decide +kernel⟩
theorem k_X6_clean : Cond.instanceMethod yX6_clean ∈ eg_T ∧ Cond.selects yX6_clean.cls yX6_clean yX6_clean ∈ eg_T := ⟨tw_569, tw_570⟩
theorem m_X6_addStandard : eg_M yX6_addStandard cX6_addStandard 8 (some .int) 5 := ⟨tw_575, tw_1, by decide +kernel, by decide +kernel, by decide +kernel⟩
theorem k_X6_addStandard : Cond.instanceMethod yX6_addStandard ∈ eg_T ∧ Cond.selects yX6_addStandard.cls yX6_addStandard yX6_addStandard ∈ eg_T := ⟨tw_573, tw_574⟩
theorem m_X3_init : eg_M yX3_init cX3_init 6 none 5 := ⟨tw_580, tw_14, by decide +kernel, by decide +kernel, by decide +kernel⟩
theorem k_X3_init : Cond.instanceMethod yX3_init ∈ eg_T ∧ yX3_init.name = "<init>" := ⟨tw_579, rfl⟩
theorem m_X6_inspect : eg_M yX6_inspect cX6_inspect 6 (some .boolean) 2 := ⟨tw_604, tw_1, by decide +kernel, by decide +kernel, by decide +kernel⟩
theorem k_X6_inspect : Cond.instanceMethod yX6_inspect ∈ eg_T ∧ Cond.selects yX6_inspect.cls yX6_inspect yX6_inspect ∈ eg_T := ⟨tw_602, tw_603⟩
theorem m_X0_takeCertificate : eg_M yX0_takeCertificate cX0_takeCertificate 3 none 2 := ⟨tw_608, tw_11, by decide +kernel, by decide +kernel, by decide +kernel⟩
theorem k_X0_takeCertificate : Cond.instanceMethod yX0_takeCertificate ∈ eg_T ∧ Cond.selects yX0_takeCertificate.cls yX0_takeCertificate yX0_takeCertificate ∈ eg_T := ⟨tw_607, tp_X0_takeCertificate⟩
theorem m_X6_revoke : eg_M yX6_revoke cX6_revoke 4 (some .int) 1 := ⟨tw_612, tw_1, by decide +kernel, by decide +kernel, by decide +kernel⟩
theorem k_X6_revoke : Cond.instanceMethod yX6_revoke ∈ eg_T ∧ Cond.selects yX6_revoke.cls yX6_revoke yX6_revoke ∈ eg_T := ⟨tw_610, tw_611⟩
theorem m_X8_pass : eg_M yX8_pass cX8_pass 5 none 0 := ⟨tw_616, tw_4, by decide +kernel, by decide +kernel, by decide +kernel⟩
theorem k_X8_pass : Cond.instanceMethod yX8_pass ∈ eg_T ∧ Cond.selects yX8_pass.cls yX8_pass yX8_pass ∈ eg_T := ⟨tw_614, tw_615⟩
theorem m_X6_passDays : eg_M yX6_passDays cX6_passDays 6 (some .int) 1 := ⟨tw_621, tw_1, by decide +kernel, by decide +kernel, by decide +kernel⟩
theorem k_X6_passDays : Cond.instanceMethod yX6_passDays ∈ eg_T ∧ Cond.selects yX6_passDays.cls yX6_passDays yX6_passDays ∈ eg_T := ⟨tw_619, tw_620⟩
theorem m_X0_growOlder : eg_M yX0_growOlder cX0_growOlder 2 none 1 := ⟨tw_626, tw_11, by decide +kernel, by decide +kernel, by decide +kernel⟩
theorem k_X0_growOlder : Cond.instanceMethod yX0_growOlder ∈ eg_T ∧ Cond.selects yX0_growOlder.cls yX0_growOlder yX0_growOlder ∈ eg_T := ⟨tw_625, tp_X0_growOlder⟩
theorem m_X0_dustBehind : eg_M yX0_dustBehind cX0_dustBehind 2 (some .int) 1 := ⟨tw_630, tw_11, by decide +kernel, by decide +kernel, by decide +kernel⟩
theorem k_X0_dustBehind : Cond.instanceMethod yX0_dustBehind ∈ eg_T ∧ Cond.selects yX0_dustBehind.cls yX0_dustBehind yX0_dustBehind ∈ eg_T := ⟨tw_629, tp_X0_dustBehind⟩
theorem m_L_build : eg_M yL_build cL_build 5 (some (.object "EchoBureauLaw$Sim")) 2 := ⟨tw_636, tw_0, by decide +kernel, by decide +kernel, by decide +kernel⟩
theorem k_L_build : Cond.static yL_build ∈ eg_T := tw_635
theorem m_X8_init : eg_M yX8_init cX8_init 1 none 0 := ⟨tw_641, tw_4, by decide +kernel, by decide +kernel, by decide +kernel⟩
theorem k_X8_init : Cond.instanceMethod yX8_init ∈ eg_T ∧ yX8_init.name = "<init>" := ⟨tw_640, rfl⟩
end
section
theorem dX0_init_0 : decode cX0_init 0 = .ok (.aload_n 0, 1) := by decide +kernel
theorem dX0_init_1 : decode cX0_init 1 = .ok (.invokespecial 3, 3) := by decide +kernel
theorem dX0_init_4 : decode cX0_init 4 = .ok (.aload_n 0, 1) := by decide +kernel
theorem dX0_init_5 : decode cX0_init 5 = .ok (.bipush 6, 2) := by decide +kernel
theorem dX0_init_7 : decode cX0_init 7 = .ok (.anewarray 9, 3) := by decide +kernel
theorem dX0_init_10 : decode cX0_init 10 = .ok (.putfield 11, 3) := by decide +kernel
theorem dX0_init_13 : decode cX0_init 13 = .ok (.aload_n 0, 1) := by decide +kernel
theorem dX0_init_14 : decode cX0_init 14 = .ok (.iconst (-1), 1) := by decide +kernel
theorem dX0_init_15 : decode cX0_init 15 = .ok (.putfield 17, 3) := by decide +kernel
theorem dX0_init_18 : decode cX0_init 18 = .ok (.aload_n 0, 1) := by decide +kernel
theorem dX0_init_19 : decode cX0_init 19 = .ok (.iload_n 1, 1) := by decide +kernel
theorem dX0_init_20 : decode cX0_init 20 = .ok (.putfield 21, 3) := by decide +kernel
theorem dX0_init_23 : decode cX0_init 23 = .ok (.return_, 1) := by decide +kernel
theorem dX0_isFull_0 : decode cX0_isFull 0 = .ok (.aload_n 0, 1) := by decide +kernel
theorem dX0_isFull_1 : decode cX0_isFull 1 = .ok (.getfield 24, 3) := by decide +kernel
theorem dX0_isFull_4 : decode cX0_isFull 4 = .ok (.aload_n 0, 1) := by decide +kernel
theorem dX0_isFull_5 : decode cX0_isFull 5 = .ok (.getfield 11, 3) := by decide +kernel
theorem dX0_isFull_8 : decode cX0_isFull 8 = .ok (.arraylength, 1) := by decide +kernel
theorem dX0_isFull_9 : decode cX0_isFull 9 = .ok (.if_icmp .lt 7, 3) := by decide +kernel
theorem dX0_isFull_12 : decode cX0_isFull 12 = .ok (.iconst 1, 1) := by decide +kernel
theorem dX0_isFull_13 : decode cX0_isFull 13 = .ok (.goto 4, 3) := by decide +kernel
theorem dX0_isFull_16 : decode cX0_isFull 16 = .ok (.iconst 0, 1) := by decide +kernel
theorem dX0_isFull_17 : decode cX0_isFull 17 = .ok (.ireturn, 1) := by decide +kernel
theorem dX0_build_0 : decode cX0_build 0 = .ok (.aload_n 0, 1) := by decide +kernel
theorem dX0_build_1 : decode cX0_build 1 = .ok (.getfield 24, 3) := by decide +kernel
theorem dX0_build_4 : decode cX0_build 4 = .ok (.istore_n 2, 1) := by decide +kernel
theorem dX0_build_5 : decode cX0_build 5 = .ok (.iload_n 2, 1) := by decide +kernel
theorem dX0_build_6 : decode cX0_build 6 = .ok (.ifCond .lt 29, 3) := by decide +kernel
theorem dX0_build_9 : decode cX0_build 9 = .ok (.iload_n 2, 1) := by decide +kernel
theorem dX0_build_10 : decode cX0_build 10 = .ok (.aload_n 0, 1) := by decide +kernel
theorem dX0_build_11 : decode cX0_build 11 = .ok (.getfield 11, 3) := by decide +kernel
theorem dX0_build_14 : decode cX0_build 14 = .ok (.arraylength, 1) := by decide +kernel
theorem dX0_build_15 : decode cX0_build 15 = .ok (.if_icmp .ge 20, 3) := by decide +kernel
theorem dX0_build_18 : decode cX0_build 18 = .ok (.aload_n 0, 1) := by decide +kernel
theorem dX0_build_19 : decode cX0_build 19 = .ok (.getfield 11, 3) := by decide +kernel
theorem dX0_build_22 : decode cX0_build 22 = .ok (.iload_n 2, 1) := by decide +kernel
theorem dX0_build_23 : decode cX0_build 23 = .ok (.aload_n 1, 1) := by decide +kernel
theorem dX0_build_24 : decode cX0_build 24 = .ok (.aastore, 1) := by decide +kernel
theorem dX0_build_25 : decode cX0_build 25 = .ok (.aload_n 0, 1) := by decide +kernel
theorem dX0_build_26 : decode cX0_build 26 = .ok (.dup, 1) := by decide +kernel
theorem dX0_build_27 : decode cX0_build 27 = .ok (.getfield 24, 3) := by decide +kernel
theorem dX0_build_30 : decode cX0_build 30 = .ok (.iconst 1, 1) := by decide +kernel
theorem dX0_build_31 : decode cX0_build 31 = .ok (.iadd, 1) := by decide +kernel
theorem dX0_build_32 : decode cX0_build 32 = .ok (.putfield 24, 3) := by decide +kernel
theorem dX0_build_35 : decode cX0_build 35 = .ok (.iload_n 2, 1) := by decide +kernel
theorem dX0_build_36 : decode cX0_build 36 = .ok (.ireturn, 1) := by decide +kernel
theorem dX0_hasCertificate_0 : decode cX0_hasCertificate 0 = .ok (.aload_n 0, 1) := by decide +kernel
theorem dX0_hasCertificate_1 : decode cX0_hasCertificate 1 = .ok (.getfield 17, 3) := by decide +kernel
theorem dX0_hasCertificate_4 : decode cX0_hasCertificate 4 = .ok (.iconst (-1), 1) := by decide +kernel
theorem dX0_hasCertificate_5 : decode cX0_hasCertificate 5 = .ok (.if_icmp .eq 7, 3) := by decide +kernel
theorem dX0_hasCertificate_8 : decode cX0_hasCertificate 8 = .ok (.iconst 1, 1) := by decide +kernel
theorem dX0_hasCertificate_9 : decode cX0_hasCertificate 9 = .ok (.goto 4, 3) := by decide +kernel
theorem dX0_hasCertificate_12 : decode cX0_hasCertificate 12 = .ok (.iconst 0, 1) := by decide +kernel
theorem dX0_hasCertificate_13 : decode cX0_hasCertificate 13 = .ok (.ireturn, 1) := by decide +kernel
theorem dX0_takeCertificate_0 : decode cX0_takeCertificate 0 = .ok (.aload_n 0, 1) := by decide +kernel
theorem dX0_takeCertificate_1 : decode cX0_takeCertificate 1 = .ok (.iload_n 1, 1) := by decide +kernel
theorem dX0_takeCertificate_2 : decode cX0_takeCertificate 2 = .ok (.putfield 17, 3) := by decide +kernel
theorem dX0_takeCertificate_5 : decode cX0_takeCertificate 5 = .ok (.aload_n 0, 1) := by decide +kernel
theorem dX0_takeCertificate_6 : decode cX0_takeCertificate 6 = .ok (.iload_n 2, 1) := by decide +kernel
theorem dX0_takeCertificate_7 : decode cX0_takeCertificate 7 = .ok (.putfield 27, 3) := by decide +kernel
theorem dX0_takeCertificate_10 : decode cX0_takeCertificate 10 = .ok (.return_, 1) := by decide +kernel
theorem dX0_loseCertificate_0 : decode cX0_loseCertificate 0 = .ok (.aload_n 0, 1) := by decide +kernel
theorem dX0_loseCertificate_1 : decode cX0_loseCertificate 1 = .ok (.iconst (-1), 1) := by decide +kernel
theorem dX0_loseCertificate_2 : decode cX0_loseCertificate 2 = .ok (.putfield 17, 3) := by decide +kernel
theorem dX0_loseCertificate_5 : decode cX0_loseCertificate 5 = .ok (.aload_n 0, 1) := by decide +kernel
theorem dX0_loseCertificate_6 : decode cX0_loseCertificate 6 = .ok (.iconst 0, 1) := by decide +kernel
theorem dX0_loseCertificate_7 : decode cX0_loseCertificate 7 = .ok (.putfield 27, 3) := by decide +kernel
theorem dX0_loseCertificate_10 : decode cX0_loseCertificate 10 = .ok (.return_, 1) := by decide +kernel
theorem dX0_dustBehind_0 : decode cX0_dustBehind 0 = .ok (.bipush 100, 2) := by decide +kernel
theorem dX0_dustBehind_2 : decode cX0_dustBehind 2 = .ok (.aload_n 0, 1) := by decide +kernel
theorem dX0_dustBehind_3 : decode cX0_dustBehind 3 = .ok (.getfield 30, 3) := by decide +kernel
theorem dX0_dustBehind_6 : decode cX0_dustBehind 6 = .ok (.iload_n 1, 1) := by decide +kernel
theorem dX0_dustBehind_7 : decode cX0_dustBehind 7 = .ok (.iadd, 1) := by decide +kernel
theorem dX0_dustBehind_8 : decode cX0_dustBehind 8 = .ok (.invokestatic 33, 3) := by decide +kernel
theorem dX0_dustBehind_11 : decode cX0_dustBehind 11 = .ok (.ireturn, 1) := by decide +kernel
theorem dX0_growOlder_0 : decode cX0_growOlder 0 = .ok (.aload_n 0, 1) := by decide +kernel
theorem dX0_growOlder_1 : decode cX0_growOlder 1 = .ok (.aload_n 0, 1) := by decide +kernel
theorem dX0_growOlder_2 : decode cX0_growOlder 2 = .ok (.iload_n 1, 1) := by decide +kernel
theorem dX0_growOlder_3 : decode cX0_growOlder 3 = .ok (.invokevirtual 39, 3) := by decide +kernel
theorem dX0_growOlder_6 : decode cX0_growOlder 6 = .ok (.putfield 30, 3) := by decide +kernel
theorem dX0_growOlder_9 : decode cX0_growOlder 9 = .ok (.aload_n 0, 1) := by decide +kernel
theorem dX0_growOlder_10 : decode cX0_growOlder 10 = .ok (.getfield 27, 3) := by decide +kernel
theorem dX0_growOlder_13 : decode cX0_growOlder 13 = .ok (.iload_n 1, 1) := by decide +kernel
theorem dX0_growOlder_14 : decode cX0_growOlder 14 = .ok (.if_icmp .le 16, 3) := by decide +kernel
theorem dX0_growOlder_17 : decode cX0_growOlder 17 = .ok (.aload_n 0, 1) := by decide +kernel
theorem dX0_growOlder_18 : decode cX0_growOlder 18 = .ok (.dup, 1) := by decide +kernel
theorem dX0_growOlder_19 : decode cX0_growOlder 19 = .ok (.getfield 27, 3) := by decide +kernel
theorem dX0_growOlder_22 : decode cX0_growOlder 22 = .ok (.iload_n 1, 1) := by decide +kernel
theorem dX0_growOlder_23 : decode cX0_growOlder 23 = .ok (.isub, 1) := by decide +kernel
theorem dX0_growOlder_24 : decode cX0_growOlder 24 = .ok (.putfield 27, 3) := by decide +kernel
theorem dX0_growOlder_27 : decode cX0_growOlder 27 = .ok (.goto 7, 3) := by decide +kernel
theorem dX0_growOlder_30 : decode cX0_growOlder 30 = .ok (.aload_n 0, 1) := by decide +kernel
theorem dX0_growOlder_31 : decode cX0_growOlder 31 = .ok (.invokevirtual 43, 3) := by decide +kernel
theorem dX0_growOlder_34 : decode cX0_growOlder 34 = .ok (.return_, 1) := by decide +kernel
theorem dX0_throwBack_0 : decode cX0_throwBack 0 = .ok (.aload_n 0, 1) := by decide +kernel
theorem dX0_throwBack_1 : decode cX0_throwBack 1 = .ok (.getfield 11, 3) := by decide +kernel
theorem dX0_throwBack_4 : decode cX0_throwBack 4 = .ok (.astore 5, 2) := by decide +kernel
theorem dX0_throwBack_6 : decode cX0_throwBack 6 = .ok (.aload 5, 2) := by decide +kernel
theorem dX0_throwBack_8 : decode cX0_throwBack 8 = .ok (.arraylength, 1) := by decide +kernel
theorem dX0_throwBack_9 : decode cX0_throwBack 9 = .ok (.istore 6, 2) := by decide +kernel
theorem dX0_throwBack_11 : decode cX0_throwBack 11 = .ok (.iconst 0, 1) := by decide +kernel
theorem dX0_throwBack_12 : decode cX0_throwBack 12 = .ok (.istore 7, 2) := by decide +kernel
theorem dX0_throwBack_14 : decode cX0_throwBack 14 = .ok (.iload 7, 2) := by decide +kernel
theorem dX0_throwBack_16 : decode cX0_throwBack 16 = .ok (.iload 6, 2) := by decide +kernel
theorem dX0_throwBack_18 : decode cX0_throwBack 18 = .ok (.if_icmp .ge 31, 3) := by decide +kernel
theorem dX0_throwBack_21 : decode cX0_throwBack 21 = .ok (.aload 5, 2) := by decide +kernel
theorem dX0_throwBack_23 : decode cX0_throwBack 23 = .ok (.iload 7, 2) := by decide +kernel
theorem dX0_throwBack_25 : decode cX0_throwBack 25 = .ok (.aaload, 1) := by decide +kernel
theorem dX0_throwBack_26 : decode cX0_throwBack 26 = .ok (.astore 8, 2) := by decide +kernel
theorem dX0_throwBack_28 : decode cX0_throwBack 28 = .ok (.aload 8, 2) := by decide +kernel
theorem dX0_throwBack_30 : decode cX0_throwBack 30 = .ok (.ifnull 13, 3) := by decide +kernel
theorem dX0_throwBack_33 : decode cX0_throwBack 33 = .ok (.aload 8, 2) := by decide +kernel
theorem dX0_throwBack_35 : decode cX0_throwBack 35 = .ok (.iload_n 1, 1) := by decide +kernel
theorem dX0_throwBack_36 : decode cX0_throwBack 36 = .ok (.iload_n 2, 1) := by decide +kernel
theorem dX0_throwBack_37 : decode cX0_throwBack 37 = .ok (.iload_n 3, 1) := by decide +kernel
theorem dX0_throwBack_38 : decode cX0_throwBack 38 = .ok (.aload 4, 2) := by decide +kernel
theorem dX0_throwBack_40 : decode cX0_throwBack 40 = .ok (.invokevirtual 46, 3) := by decide +kernel
theorem dX0_throwBack_43 : decode cX0_throwBack 43 = .ok (.iinc 7 1, 3) := by decide +kernel
theorem dX0_throwBack_46 : decode cX0_throwBack 46 = .ok (.goto (-32), 3) := by decide +kernel
theorem dX0_throwBack_49 : decode cX0_throwBack 49 = .ok (.return_, 1) := by decide +kernel
theorem dX2_init_0 : decode cX2_init 0 = .ok (.aload_n 0, 1) := by decide +kernel
theorem dX2_init_1 : decode cX2_init 1 = .ok (.invokespecial 3, 3) := by decide +kernel
theorem dX2_init_4 : decode cX2_init 4 = .ok (.aload_n 0, 1) := by decide +kernel
theorem dX2_init_5 : decode cX2_init 5 = .ok (.sipush 501, 3) := by decide +kernel
theorem dX2_init_8 : decode cX2_init 8 = .ok (.newarray .int, 2) := by decide +kernel
theorem dX2_init_10 : decode cX2_init 10 = .ok (.putfield 9, 3) := by decide +kernel
theorem dX2_init_13 : decode cX2_init 13 = .ok (.return_, 1) := by decide +kernel
theorem dX2_begin_0 : decode cX2_begin 0 = .ok (.aload_n 0, 1) := by decide +kernel
theorem dX2_begin_1 : decode cX2_begin 1 = .ok (.getfield 9, 3) := by decide +kernel
theorem dX2_begin_4 : decode cX2_begin 4 = .ok (.iconst 0, 1) := by decide +kernel
theorem dX2_begin_5 : decode cX2_begin 5 = .ok (.invokestatic 15, 3) := by decide +kernel
theorem dX2_begin_8 : decode cX2_begin 8 = .ok (.return_, 1) := by decide +kernel
theorem dX2_hear_0 : decode cX2_hear 0 = .ok (.iload_n 1, 1) := by decide +kernel
theorem dX2_hear_1 : decode cX2_hear 1 = .ok (.bipush 6, 2) := by decide +kernel
theorem dX2_hear_3 : decode cX2_hear 3 = .ok (.idiv, 1) := by decide +kernel
theorem dX2_hear_4 : decode cX2_hear 4 = .ok (.istore_n 3, 1) := by decide +kernel
theorem dX2_hear_5 : decode cX2_hear 5 = .ok (.iload_n 3, 1) := by decide +kernel
theorem dX2_hear_6 : decode cX2_hear 6 = .ok (.ifCond .lt 22, 3) := by decide +kernel
theorem dX2_hear_9 : decode cX2_hear 9 = .ok (.iload_n 3, 1) := by decide +kernel
theorem dX2_hear_10 : decode cX2_hear 10 = .ok (.aload_n 0, 1) := by decide +kernel
theorem dX2_hear_11 : decode cX2_hear 11 = .ok (.getfield 9, 3) := by decide +kernel
theorem dX2_hear_14 : decode cX2_hear 14 = .ok (.arraylength, 1) := by decide +kernel
theorem dX2_hear_15 : decode cX2_hear 15 = .ok (.if_icmp .ge 13, 3) := by decide +kernel
theorem dX2_hear_18 : decode cX2_hear 18 = .ok (.aload_n 0, 1) := by decide +kernel
theorem dX2_hear_19 : decode cX2_hear 19 = .ok (.getfield 9, 3) := by decide +kernel
theorem dX2_hear_22 : decode cX2_hear 22 = .ok (.iload_n 3, 1) := by decide +kernel
theorem dX2_hear_23 : decode cX2_hear 23 = .ok (.dup2, 1) := by decide +kernel
theorem dX2_hear_24 : decode cX2_hear 24 = .ok (.iaload, 1) := by decide +kernel
theorem dX2_hear_25 : decode cX2_hear 25 = .ok (.iload_n 2, 1) := by decide +kernel
theorem dX2_hear_26 : decode cX2_hear 26 = .ok (.iadd, 1) := by decide +kernel
theorem dX2_hear_27 : decode cX2_hear 27 = .ok (.iastore, 1) := by decide +kernel
theorem dX2_hear_28 : decode cX2_hear 28 = .ok (.return_, 1) := by decide +kernel
theorem dX2_addedAt_0 : decode cX2_addedAt 0 = .ok (.iload_n 1, 1) := by decide +kernel
theorem dX2_addedAt_1 : decode cX2_addedAt 1 = .ok (.bipush 6, 2) := by decide +kernel
theorem dX2_addedAt_3 : decode cX2_addedAt 3 = .ok (.idiv, 1) := by decide +kernel
theorem dX2_addedAt_4 : decode cX2_addedAt 4 = .ok (.istore_n 2, 1) := by decide +kernel
theorem dX2_addedAt_5 : decode cX2_addedAt 5 = .ok (.iload_n 1, 1) := by decide +kernel
theorem dX2_addedAt_6 : decode cX2_addedAt 6 = .ok (.bipush 6, 2) := by decide +kernel
theorem dX2_addedAt_8 : decode cX2_addedAt 8 = .ok (.irem, 1) := by decide +kernel
theorem dX2_addedAt_9 : decode cX2_addedAt 9 = .ok (.ifCond .ne 20, 3) := by decide +kernel
theorem dX2_addedAt_12 : decode cX2_addedAt 12 = .ok (.iload_n 2, 1) := by decide +kernel
theorem dX2_addedAt_13 : decode cX2_addedAt 13 = .ok (.ifCond .lt 16, 3) := by decide +kernel
theorem dX2_addedAt_16 : decode cX2_addedAt 16 = .ok (.iload_n 2, 1) := by decide +kernel
theorem dX2_addedAt_17 : decode cX2_addedAt 17 = .ok (.aload_n 0, 1) := by decide +kernel
theorem dX2_addedAt_18 : decode cX2_addedAt 18 = .ok (.getfield 9, 3) := by decide +kernel
theorem dX2_addedAt_21 : decode cX2_addedAt 21 = .ok (.arraylength, 1) := by decide +kernel
theorem dX2_addedAt_22 : decode cX2_addedAt 22 = .ok (.if_icmp .ge 7, 3) := by decide +kernel
theorem dX2_addedAt_25 : decode cX2_addedAt 25 = .ok (.iconst 1, 1) := by decide +kernel
theorem dX2_addedAt_26 : decode cX2_addedAt 26 = .ok (.goto 4, 3) := by decide +kernel
theorem dX2_addedAt_29 : decode cX2_addedAt 29 = .ok (.iconst 0, 1) := by decide +kernel
theorem dX2_addedAt_30 : decode cX2_addedAt 30 = .ok (.istore_n 3, 1) := by decide +kernel
theorem dX2_addedAt_31 : decode cX2_addedAt 31 = .ok (.iload_n 3, 1) := by decide +kernel
theorem dX2_addedAt_32 : decode cX2_addedAt 32 = .ok (.ifCond .eq 12, 3) := by decide +kernel
theorem dX2_addedAt_35 : decode cX2_addedAt 35 = .ok (.aload_n 0, 1) := by decide +kernel
theorem dX2_addedAt_36 : decode cX2_addedAt 36 = .ok (.getfield 9, 3) := by decide +kernel
theorem dX2_addedAt_39 : decode cX2_addedAt 39 = .ok (.iload_n 2, 1) := by decide +kernel
theorem dX2_addedAt_40 : decode cX2_addedAt 40 = .ok (.iaload, 1) := by decide +kernel
theorem dX2_addedAt_41 : decode cX2_addedAt 41 = .ok (.goto 4, 3) := by decide +kernel
theorem dX2_addedAt_44 : decode cX2_addedAt 44 = .ok (.iconst 0, 1) := by decide +kernel
theorem dX2_addedAt_45 : decode cX2_addedAt 45 = .ok (.ireturn, 1) := by decide +kernel
theorem dX3_init_0 : decode cX3_init 0 = .ok (.aload_n 0, 1) := by decide +kernel
theorem dX3_init_1 : decode cX3_init 1 = .ok (.invokespecial 1, 3) := by decide +kernel
theorem dX3_init_4 : decode cX3_init 4 = .ok (.aload_n 0, 1) := by decide +kernel
theorem dX3_init_5 : decode cX3_init 5 = .ok (.iload_n 1, 1) := by decide +kernel
theorem dX3_init_6 : decode cX3_init 6 = .ok (.putfield 7, 3) := by decide +kernel
theorem dX3_init_9 : decode cX3_init 9 = .ok (.aload_n 0, 1) := by decide +kernel
theorem dX3_init_10 : decode cX3_init 10 = .ok (.iload_n 2, 1) := by decide +kernel
theorem dX3_init_11 : decode cX3_init 11 = .ok (.putfield 13, 3) := by decide +kernel
theorem dX3_init_14 : decode cX3_init 14 = .ok (.aload_n 0, 1) := by decide +kernel
theorem dX3_init_15 : decode cX3_init 15 = .ok (.iload_n 3, 1) := by decide +kernel
theorem dX3_init_16 : decode cX3_init 16 = .ok (.putfield 16, 3) := by decide +kernel
theorem dX3_init_19 : decode cX3_init 19 = .ok (.aload_n 0, 1) := by decide +kernel
theorem dX3_init_20 : decode cX3_init 20 = .ok (.iload 4, 2) := by decide +kernel
theorem dX3_init_22 : decode cX3_init 22 = .ok (.putfield 19, 3) := by decide +kernel
theorem dX3_init_25 : decode cX3_init 25 = .ok (.aload_n 0, 1) := by decide +kernel
theorem dX3_init_26 : decode cX3_init 26 = .ok (.iload 5, 2) := by decide +kernel
theorem dX3_init_28 : decode cX3_init 28 = .ok (.putfield 22, 3) := by decide +kernel
theorem dX3_init_31 : decode cX3_init 31 = .ok (.return_, 1) := by decide +kernel
theorem dX3_allows_0 : decode cX3_allows 0 = .ok (.aload_n 1, 1) := by decide +kernel
theorem dX3_allows_1 : decode cX3_allows 1 = .ok (.getfield 25, 3) := by decide +kernel
theorem dX3_allows_4 : decode cX3_allows 4 = .ok (.ifCond .ne 5, 3) := by decide +kernel
theorem dX3_allows_7 : decode cX3_allows 7 = .ok (.iconst 1, 1) := by decide +kernel
theorem dX3_allows_8 : decode cX3_allows 8 = .ok (.ireturn, 1) := by decide +kernel
theorem dX3_allows_9 : decode cX3_allows 9 = .ok (.aload_n 1, 1) := by decide +kernel
theorem dX3_allows_10 : decode cX3_allows 10 = .ok (.getfield 30, 3) := by decide +kernel
theorem dX3_allows_13 : decode cX3_allows 13 = .ok (.aload_n 0, 1) := by decide +kernel
theorem dX3_allows_14 : decode cX3_allows 14 = .ok (.getfield 7, 3) := by decide +kernel
theorem dX3_allows_17 : decode cX3_allows 17 = .ok (.if_icmp .lt 29, 3) := by decide +kernel
theorem dX3_allows_20 : decode cX3_allows 20 = .ok (.aload_n 1, 1) := by decide +kernel
theorem dX3_allows_21 : decode cX3_allows 21 = .ok (.getfield 33, 3) := by decide +kernel
theorem dX3_allows_24 : decode cX3_allows 24 = .ok (.aload_n 0, 1) := by decide +kernel
theorem dX3_allows_25 : decode cX3_allows 25 = .ok (.getfield 19, 3) := by decide +kernel
theorem dX3_allows_28 : decode cX3_allows 28 = .ok (.if_icmp .gt 18, 3) := by decide +kernel
theorem dX3_allows_31 : decode cX3_allows 31 = .ok (.aload_n 1, 1) := by decide +kernel
theorem dX3_allows_32 : decode cX3_allows 32 = .ok (.getfield 36, 3) := by decide +kernel
theorem dX3_allows_35 : decode cX3_allows 35 = .ok (.aload_n 0, 1) := by decide +kernel
theorem dX3_allows_36 : decode cX3_allows 36 = .ok (.getfield 16, 3) := by decide +kernel
theorem dX3_allows_39 : decode cX3_allows 39 = .ok (.if_icmp .gt 7, 3) := by decide +kernel
theorem dX3_allows_42 : decode cX3_allows 42 = .ok (.iconst 1, 1) := by decide +kernel
theorem dX3_allows_43 : decode cX3_allows 43 = .ok (.goto 4, 3) := by decide +kernel
theorem dX3_allows_46 : decode cX3_allows 46 = .ok (.iconst 0, 1) := by decide +kernel
theorem dX3_allows_47 : decode cX3_allows 47 = .ok (.ireturn, 1) := by decide +kernel
theorem dX4_init_0 : decode cX4_init 0 = .ok (.aload_n 0, 1) := by decide +kernel
theorem dX4_init_1 : decode cX4_init 1 = .ok (.invokespecial 3, 3) := by decide +kernel
theorem dX4_init_4 : decode cX4_init 4 = .ok (.aload_n 0, 1) := by decide +kernel
theorem dX4_init_5 : decode cX4_init 5 = .ok (.iload_n 1, 1) := by decide +kernel
theorem dX4_init_6 : decode cX4_init 6 = .ok (.putfield 9, 3) := by decide +kernel
theorem dX4_init_9 : decode cX4_init 9 = .ok (.aload_n 0, 1) := by decide +kernel
theorem dX4_init_10 : decode cX4_init 10 = .ok (.iload_n 2, 1) := by decide +kernel
theorem dX4_init_11 : decode cX4_init 11 = .ok (.putfield 15, 3) := by decide +kernel
theorem dX4_init_14 : decode cX4_init 14 = .ok (.return_, 1) := by decide +kernel
theorem dX4_hardnessUnder_0 : decode cX4_hardnessUnder 0 = .ok (.iconst 0, 1) := by decide +kernel
theorem dX4_hardnessUnder_1 : decode cX4_hardnessUnder 1 = .ok (.aload_n 0, 1) := by decide +kernel
theorem dX4_hardnessUnder_2 : decode cX4_hardnessUnder 2 = .ok (.getfield 15, 3) := by decide +kernel
theorem dX4_hardnessUnder_5 : decode cX4_hardnessUnder 5 = .ok (.iload_n 1, 1) := by decide +kernel
theorem dX4_hardnessUnder_6 : decode cX4_hardnessUnder 6 = .ok (.iconst 5, 1) := by decide +kernel
theorem dX4_hardnessUnder_7 : decode cX4_hardnessUnder 7 = .ok (.idiv, 1) := by decide +kernel
theorem dX4_hardnessUnder_8 : decode cX4_hardnessUnder 8 = .ok (.isub, 1) := by decide +kernel
theorem dX4_hardnessUnder_9 : decode cX4_hardnessUnder 9 = .ok (.invokestatic 18, 3) := by decide +kernel
theorem dX4_hardnessUnder_12 : decode cX4_hardnessUnder 12 = .ok (.ireturn, 1) := by decide +kernel
theorem dX4_throwRow_0 : decode cX4_throwRow 0 = .ok (.aload_n 0, 1) := by decide +kernel
theorem dX4_throwRow_1 : decode cX4_throwRow 1 = .ok (.iload_n 3, 1) := by decide +kernel
theorem dX4_throwRow_2 : decode cX4_throwRow 2 = .ok (.invokevirtual 24, 3) := by decide +kernel
theorem dX4_throwRow_5 : decode cX4_throwRow 5 = .ok (.istore 5, 2) := by decide +kernel
theorem dX4_throwRow_7 : decode cX4_throwRow 7 = .ok (.iload_n 1, 1) := by decide +kernel
theorem dX4_throwRow_8 : decode cX4_throwRow 8 = .ok (.istore 6, 2) := by decide +kernel
theorem dX4_throwRow_10 : decode cX4_throwRow 10 = .ok (.iconst 1, 1) := by decide +kernel
theorem dX4_throwRow_11 : decode cX4_throwRow 11 = .ok (.istore 7, 2) := by decide +kernel
theorem dX4_throwRow_13 : decode cX4_throwRow 13 = .ok (.iload 7, 2) := by decide +kernel
theorem dX4_throwRow_15 : decode cX4_throwRow 15 = .ok (.sipush 500, 3) := by decide +kernel
theorem dX4_throwRow_18 : decode cX4_throwRow 18 = .ok (.if_icmp .gt 64, 3) := by decide +kernel
theorem dX4_throwRow_21 : decode cX4_throwRow 21 = .ok (.iload 7, 2) := by decide +kernel
theorem dX4_throwRow_23 : decode cX4_throwRow 23 = .ok (.bipush 6, 2) := by decide +kernel
theorem dX4_throwRow_25 : decode cX4_throwRow 25 = .ok (.imul, 1) := by decide +kernel
theorem dX4_throwRow_26 : decode cX4_throwRow 26 = .ok (.aload_n 0, 1) := by decide +kernel
theorem dX4_throwRow_27 : decode cX4_throwRow 27 = .ok (.getfield 9, 3) := by decide +kernel
theorem dX4_throwRow_30 : decode cX4_throwRow 30 = .ok (.imul, 1) := by decide +kernel
theorem dX4_throwRow_31 : decode cX4_throwRow 31 = .ok (.istore 8, 2) := by decide +kernel
theorem dX4_throwRow_33 : decode cX4_throwRow 33 = .ok (.iload 6, 2) := by decide +kernel
theorem dX4_throwRow_35 : decode cX4_throwRow 35 = .ok (.iload 5, 2) := by decide +kernel
theorem dX4_throwRow_37 : decode cX4_throwRow 37 = .ok (.imul, 1) := by decide +kernel
theorem dX4_throwRow_38 : decode cX4_throwRow 38 = .ok (.bipush 100, 2) := by decide +kernel
theorem dX4_throwRow_40 : decode cX4_throwRow 40 = .ok (.idiv, 1) := by decide +kernel
theorem dX4_throwRow_41 : decode cX4_throwRow 41 = .ok (.bipush 100, 2) := by decide +kernel
theorem dX4_throwRow_43 : decode cX4_throwRow 43 = .ok (.iload_n 2, 1) := by decide +kernel
theorem dX4_throwRow_44 : decode cX4_throwRow 44 = .ok (.isub, 1) := by decide +kernel
theorem dX4_throwRow_45 : decode cX4_throwRow 45 = .ok (.imul, 1) := by decide +kernel
theorem dX4_throwRow_46 : decode cX4_throwRow 46 = .ok (.bipush 100, 2) := by decide +kernel
theorem dX4_throwRow_48 : decode cX4_throwRow 48 = .ok (.idiv, 1) := by decide +kernel
theorem dX4_throwRow_49 : decode cX4_throwRow 49 = .ok (.istore 6, 2) := by decide +kernel
theorem dX4_throwRow_51 : decode cX4_throwRow 51 = .ok (.iload 6, 2) := by decide +kernel
theorem dX4_throwRow_53 : decode cX4_throwRow 53 = .ok (.ifCond .le 11, 3) := by decide +kernel
theorem dX4_throwRow_56 : decode cX4_throwRow 56 = .ok (.iload 8, 2) := by decide +kernel
theorem dX4_throwRow_58 : decode cX4_throwRow 58 = .ok (.sipush 3000, 3) := by decide +kernel
theorem dX4_throwRow_61 : decode cX4_throwRow 61 = .ok (.if_icmp .le 4, 3) := by decide +kernel
theorem dX4_throwRow_64 : decode cX4_throwRow 64 = .ok (.return_, 1) := by decide +kernel
theorem dX4_throwRow_65 : decode cX4_throwRow 65 = .ok (.aload 4, 2) := by decide +kernel
theorem dX4_throwRow_67 : decode cX4_throwRow 67 = .ok (.iload 8, 2) := by decide +kernel
theorem dX4_throwRow_69 : decode cX4_throwRow 69 = .ok (.iload 6, 2) := by decide +kernel
theorem dX4_throwRow_71 : decode cX4_throwRow 71 = .ok (.invokeinterface 28 3, 5) := by decide +kernel
theorem dX4_throwRow_76 : decode cX4_throwRow 76 = .ok (.iinc 7 1, 3) := by decide +kernel
theorem dX4_throwRow_79 : decode cX4_throwRow 79 = .ok (.goto (-66), 3) := by decide +kernel
theorem dX4_throwRow_82 : decode cX4_throwRow 82 = .ok (.return_, 1) := by decide +kernel
theorem dX5_init_0 : decode cX5_init 0 = .ok (.aload_n 0, 1) := by decide +kernel
theorem dX5_init_1 : decode cX5_init 1 = .ok (.invokespecial 3, 3) := by decide +kernel
theorem dX5_init_4 : decode cX5_init 4 = .ok (.return_, 1) := by decide +kernel
theorem dX5_begin_0 : decode cX5_begin 0 = .ok (.aload_n 0, 1) := by decide +kernel
theorem dX5_begin_1 : decode cX5_begin 1 = .ok (.iload_n 1, 1) := by decide +kernel
theorem dX5_begin_2 : decode cX5_begin 2 = .ok (.putfield 9, 3) := by decide +kernel
theorem dX5_begin_5 : decode cX5_begin 5 = .ok (.aload_n 0, 1) := by decide +kernel
theorem dX5_begin_6 : decode cX5_begin 6 = .ok (.iconst 0, 1) := by decide +kernel
theorem dX5_begin_7 : decode cX5_begin 7 = .ok (.putfield 15, 3) := by decide +kernel
theorem dX5_begin_10 : decode cX5_begin 10 = .ok (.aload_n 0, 1) := by decide +kernel
theorem dX5_begin_11 : decode cX5_begin 11 = .ok (.iconst 0, 1) := by decide +kernel
theorem dX5_begin_12 : decode cX5_begin 12 = .ok (.putfield 18, 3) := by decide +kernel
theorem dX5_begin_15 : decode cX5_begin 15 = .ok (.aload_n 0, 1) := by decide +kernel
theorem dX5_begin_16 : decode cX5_begin 16 = .ok (.iconst (-1), 1) := by decide +kernel
theorem dX5_begin_17 : decode cX5_begin 17 = .ok (.putfield 21, 3) := by decide +kernel
theorem dX5_begin_20 : decode cX5_begin 20 = .ok (.aload_n 0, 1) := by decide +kernel
theorem dX5_begin_21 : decode cX5_begin 21 = .ok (.iconst (-1), 1) := by decide +kernel
theorem dX5_begin_22 : decode cX5_begin 22 = .ok (.putfield 24, 3) := by decide +kernel
theorem dX5_begin_25 : decode cX5_begin 25 = .ok (.return_, 1) := by decide +kernel
theorem dX5_hear_0 : decode cX5_hear 0 = .ok (.aload_n 0, 1) := by decide +kernel
theorem dX5_hear_1 : decode cX5_hear 1 = .ok (.dup, 1) := by decide +kernel
theorem dX5_hear_2 : decode cX5_hear 2 = .ok (.getfield 15, 3) := by decide +kernel
theorem dX5_hear_5 : decode cX5_hear 5 = .ok (.iconst 1, 1) := by decide +kernel
theorem dX5_hear_6 : decode cX5_hear 6 = .ok (.iadd, 1) := by decide +kernel
theorem dX5_hear_7 : decode cX5_hear 7 = .ok (.putfield 15, 3) := by decide +kernel
theorem dX5_hear_10 : decode cX5_hear 10 = .ok (.iload_n 2, 1) := by decide +kernel
theorem dX5_hear_11 : decode cX5_hear 11 = .ok (.aload_n 0, 1) := by decide +kernel
theorem dX5_hear_12 : decode cX5_hear 12 = .ok (.getfield 9, 3) := by decide +kernel
theorem dX5_hear_15 : decode cX5_hear 15 = .ok (.if_icmp .lt 13, 3) := by decide +kernel
theorem dX5_hear_18 : decode cX5_hear 18 = .ok (.aload_n 0, 1) := by decide +kernel
theorem dX5_hear_19 : decode cX5_hear 19 = .ok (.dup, 1) := by decide +kernel
theorem dX5_hear_20 : decode cX5_hear 20 = .ok (.getfield 18, 3) := by decide +kernel
theorem dX5_hear_23 : decode cX5_hear 23 = .ok (.iconst 1, 1) := by decide +kernel
theorem dX5_hear_24 : decode cX5_hear 24 = .ok (.iadd, 1) := by decide +kernel
theorem dX5_hear_25 : decode cX5_hear 25 = .ok (.putfield 18, 3) := by decide +kernel
theorem dX5_hear_28 : decode cX5_hear 28 = .ok (.aload_n 0, 1) := by decide +kernel
theorem dX5_hear_29 : decode cX5_hear 29 = .ok (.getfield 21, 3) := by decide +kernel
theorem dX5_hear_32 : decode cX5_hear 32 = .ok (.iconst (-1), 1) := by decide +kernel
theorem dX5_hear_33 : decode cX5_hear 33 = .ok (.if_icmp .eq 11, 3) := by decide +kernel
theorem dX5_hear_36 : decode cX5_hear 36 = .ok (.iload_n 1, 1) := by decide +kernel
theorem dX5_hear_37 : decode cX5_hear 37 = .ok (.aload_n 0, 1) := by decide +kernel
theorem dX5_hear_38 : decode cX5_hear 38 = .ok (.getfield 21, 3) := by decide +kernel
theorem dX5_hear_41 : decode cX5_hear 41 = .ok (.if_icmp .ge 8, 3) := by decide +kernel
theorem dX5_hear_44 : decode cX5_hear 44 = .ok (.aload_n 0, 1) := by decide +kernel
theorem dX5_hear_45 : decode cX5_hear 45 = .ok (.iload_n 1, 1) := by decide +kernel
theorem dX5_hear_46 : decode cX5_hear 46 = .ok (.putfield 21, 3) := by decide +kernel
theorem dX5_hear_49 : decode cX5_hear 49 = .ok (.iload_n 1, 1) := by decide +kernel
theorem dX5_hear_50 : decode cX5_hear 50 = .ok (.aload_n 0, 1) := by decide +kernel
theorem dX5_hear_51 : decode cX5_hear 51 = .ok (.getfield 24, 3) := by decide +kernel
theorem dX5_hear_54 : decode cX5_hear 54 = .ok (.if_icmp .le 8, 3) := by decide +kernel
theorem dX5_hear_57 : decode cX5_hear 57 = .ok (.aload_n 0, 1) := by decide +kernel
theorem dX5_hear_58 : decode cX5_hear 58 = .ok (.iload_n 1, 1) := by decide +kernel
theorem dX5_hear_59 : decode cX5_hear 59 = .ok (.putfield 24, 3) := by decide +kernel
theorem dX5_hear_62 : decode cX5_hear 62 = .ok (.return_, 1) := by decide +kernel
theorem dX6_init_0 : decode cX6_init 0 = .ok (.aload_n 0, 1) := by decide +kernel
theorem dX6_init_1 : decode cX6_init 1 = .ok (.invokespecial 3, 3) := by decide +kernel
theorem dX6_init_4 : decode cX6_init 4 = .ok (.aload_n 0, 1) := by decide +kernel
theorem dX6_init_5 : decode cX6_init 5 = .ok (.bipush 8, 2) := by decide +kernel
theorem dX6_init_7 : decode cX6_init 7 = .ok (.anewarray 9, 3) := by decide +kernel
theorem dX6_init_10 : decode cX6_init 10 = .ok (.putfield 11, 3) := by decide +kernel
theorem dX6_init_13 : decode cX6_init 13 = .ok (.aload_n 0, 1) := by decide +kernel
theorem dX6_init_14 : decode cX6_init 14 = .ok (.iconst 5, 1) := by decide +kernel
theorem dX6_init_15 : decode cX6_init 15 = .ok (.anewarray 15, 3) := by decide +kernel
theorem dX6_init_18 : decode cX6_init 18 = .ok (.putfield 17, 3) := by decide +kernel
theorem dX6_init_21 : decode cX6_init 21 = .ok (.aload_n 0, 1) := by decide +kernel
theorem dX6_init_22 : decode cX6_init 22 = .ok (.new 21, 3) := by decide +kernel
theorem dX6_init_25 : decode cX6_init 25 = .ok (.dup, 1) := by decide +kernel
theorem dX6_init_26 : decode cX6_init 26 = .ok (.invokespecial 23, 3) := by decide +kernel
theorem dX6_init_29 : decode cX6_init 29 = .ok (.putfield 24, 3) := by decide +kernel
theorem dX6_init_32 : decode cX6_init 32 = .ok (.aload_n 0, 1) := by decide +kernel
theorem dX6_init_33 : decode cX6_init 33 = .ok (.new 28, 3) := by decide +kernel
theorem dX6_init_36 : decode cX6_init 36 = .ok (.dup, 1) := by decide +kernel
theorem dX6_init_37 : decode cX6_init 37 = .ok (.invokespecial 30, 3) := by decide +kernel
theorem dX6_init_40 : decode cX6_init 40 = .ok (.putfield 31, 3) := by decide +kernel
theorem dX6_init_43 : decode cX6_init 43 = .ok (.return_, 1) := by decide +kernel
theorem dX6_addHall_0 : decode cX6_addHall 0 = .ok (.iload_n 1, 1) := by decide +kernel
theorem dX6_addHall_1 : decode cX6_addHall 1 = .ok (.invokestatic 35, 3) := by decide +kernel
theorem dX6_addHall_4 : decode cX6_addHall 4 = .ok (.aload_n 0, 1) := by decide +kernel
theorem dX6_addHall_5 : decode cX6_addHall 5 = .ok (.getfield 39, 3) := by decide +kernel
theorem dX6_addHall_8 : decode cX6_addHall 8 = .ok (.aload_n 0, 1) := by decide +kernel
theorem dX6_addHall_9 : decode cX6_addHall 9 = .ok (.getfield 11, 3) := by decide +kernel
theorem dX6_addHall_12 : decode cX6_addHall 12 = .ok (.arraylength, 1) := by decide +kernel
theorem dX6_addHall_13 : decode cX6_addHall 13 = .ok (.if_icmp .lt 13, 3) := by decide +kernel
theorem dX6_addHall_16 : decode cX6_addHall 16 = .ok (.new 43, 3) := by decide +kernel
theorem dX6_addHall_19 : decode cX6_addHall 19 = .ok (.dup, 1) := by decide +kernel
theorem dX6_addHall_20 : decode cX6_addHall 20 = .ok (.ldc 45, 2) := by decide +kernel
theorem dX6_addHall_22 : decode cX6_addHall 22 = .ok (.invokespecial 47, 3) := by decide +kernel
theorem dX6_addHall_25 : decode cX6_addHall 25 = .ok (.athrow, 1) := by decide +kernel
theorem dX6_addHall_26 : decode cX6_addHall 26 = .ok (.aload_n 0, 1) := by decide +kernel
theorem dX6_addHall_27 : decode cX6_addHall 27 = .ok (.getfield 39, 3) := by decide +kernel
theorem dX6_addHall_30 : decode cX6_addHall 30 = .ok (.istore_n 2, 1) := by decide +kernel
theorem dX6_addHall_31 : decode cX6_addHall 31 = .ok (.aload_n 0, 1) := by decide +kernel
theorem dX6_addHall_32 : decode cX6_addHall 32 = .ok (.getfield 11, 3) := by decide +kernel
theorem dX6_addHall_35 : decode cX6_addHall 35 = .ok (.iload_n 2, 1) := by decide +kernel
theorem dX6_addHall_36 : decode cX6_addHall 36 = .ok (.new 9, 3) := by decide +kernel
theorem dX6_addHall_39 : decode cX6_addHall 39 = .ok (.dup, 1) := by decide +kernel
theorem dX6_addHall_40 : decode cX6_addHall 40 = .ok (.iload_n 1, 1) := by decide +kernel
theorem dX6_addHall_41 : decode cX6_addHall 41 = .ok (.invokespecial 50, 3) := by decide +kernel
theorem dX6_addHall_44 : decode cX6_addHall 44 = .ok (.aastore, 1) := by decide +kernel
theorem dX6_addHall_45 : decode cX6_addHall 45 = .ok (.aload_n 0, 1) := by decide +kernel
theorem dX6_addHall_46 : decode cX6_addHall 46 = .ok (.dup, 1) := by decide +kernel
theorem dX6_addHall_47 : decode cX6_addHall 47 = .ok (.getfield 39, 3) := by decide +kernel
theorem dX6_addHall_50 : decode cX6_addHall 50 = .ok (.iconst 1, 1) := by decide +kernel
theorem dX6_addHall_51 : decode cX6_addHall 51 = .ok (.iadd, 1) := by decide +kernel
theorem dX6_addHall_52 : decode cX6_addHall 52 = .ok (.putfield 39, 3) := by decide +kernel
theorem dX6_addHall_55 : decode cX6_addHall 55 = .ok (.iload_n 2, 1) := by decide +kernel
theorem dX6_addHall_56 : decode cX6_addHall 56 = .ok (.ireturn, 1) := by decide +kernel
theorem dX6_addSurface_0 : decode cX6_addSurface 0 = .ok (.aload_n 0, 1) := by decide +kernel
theorem dX6_addSurface_1 : decode cX6_addSurface 1 = .ok (.iload_n 1, 1) := by decide +kernel
theorem dX6_addSurface_2 : decode cX6_addSurface 2 = .ok (.invokevirtual 52, 3) := by decide +kernel
theorem dX6_addSurface_5 : decode cX6_addSurface 5 = .ok (.astore 4, 2) := by decide +kernel
theorem dX6_addSurface_7 : decode cX6_addSurface 7 = .ok (.iload_n 2, 1) := by decide +kernel
theorem dX6_addSurface_8 : decode cX6_addSurface 8 = .ok (.invokestatic 56, 3) := by decide +kernel
theorem dX6_addSurface_11 : decode cX6_addSurface 11 = .ok (.iload_n 3, 1) := by decide +kernel
theorem dX6_addSurface_12 : decode cX6_addSurface 12 = .ok (.iconst 0, 1) := by decide +kernel
theorem dX6_addSurface_13 : decode cX6_addSurface 13 = .ok (.bipush 99, 2) := by decide +kernel
theorem dX6_addSurface_15 : decode cX6_addSurface 15 = .ok (.invokestatic 59, 3) := by decide +kernel
theorem dX6_addSurface_18 : decode cX6_addSurface 18 = .ok (.ifCond .ne 13, 3) := by decide +kernel
theorem dX6_addSurface_21 : decode cX6_addSurface 21 = .ok (.new 63, 3) := by decide +kernel
theorem dX6_addSurface_24 : decode cX6_addSurface 24 = .ok (.dup, 1) := by decide +kernel
theorem dX6_addSurface_25 : decode cX6_addSurface 25 = .ok (.ldc 65, 2) := by decide +kernel
theorem dX6_addSurface_27 : decode cX6_addSurface 27 = .ok (.invokespecial 67, 3) := by decide +kernel
theorem dX6_addSurface_30 : decode cX6_addSurface 30 = .ok (.athrow, 1) := by decide +kernel
theorem dX6_addSurface_31 : decode cX6_addSurface 31 = .ok (.aload 4, 2) := by decide +kernel
theorem dX6_addSurface_33 : decode cX6_addSurface 33 = .ok (.invokevirtual 68, 3) := by decide +kernel
theorem dX6_addSurface_36 : decode cX6_addSurface 36 = .ok (.ifCond .eq 13, 3) := by decide +kernel
theorem dX6_addSurface_39 : decode cX6_addSurface 39 = .ok (.new 43, 3) := by decide +kernel
theorem dX6_addSurface_42 : decode cX6_addSurface 42 = .ok (.dup, 1) := by decide +kernel
theorem dX6_addSurface_43 : decode cX6_addSurface 43 = .ok (.ldc 72, 2) := by decide +kernel
theorem dX6_addSurface_45 : decode cX6_addSurface 45 = .ok (.invokespecial 47, 3) := by decide +kernel
theorem dX6_addSurface_48 : decode cX6_addSurface 48 = .ok (.athrow, 1) := by decide +kernel
theorem dX6_addSurface_49 : decode cX6_addSurface 49 = .ok (.aload 4, 2) := by decide +kernel
theorem dX6_addSurface_51 : decode cX6_addSurface 51 = .ok (.invokevirtual 74, 3) := by decide +kernel
theorem dX6_addSurface_54 : decode cX6_addSurface 54 = .ok (.aload 4, 2) := by decide +kernel
theorem dX6_addSurface_56 : decode cX6_addSurface 56 = .ok (.new 77, 3) := by decide +kernel
theorem dX6_addSurface_59 : decode cX6_addSurface 59 = .ok (.dup, 1) := by decide +kernel
theorem dX6_addSurface_60 : decode cX6_addSurface 60 = .ok (.iload_n 2, 1) := by decide +kernel
theorem dX6_addSurface_61 : decode cX6_addSurface 61 = .ok (.iload_n 3, 1) := by decide +kernel
theorem dX6_addSurface_62 : decode cX6_addSurface 62 = .ok (.invokespecial 79, 3) := by decide +kernel
theorem dX6_addSurface_65 : decode cX6_addSurface 65 = .ok (.invokevirtual 82, 3) := by decide +kernel
theorem dX6_addSurface_68 : decode cX6_addSurface 68 = .ok (.ireturn, 1) := by decide +kernel
theorem dX6_moveSurface_0 : decode cX6_moveSurface 0 = .ok (.aload_n 0, 1) := by decide +kernel
theorem dX6_moveSurface_1 : decode cX6_moveSurface 1 = .ok (.iload_n 1, 1) := by decide +kernel
theorem dX6_moveSurface_2 : decode cX6_moveSurface 2 = .ok (.invokevirtual 52, 3) := by decide +kernel
theorem dX6_moveSurface_5 : decode cX6_moveSurface 5 = .ok (.astore 4, 2) := by decide +kernel
theorem dX6_moveSurface_7 : decode cX6_moveSurface 7 = .ok (.aload 4, 2) := by decide +kernel
theorem dX6_moveSurface_9 : decode cX6_moveSurface 9 = .ok (.iload_n 2, 1) := by decide +kernel
theorem dX6_moveSurface_10 : decode cX6_moveSurface 10 = .ok (.invokestatic 86, 3) := by decide +kernel
theorem dX6_moveSurface_13 : decode cX6_moveSurface 13 = .ok (.astore 5, 2) := by decide +kernel
theorem dX6_moveSurface_15 : decode cX6_moveSurface 15 = .ok (.iload_n 3, 1) := by decide +kernel
theorem dX6_moveSurface_16 : decode cX6_moveSurface 16 = .ok (.invokestatic 56, 3) := by decide +kernel
theorem dX6_moveSurface_19 : decode cX6_moveSurface 19 = .ok (.aload 5, 2) := by decide +kernel
theorem dX6_moveSurface_21 : decode cX6_moveSurface 21 = .ok (.getfield 90, 3) := by decide +kernel
theorem dX6_moveSurface_24 : decode cX6_moveSurface 24 = .ok (.istore 6, 2) := by decide +kernel
theorem dX6_moveSurface_26 : decode cX6_moveSurface 26 = .ok (.aload 5, 2) := by decide +kernel
theorem dX6_moveSurface_28 : decode cX6_moveSurface 28 = .ok (.iload_n 3, 1) := by decide +kernel
theorem dX6_moveSurface_29 : decode cX6_moveSurface 29 = .ok (.putfield 90, 3) := by decide +kernel
theorem dX6_moveSurface_32 : decode cX6_moveSurface 32 = .ok (.aload 4, 2) := by decide +kernel
theorem dX6_moveSurface_34 : decode cX6_moveSurface 34 = .ok (.invokevirtual 74, 3) := by decide +kernel
theorem dX6_moveSurface_37 : decode cX6_moveSurface 37 = .ok (.iload 6, 2) := by decide +kernel
theorem dX6_moveSurface_39 : decode cX6_moveSurface 39 = .ok (.ireturn, 1) := by decide +kernel
theorem dX6_setDamping_0 : decode cX6_setDamping 0 = .ok (.aload_n 0, 1) := by decide +kernel
theorem dX6_setDamping_1 : decode cX6_setDamping 1 = .ok (.iload_n 1, 1) := by decide +kernel
theorem dX6_setDamping_2 : decode cX6_setDamping 2 = .ok (.invokevirtual 52, 3) := by decide +kernel
theorem dX6_setDamping_5 : decode cX6_setDamping 5 = .ok (.astore_n 3, 1) := by decide +kernel
theorem dX6_setDamping_6 : decode cX6_setDamping 6 = .ok (.iload_n 2, 1) := by decide +kernel
theorem dX6_setDamping_7 : decode cX6_setDamping 7 = .ok (.invokestatic 35, 3) := by decide +kernel
theorem dX6_setDamping_10 : decode cX6_setDamping 10 = .ok (.aload_n 3, 1) := by decide +kernel
theorem dX6_setDamping_11 : decode cX6_setDamping 11 = .ok (.getfield 93, 3) := by decide +kernel
theorem dX6_setDamping_14 : decode cX6_setDamping 14 = .ok (.istore 4, 2) := by decide +kernel
theorem dX6_setDamping_16 : decode cX6_setDamping 16 = .ok (.aload_n 3, 1) := by decide +kernel
theorem dX6_setDamping_17 : decode cX6_setDamping 17 = .ok (.iload_n 2, 1) := by decide +kernel
theorem dX6_setDamping_18 : decode cX6_setDamping 18 = .ok (.putfield 93, 3) := by decide +kernel
theorem dX6_setDamping_21 : decode cX6_setDamping 21 = .ok (.aload_n 3, 1) := by decide +kernel
theorem dX6_setDamping_22 : decode cX6_setDamping 22 = .ok (.invokevirtual 74, 3) := by decide +kernel
theorem dX6_setDamping_25 : decode cX6_setDamping 25 = .ok (.iload 4, 2) := by decide +kernel
theorem dX6_setDamping_27 : decode cX6_setDamping 27 = .ok (.ireturn, 1) := by decide +kernel
theorem dX6_clean_0 : decode cX6_clean 0 = .ok (.aload_n 0, 1) := by decide +kernel
theorem dX6_clean_1 : decode cX6_clean 1 = .ok (.iload_n 1, 1) := by decide +kernel
theorem dX6_clean_2 : decode cX6_clean 2 = .ok (.invokevirtual 52, 3) := by decide +kernel
theorem dX6_clean_5 : decode cX6_clean 5 = .ok (.astore_n 2, 1) := by decide +kernel
theorem dX6_clean_6 : decode cX6_clean 6 = .ok (.aload_n 2, 1) := by decide +kernel
theorem dX6_clean_7 : decode cX6_clean 7 = .ok (.getfield 96, 3) := by decide +kernel
theorem dX6_clean_10 : decode cX6_clean 10 = .ok (.istore_n 3, 1) := by decide +kernel
theorem dX6_clean_11 : decode cX6_clean 11 = .ok (.aload_n 2, 1) := by decide +kernel
theorem dX6_clean_12 : decode cX6_clean 12 = .ok (.iconst 0, 1) := by decide +kernel
theorem dX6_clean_13 : decode cX6_clean 13 = .ok (.putfield 96, 3) := by decide +kernel
theorem dX6_clean_16 : decode cX6_clean 16 = .ok (.iload_n 3, 1) := by decide +kernel
theorem dX6_clean_17 : decode cX6_clean 17 = .ok (.ireturn, 1) := by decide +kernel
theorem dX6_addStandard_0 : decode cX6_addStandard 0 = .ok (.iload_n 1, 1) := by decide +kernel
theorem dX6_addStandard_1 : decode cX6_addStandard 1 = .ok (.iconst 0, 1) := by decide +kernel
theorem dX6_addStandard_2 : decode cX6_addStandard 2 = .ok (.sipush 500, 3) := by decide +kernel
theorem dX6_addStandard_5 : decode cX6_addStandard 5 = .ok (.invokestatic 59, 3) := by decide +kernel
theorem dX6_addStandard_8 : decode cX6_addStandard 8 = .ok (.ifCond .eq 51, 3) := by decide +kernel
theorem dX6_addStandard_11 : decode cX6_addStandard 11 = .ok (.iload_n 2, 1) := by decide +kernel
theorem dX6_addStandard_12 : decode cX6_addStandard 12 = .ok (.iconst 1, 1) := by decide +kernel
theorem dX6_addStandard_13 : decode cX6_addStandard 13 = .ok (.sipush 1000, 3) := by decide +kernel
theorem dX6_addStandard_16 : decode cX6_addStandard 16 = .ok (.invokestatic 59, 3) := by decide +kernel
theorem dX6_addStandard_19 : decode cX6_addStandard 19 = .ok (.ifCond .eq 40, 3) := by decide +kernel
theorem dX6_addStandard_22 : decode cX6_addStandard 22 = .ok (.iload_n 3, 1) := by decide +kernel
theorem dX6_addStandard_23 : decode cX6_addStandard 23 = .ok (.iconst 0, 1) := by decide +kernel
theorem dX6_addStandard_24 : decode cX6_addStandard 24 = .ok (.bipush 99, 2) := by decide +kernel
theorem dX6_addStandard_26 : decode cX6_addStandard 26 = .ok (.invokestatic 59, 3) := by decide +kernel
theorem dX6_addStandard_29 : decode cX6_addStandard 29 = .ok (.ifCond .eq 30, 3) := by decide +kernel
theorem dX6_addStandard_32 : decode cX6_addStandard 32 = .ok (.iload 4, 2) := by decide +kernel
theorem dX6_addStandard_34 : decode cX6_addStandard 34 = .ok (.iconst 0, 1) := by decide +kernel
theorem dX6_addStandard_35 : decode cX6_addStandard 35 = .ok (.sipush 3000, 3) := by decide +kernel
theorem dX6_addStandard_38 : decode cX6_addStandard 38 = .ok (.invokestatic 59, 3) := by decide +kernel
theorem dX6_addStandard_41 : decode cX6_addStandard 41 = .ok (.ifCond .eq 18, 3) := by decide +kernel
theorem dX6_addStandard_44 : decode cX6_addStandard 44 = .ok (.iload 5, 2) := by decide +kernel
theorem dX6_addStandard_46 : decode cX6_addStandard 46 = .ok (.iconst 1, 1) := by decide +kernel
theorem dX6_addStandard_47 : decode cX6_addStandard 47 = .ok (.bipush 100, 2) := by decide +kernel
theorem dX6_addStandard_49 : decode cX6_addStandard 49 = .ok (.invokestatic 59, 3) := by decide +kernel
theorem dX6_addStandard_52 : decode cX6_addStandard 52 = .ok (.ifCond .eq 7, 3) := by decide +kernel
theorem dX6_addStandard_55 : decode cX6_addStandard 55 = .ok (.iconst 1, 1) := by decide +kernel
theorem dX6_addStandard_56 : decode cX6_addStandard 56 = .ok (.goto 4, 3) := by decide +kernel
theorem dX6_addStandard_59 : decode cX6_addStandard 59 = .ok (.iconst 0, 1) := by decide +kernel
theorem dX6_addStandard_60 : decode cX6_addStandard 60 = .ok (.istore 6, 2) := by decide +kernel
theorem dX6_addStandard_62 : decode cX6_addStandard 62 = .ok (.iload 6, 2) := by decide +kernel
theorem dX6_addStandard_64 : decode cX6_addStandard 64 = .ok (.ifCond .ne 13, 3) := by decide +kernel
theorem dX6_addStandard_67 : decode cX6_addStandard 67 = .ok (.new 63, 3) := by decide +kernel
theorem dX6_addStandard_70 : decode cX6_addStandard 70 = .ok (.dup, 1) := by decide +kernel
theorem dX6_addStandard_71 : decode cX6_addStandard 71 = .ok (.ldc 99, 2) := by decide +kernel
theorem dX6_addStandard_73 : decode cX6_addStandard 73 = .ok (.invokespecial 67, 3) := by decide +kernel
theorem dX6_addStandard_76 : decode cX6_addStandard 76 = .ok (.athrow, 1) := by decide +kernel
theorem dX6_addStandard_77 : decode cX6_addStandard 77 = .ok (.aload_n 0, 1) := by decide +kernel
theorem dX6_addStandard_78 : decode cX6_addStandard 78 = .ok (.getfield 101, 3) := by decide +kernel
theorem dX6_addStandard_81 : decode cX6_addStandard 81 = .ok (.aload_n 0, 1) := by decide +kernel
theorem dX6_addStandard_82 : decode cX6_addStandard 82 = .ok (.getfield 17, 3) := by decide +kernel
theorem dX6_addStandard_85 : decode cX6_addStandard 85 = .ok (.arraylength, 1) := by decide +kernel
theorem dX6_addStandard_86 : decode cX6_addStandard 86 = .ok (.if_icmp .lt 13, 3) := by decide +kernel
theorem dX6_addStandard_89 : decode cX6_addStandard 89 = .ok (.new 43, 3) := by decide +kernel
theorem dX6_addStandard_92 : decode cX6_addStandard 92 = .ok (.dup, 1) := by decide +kernel
theorem dX6_addStandard_93 : decode cX6_addStandard 93 = .ok (.ldc 104, 2) := by decide +kernel
theorem dX6_addStandard_95 : decode cX6_addStandard 95 = .ok (.invokespecial 47, 3) := by decide +kernel
theorem dX6_addStandard_98 : decode cX6_addStandard 98 = .ok (.athrow, 1) := by decide +kernel
theorem dX6_addStandard_99 : decode cX6_addStandard 99 = .ok (.aload_n 0, 1) := by decide +kernel
theorem dX6_addStandard_100 : decode cX6_addStandard 100 = .ok (.getfield 101, 3) := by decide +kernel
theorem dX6_addStandard_103 : decode cX6_addStandard 103 = .ok (.istore 7, 2) := by decide +kernel
theorem dX6_addStandard_105 : decode cX6_addStandard 105 = .ok (.aload_n 0, 1) := by decide +kernel
theorem dX6_addStandard_106 : decode cX6_addStandard 106 = .ok (.getfield 17, 3) := by decide +kernel
theorem dX6_addStandard_109 : decode cX6_addStandard 109 = .ok (.iload 7, 2) := by decide +kernel
theorem dX6_addStandard_111 : decode cX6_addStandard 111 = .ok (.new 15, 3) := by decide +kernel
theorem dX6_addStandard_114 : decode cX6_addStandard 114 = .ok (.dup, 1) := by decide +kernel
theorem dX6_addStandard_115 : decode cX6_addStandard 115 = .ok (.iload_n 1, 1) := by decide +kernel
theorem dX6_addStandard_116 : decode cX6_addStandard 116 = .ok (.iload_n 2, 1) := by decide +kernel
theorem dX6_addStandard_117 : decode cX6_addStandard 117 = .ok (.iload_n 3, 1) := by decide +kernel
theorem dX6_addStandard_118 : decode cX6_addStandard 118 = .ok (.iload 4, 2) := by decide +kernel
theorem dX6_addStandard_120 : decode cX6_addStandard 120 = .ok (.iload 5, 2) := by decide +kernel
theorem dX6_addStandard_122 : decode cX6_addStandard 122 = .ok (.invokespecial 106, 3) := by decide +kernel
theorem dX6_addStandard_125 : decode cX6_addStandard 125 = .ok (.aastore, 1) := by decide +kernel
theorem dX6_addStandard_126 : decode cX6_addStandard 126 = .ok (.aload_n 0, 1) := by decide +kernel
theorem dX6_addStandard_127 : decode cX6_addStandard 127 = .ok (.dup, 1) := by decide +kernel
theorem dX6_addStandard_128 : decode cX6_addStandard 128 = .ok (.getfield 101, 3) := by decide +kernel
theorem dX6_addStandard_131 : decode cX6_addStandard 131 = .ok (.iconst 1, 1) := by decide +kernel
theorem dX6_addStandard_132 : decode cX6_addStandard 132 = .ok (.iadd, 1) := by decide +kernel
theorem dX6_addStandard_133 : decode cX6_addStandard 133 = .ok (.putfield 101, 3) := by decide +kernel
theorem dX6_addStandard_136 : decode cX6_addStandard 136 = .ok (.iload 7, 2) := by decide +kernel
theorem dX6_addStandard_138 : decode cX6_addStandard 138 = .ok (.ireturn, 1) := by decide +kernel
theorem dX6_inspect_0 : decode cX6_inspect 0 = .ok (.aload_n 0, 1) := by decide +kernel
theorem dX6_inspect_1 : decode cX6_inspect 1 = .ok (.iload_n 1, 1) := by decide +kernel
theorem dX6_inspect_2 : decode cX6_inspect 2 = .ok (.invokevirtual 52, 3) := by decide +kernel
theorem dX6_inspect_5 : decode cX6_inspect 5 = .ok (.astore_n 3, 1) := by decide +kernel
theorem dX6_inspect_6 : decode cX6_inspect 6 = .ok (.aload_n 0, 1) := by decide +kernel
theorem dX6_inspect_7 : decode cX6_inspect 7 = .ok (.iload_n 2, 1) := by decide +kernel
theorem dX6_inspect_8 : decode cX6_inspect 8 = .ok (.invokevirtual 109, 3) := by decide +kernel
theorem dX6_inspect_11 : decode cX6_inspect 11 = .ok (.astore 4, 2) := by decide +kernel
theorem dX6_inspect_13 : decode cX6_inspect 13 = .ok (.aload_n 0, 1) := by decide +kernel
theorem dX6_inspect_14 : decode cX6_inspect 14 = .ok (.dup, 1) := by decide +kernel
theorem dX6_inspect_15 : decode cX6_inspect 15 = .ok (.getfield 113, 3) := by decide +kernel
theorem dX6_inspect_18 : decode cX6_inspect 18 = .ok (.iconst 1, 1) := by decide +kernel
theorem dX6_inspect_19 : decode cX6_inspect 19 = .ok (.iadd, 1) := by decide +kernel
theorem dX6_inspect_20 : decode cX6_inspect 20 = .ok (.putfield 113, 3) := by decide +kernel
theorem dX6_inspect_23 : decode cX6_inspect 23 = .ok (.aload_n 0, 1) := by decide +kernel
theorem dX6_inspect_24 : decode cX6_inspect 24 = .ok (.aload_n 3, 1) := by decide +kernel
theorem dX6_inspect_25 : decode cX6_inspect 25 = .ok (.aload 4, 2) := by decide +kernel
theorem dX6_inspect_27 : decode cX6_inspect 27 = .ok (.invokevirtual 116, 3) := by decide +kernel
theorem dX6_inspect_30 : decode cX6_inspect 30 = .ok (.istore 5, 2) := by decide +kernel
theorem dX6_inspect_32 : decode cX6_inspect 32 = .ok (.iload 5, 2) := by decide +kernel
theorem dX6_inspect_34 : decode cX6_inspect 34 = .ok (.ifCond .eq 16, 3) := by decide +kernel
theorem dX6_inspect_37 : decode cX6_inspect 37 = .ok (.aload_n 3, 1) := by decide +kernel
theorem dX6_inspect_38 : decode cX6_inspect 38 = .ok (.iload_n 2, 1) := by decide +kernel
theorem dX6_inspect_39 : decode cX6_inspect 39 = .ok (.aload 4, 2) := by decide +kernel
theorem dX6_inspect_41 : decode cX6_inspect 41 = .ok (.getfield 120, 3) := by decide +kernel
theorem dX6_inspect_44 : decode cX6_inspect 44 = .ok (.invokevirtual 123, 3) := by decide +kernel
theorem dX6_inspect_47 : decode cX6_inspect 47 = .ok (.goto 15, 3) := by decide +kernel
theorem dX6_inspect_50 : decode cX6_inspect 50 = .ok (.aload_n 3, 1) := by decide +kernel
theorem dX6_inspect_51 : decode cX6_inspect 51 = .ok (.getfield 126, 3) := by decide +kernel
theorem dX6_inspect_54 : decode cX6_inspect 54 = .ok (.iload_n 2, 1) := by decide +kernel
theorem dX6_inspect_55 : decode cX6_inspect 55 = .ok (.if_icmp .ne 7, 3) := by decide +kernel
theorem dX6_inspect_58 : decode cX6_inspect 58 = .ok (.aload_n 3, 1) := by decide +kernel
theorem dX6_inspect_59 : decode cX6_inspect 59 = .ok (.invokevirtual 74, 3) := by decide +kernel
theorem dX6_inspect_62 : decode cX6_inspect 62 = .ok (.iload 5, 2) := by decide +kernel
theorem dX6_inspect_64 : decode cX6_inspect 64 = .ok (.ireturn, 1) := by decide +kernel
theorem dX6_revoke_0 : decode cX6_revoke 0 = .ok (.aload_n 0, 1) := by decide +kernel
theorem dX6_revoke_1 : decode cX6_revoke 1 = .ok (.iload_n 1, 1) := by decide +kernel
theorem dX6_revoke_2 : decode cX6_revoke 2 = .ok (.invokevirtual 52, 3) := by decide +kernel
theorem dX6_revoke_5 : decode cX6_revoke 5 = .ok (.astore_n 2, 1) := by decide +kernel
theorem dX6_revoke_6 : decode cX6_revoke 6 = .ok (.aload_n 2, 1) := by decide +kernel
theorem dX6_revoke_7 : decode cX6_revoke 7 = .ok (.invokestatic 129, 3) := by decide +kernel
theorem dX6_revoke_10 : decode cX6_revoke 10 = .ok (.aload_n 2, 1) := by decide +kernel
theorem dX6_revoke_11 : decode cX6_revoke 11 = .ok (.getfield 133, 3) := by decide +kernel
theorem dX6_revoke_14 : decode cX6_revoke 14 = .ok (.istore_n 3, 1) := by decide +kernel
theorem dX6_revoke_15 : decode cX6_revoke 15 = .ok (.aload_n 2, 1) := by decide +kernel
theorem dX6_revoke_16 : decode cX6_revoke 16 = .ok (.invokevirtual 74, 3) := by decide +kernel
theorem dX6_revoke_19 : decode cX6_revoke 19 = .ok (.iload_n 3, 1) := by decide +kernel
theorem dX6_revoke_20 : decode cX6_revoke 20 = .ok (.ireturn, 1) := by decide +kernel
theorem dX6_passDays_0 : decode cX6_passDays 0 = .ok (.iload_n 1, 1) := by decide +kernel
theorem dX6_passDays_1 : decode cX6_passDays 1 = .ok (.iconst 1, 1) := by decide +kernel
theorem dX6_passDays_2 : decode cX6_passDays 2 = .ok (.bipush 100, 2) := by decide +kernel
theorem dX6_passDays_4 : decode cX6_passDays 4 = .ok (.invokestatic 59, 3) := by decide +kernel
theorem dX6_passDays_7 : decode cX6_passDays 7 = .ok (.ifCond .ne 13, 3) := by decide +kernel
theorem dX6_passDays_10 : decode cX6_passDays 10 = .ok (.new 63, 3) := by decide +kernel
theorem dX6_passDays_13 : decode cX6_passDays 13 = .ok (.dup, 1) := by decide +kernel
theorem dX6_passDays_14 : decode cX6_passDays 14 = .ok (.ldc 136, 2) := by decide +kernel
theorem dX6_passDays_16 : decode cX6_passDays 16 = .ok (.invokespecial 67, 3) := by decide +kernel
theorem dX6_passDays_19 : decode cX6_passDays 19 = .ok (.athrow, 1) := by decide +kernel
theorem dX6_passDays_20 : decode cX6_passDays 20 = .ok (.aload_n 0, 1) := by decide +kernel
theorem dX6_passDays_21 : decode cX6_passDays 21 = .ok (.getfield 11, 3) := by decide +kernel
theorem dX6_passDays_24 : decode cX6_passDays 24 = .ok (.astore_n 2, 1) := by decide +kernel
theorem dX6_passDays_25 : decode cX6_passDays 25 = .ok (.aload_n 2, 1) := by decide +kernel
theorem dX6_passDays_26 : decode cX6_passDays 26 = .ok (.arraylength, 1) := by decide +kernel
theorem dX6_passDays_27 : decode cX6_passDays 27 = .ok (.istore_n 3, 1) := by decide +kernel
theorem dX6_passDays_28 : decode cX6_passDays 28 = .ok (.iconst 0, 1) := by decide +kernel
theorem dX6_passDays_29 : decode cX6_passDays 29 = .ok (.istore 4, 2) := by decide +kernel
theorem dX6_passDays_31 : decode cX6_passDays 31 = .ok (.iload 4, 2) := by decide +kernel
theorem dX6_passDays_33 : decode cX6_passDays 33 = .ok (.iload_n 3, 1) := by decide +kernel
theorem dX6_passDays_34 : decode cX6_passDays 34 = .ok (.if_icmp .ge 26, 3) := by decide +kernel
theorem dX6_passDays_37 : decode cX6_passDays 37 = .ok (.aload_n 2, 1) := by decide +kernel
theorem dX6_passDays_38 : decode cX6_passDays 38 = .ok (.iload 4, 2) := by decide +kernel
theorem dX6_passDays_40 : decode cX6_passDays 40 = .ok (.aaload, 1) := by decide +kernel
theorem dX6_passDays_41 : decode cX6_passDays 41 = .ok (.astore 5, 2) := by decide +kernel
theorem dX6_passDays_43 : decode cX6_passDays 43 = .ok (.aload 5, 2) := by decide +kernel
theorem dX6_passDays_45 : decode cX6_passDays 45 = .ok (.ifnull 9, 3) := by decide +kernel
theorem dX6_passDays_48 : decode cX6_passDays 48 = .ok (.aload 5, 2) := by decide +kernel
theorem dX6_passDays_50 : decode cX6_passDays 50 = .ok (.iload_n 1, 1) := by decide +kernel
theorem dX6_passDays_51 : decode cX6_passDays 51 = .ok (.invokevirtual 138, 3) := by decide +kernel
theorem dX6_passDays_54 : decode cX6_passDays 54 = .ok (.iinc 4 1, 3) := by decide +kernel
theorem dX6_passDays_57 : decode cX6_passDays 57 = .ok (.goto (-26), 3) := by decide +kernel
theorem dX6_passDays_60 : decode cX6_passDays 60 = .ok (.aload_n 0, 1) := by decide +kernel
theorem dX6_passDays_61 : decode cX6_passDays 61 = .ok (.dup, 1) := by decide +kernel
theorem dX6_passDays_62 : decode cX6_passDays 62 = .ok (.getfield 141, 3) := by decide +kernel
theorem dX6_passDays_65 : decode cX6_passDays 65 = .ok (.iload_n 1, 1) := by decide +kernel
theorem dX6_passDays_66 : decode cX6_passDays 66 = .ok (.iadd, 1) := by decide +kernel
theorem dX6_passDays_67 : decode cX6_passDays 67 = .ok (.putfield 141, 3) := by decide +kernel
theorem dX6_passDays_70 : decode cX6_passDays 70 = .ok (.aload_n 0, 1) := by decide +kernel
theorem dX6_passDays_71 : decode cX6_passDays 71 = .ok (.invokevirtual 144, 3) := by decide +kernel
theorem dX6_passDays_74 : decode cX6_passDays 74 = .ok (.ireturn, 1) := by decide +kernel
theorem dX6_surfacesOf_0 : decode cX6_surfacesOf 0 = .ok (.aload_n 0, 1) := by decide +kernel
theorem dX6_surfacesOf_1 : decode cX6_surfacesOf 1 = .ok (.iload_n 1, 1) := by decide +kernel
theorem dX6_surfacesOf_2 : decode cX6_surfacesOf 2 = .ok (.invokevirtual 52, 3) := by decide +kernel
theorem dX6_surfacesOf_5 : decode cX6_surfacesOf 5 = .ok (.getfield 148, 3) := by decide +kernel
theorem dX6_surfacesOf_8 : decode cX6_surfacesOf 8 = .ok (.ireturn, 1) := by decide +kernel
theorem dX6_distanceOf_0 : decode cX6_distanceOf 0 = .ok (.aload_n 0, 1) := by decide +kernel
theorem dX6_distanceOf_1 : decode cX6_distanceOf 1 = .ok (.iload_n 1, 1) := by decide +kernel
theorem dX6_distanceOf_2 : decode cX6_distanceOf 2 = .ok (.invokevirtual 52, 3) := by decide +kernel
theorem dX6_distanceOf_5 : decode cX6_distanceOf 5 = .ok (.iload_n 2, 1) := by decide +kernel
theorem dX6_distanceOf_6 : decode cX6_distanceOf 6 = .ok (.invokestatic 86, 3) := by decide +kernel
theorem dX6_distanceOf_9 : decode cX6_distanceOf 9 = .ok (.getfield 90, 3) := by decide +kernel
theorem dX6_distanceOf_12 : decode cX6_distanceOf 12 = .ok (.ireturn, 1) := by decide +kernel
theorem dX6_hardnessOf_0 : decode cX6_hardnessOf 0 = .ok (.aload_n 0, 1) := by decide +kernel
theorem dX6_hardnessOf_1 : decode cX6_hardnessOf 1 = .ok (.iload_n 1, 1) := by decide +kernel
theorem dX6_hardnessOf_2 : decode cX6_hardnessOf 2 = .ok (.invokevirtual 52, 3) := by decide +kernel
theorem dX6_hardnessOf_5 : decode cX6_hardnessOf 5 = .ok (.astore_n 3, 1) := by decide +kernel
theorem dX6_hardnessOf_6 : decode cX6_hardnessOf 6 = .ok (.aload_n 3, 1) := by decide +kernel
theorem dX6_hardnessOf_7 : decode cX6_hardnessOf 7 = .ok (.iload_n 2, 1) := by decide +kernel
theorem dX6_hardnessOf_8 : decode cX6_hardnessOf 8 = .ok (.invokestatic 86, 3) := by decide +kernel
theorem dX6_hardnessOf_11 : decode cX6_hardnessOf 11 = .ok (.aload_n 3, 1) := by decide +kernel
theorem dX6_hardnessOf_12 : decode cX6_hardnessOf 12 = .ok (.getfield 96, 3) := by decide +kernel
theorem dX6_hardnessOf_15 : decode cX6_hardnessOf 15 = .ok (.invokevirtual 151, 3) := by decide +kernel
theorem dX6_hardnessOf_18 : decode cX6_hardnessOf 18 = .ok (.ireturn, 1) := by decide +kernel
theorem dX6_dampingOf_0 : decode cX6_dampingOf 0 = .ok (.aload_n 0, 1) := by decide +kernel
theorem dX6_dampingOf_1 : decode cX6_dampingOf 1 = .ok (.iload_n 1, 1) := by decide +kernel
theorem dX6_dampingOf_2 : decode cX6_dampingOf 2 = .ok (.invokevirtual 52, 3) := by decide +kernel
theorem dX6_dampingOf_5 : decode cX6_dampingOf 5 = .ok (.getfield 93, 3) := by decide +kernel
theorem dX6_dampingOf_8 : decode cX6_dampingOf 8 = .ok (.ireturn, 1) := by decide +kernel
theorem dX6_dustOf_0 : decode cX6_dustOf 0 = .ok (.aload_n 0, 1) := by decide +kernel
theorem dX6_dustOf_1 : decode cX6_dustOf 1 = .ok (.iload_n 1, 1) := by decide +kernel
theorem dX6_dustOf_2 : decode cX6_dustOf 2 = .ok (.invokevirtual 52, 3) := by decide +kernel
theorem dX6_dustOf_5 : decode cX6_dustOf 5 = .ok (.getfield 96, 3) := by decide +kernel
theorem dX6_dustOf_8 : decode cX6_dustOf 8 = .ok (.ireturn, 1) := by decide +kernel
theorem dX6_echoes_0 : decode cX6_echoes 0 = .ok (.aload_n 0, 1) := by decide +kernel
theorem dX6_echoes_1 : decode cX6_echoes 1 = .ok (.iload_n 1, 1) := by decide +kernel
theorem dX6_echoes_2 : decode cX6_echoes 2 = .ok (.iload_n 2, 1) := by decide +kernel
theorem dX6_echoes_3 : decode cX6_echoes 3 = .ok (.invokevirtual 155, 3) := by decide +kernel
theorem dX6_echoes_6 : decode cX6_echoes 6 = .ok (.getfield 159, 3) := by decide +kernel
theorem dX6_echoes_9 : decode cX6_echoes 9 = .ok (.ireturn, 1) := by decide +kernel
theorem dX6_loudEchoes_0 : decode cX6_loudEchoes 0 = .ok (.aload_n 0, 1) := by decide +kernel
theorem dX6_loudEchoes_1 : decode cX6_loudEchoes 1 = .ok (.iload_n 1, 1) := by decide +kernel
theorem dX6_loudEchoes_2 : decode cX6_loudEchoes 2 = .ok (.invokevirtual 52, 3) := by decide +kernel
theorem dX6_loudEchoes_5 : decode cX6_loudEchoes 5 = .ok (.astore 4, 2) := by decide +kernel
theorem dX6_loudEchoes_7 : decode cX6_loudEchoes 7 = .ok (.iload_n 2, 1) := by decide +kernel
theorem dX6_loudEchoes_8 : decode cX6_loudEchoes 8 = .ok (.invokestatic 162, 3) := by decide +kernel
theorem dX6_loudEchoes_11 : decode cX6_loudEchoes 11 = .ok (.iload_n 3, 1) := by decide +kernel
theorem dX6_loudEchoes_12 : decode cX6_loudEchoes 12 = .ok (.invokestatic 162, 3) := by decide +kernel
theorem dX6_loudEchoes_15 : decode cX6_loudEchoes 15 = .ok (.aload_n 0, 1) := by decide +kernel
theorem dX6_loudEchoes_16 : decode cX6_loudEchoes 16 = .ok (.aload 4, 2) := by decide +kernel
theorem dX6_loudEchoes_18 : decode cX6_loudEchoes 18 = .ok (.iload_n 2, 1) := by decide +kernel
theorem dX6_loudEchoes_19 : decode cX6_loudEchoes 19 = .ok (.iload_n 3, 1) := by decide +kernel
theorem dX6_loudEchoes_20 : decode cX6_loudEchoes 20 = .ok (.invokevirtual 165, 3) := by decide +kernel
theorem dX6_loudEchoes_23 : decode cX6_loudEchoes 23 = .ok (.getfield 169, 3) := by decide +kernel
theorem dX6_loudEchoes_26 : decode cX6_loudEchoes 26 = .ok (.ireturn, 1) := by decide +kernel
theorem dX6_firstEcho_0 : decode cX6_firstEcho 0 = .ok (.aload_n 0, 1) := by decide +kernel
theorem dX6_firstEcho_1 : decode cX6_firstEcho 1 = .ok (.iload_n 1, 1) := by decide +kernel
theorem dX6_firstEcho_2 : decode cX6_firstEcho 2 = .ok (.iload_n 2, 1) := by decide +kernel
theorem dX6_firstEcho_3 : decode cX6_firstEcho 3 = .ok (.invokevirtual 155, 3) := by decide +kernel
theorem dX6_firstEcho_6 : decode cX6_firstEcho 6 = .ok (.getfield 172, 3) := by decide +kernel
theorem dX6_firstEcho_9 : decode cX6_firstEcho 9 = .ok (.ireturn, 1) := by decide +kernel
theorem dX6_lastEcho_0 : decode cX6_lastEcho 0 = .ok (.aload_n 0, 1) := by decide +kernel
theorem dX6_lastEcho_1 : decode cX6_lastEcho 1 = .ok (.iload_n 1, 1) := by decide +kernel
theorem dX6_lastEcho_2 : decode cX6_lastEcho 2 = .ok (.iload_n 2, 1) := by decide +kernel
theorem dX6_lastEcho_3 : decode cX6_lastEcho 3 = .ok (.invokevirtual 155, 3) := by decide +kernel
theorem dX6_lastEcho_6 : decode cX6_lastEcho 6 = .ok (.getfield 175, 3) := by decide +kernel
theorem dX6_lastEcho_9 : decode cX6_lastEcho 9 = .ok (.ireturn, 1) := by decide +kernel
theorem dX6_loudnessAt_0 : decode cX6_loudnessAt 0 = .ok (.aload_n 0, 1) := by decide +kernel
theorem dX6_loudnessAt_1 : decode cX6_loudnessAt 1 = .ok (.iload_n 1, 1) := by decide +kernel
theorem dX6_loudnessAt_2 : decode cX6_loudnessAt 2 = .ok (.invokevirtual 52, 3) := by decide +kernel
theorem dX6_loudnessAt_5 : decode cX6_loudnessAt 5 = .ok (.astore 4, 2) := by decide +kernel
theorem dX6_loudnessAt_7 : decode cX6_loudnessAt 7 = .ok (.iload_n 2, 1) := by decide +kernel
theorem dX6_loudnessAt_8 : decode cX6_loudnessAt 8 = .ok (.invokestatic 162, 3) := by decide +kernel
theorem dX6_loudnessAt_11 : decode cX6_loudnessAt 11 = .ok (.iload_n 3, 1) := by decide +kernel
theorem dX6_loudnessAt_12 : decode cX6_loudnessAt 12 = .ok (.iconst 0, 1) := by decide +kernel
theorem dX6_loudnessAt_13 : decode cX6_loudnessAt 13 = .ok (.sipush 3000, 3) := by decide +kernel
theorem dX6_loudnessAt_16 : decode cX6_loudnessAt 16 = .ok (.invokestatic 59, 3) := by decide +kernel
theorem dX6_loudnessAt_19 : decode cX6_loudnessAt 19 = .ok (.ifCond .ne 13, 3) := by decide +kernel
theorem dX6_loudnessAt_22 : decode cX6_loudnessAt 22 = .ok (.new 63, 3) := by decide +kernel
theorem dX6_loudnessAt_25 : decode cX6_loudnessAt 25 = .ok (.dup, 1) := by decide +kernel
theorem dX6_loudnessAt_26 : decode cX6_loudnessAt 26 = .ok (.ldc 178, 2) := by decide +kernel
theorem dX6_loudnessAt_28 : decode cX6_loudnessAt 28 = .ok (.invokespecial 67, 3) := by decide +kernel
theorem dX6_loudnessAt_31 : decode cX6_loudnessAt 31 = .ok (.athrow, 1) := by decide +kernel
theorem dX6_loudnessAt_32 : decode cX6_loudnessAt 32 = .ok (.aload_n 0, 1) := by decide +kernel
theorem dX6_loudnessAt_33 : decode cX6_loudnessAt 33 = .ok (.aload 4, 2) := by decide +kernel
theorem dX6_loudnessAt_35 : decode cX6_loudnessAt 35 = .ok (.iload_n 2, 1) := by decide +kernel
theorem dX6_loudnessAt_36 : decode cX6_loudnessAt 36 = .ok (.invokevirtual 180, 3) := by decide +kernel
theorem dX6_loudnessAt_39 : decode cX6_loudnessAt 39 = .ok (.iload_n 3, 1) := by decide +kernel
theorem dX6_loudnessAt_40 : decode cX6_loudnessAt 40 = .ok (.invokevirtual 184, 3) := by decide +kernel
theorem dX6_loudnessAt_43 : decode cX6_loudnessAt 43 = .ok (.ireturn, 1) := by decide +kernel
theorem dX6_meets_0 : decode cX6_meets 0 = .ok (.aload_n 0, 1) := by decide +kernel
theorem dX6_meets_1 : decode cX6_meets 1 = .ok (.iload_n 1, 1) := by decide +kernel
theorem dX6_meets_2 : decode cX6_meets 2 = .ok (.invokevirtual 52, 3) := by decide +kernel
theorem dX6_meets_5 : decode cX6_meets 5 = .ok (.astore_n 3, 1) := by decide +kernel
theorem dX6_meets_6 : decode cX6_meets 6 = .ok (.aload_n 0, 1) := by decide +kernel
theorem dX6_meets_7 : decode cX6_meets 7 = .ok (.aload_n 3, 1) := by decide +kernel
theorem dX6_meets_8 : decode cX6_meets 8 = .ok (.aload_n 0, 1) := by decide +kernel
theorem dX6_meets_9 : decode cX6_meets 9 = .ok (.iload_n 2, 1) := by decide +kernel
theorem dX6_meets_10 : decode cX6_meets 10 = .ok (.invokevirtual 109, 3) := by decide +kernel
theorem dX6_meets_13 : decode cX6_meets 13 = .ok (.invokevirtual 116, 3) := by decide +kernel
theorem dX6_meets_16 : decode cX6_meets 16 = .ok (.ireturn, 1) := by decide +kernel
theorem dX6_hallsMeeting_0 : decode cX6_hallsMeeting 0 = .ok (.aload_n 0, 1) := by decide +kernel
theorem dX6_hallsMeeting_1 : decode cX6_hallsMeeting 1 = .ok (.iload_n 1, 1) := by decide +kernel
theorem dX6_hallsMeeting_2 : decode cX6_hallsMeeting 2 = .ok (.invokevirtual 109, 3) := by decide +kernel
theorem dX6_hallsMeeting_5 : decode cX6_hallsMeeting 5 = .ok (.astore_n 2, 1) := by decide +kernel
theorem dX6_hallsMeeting_6 : decode cX6_hallsMeeting 6 = .ok (.iconst 0, 1) := by decide +kernel
theorem dX6_hallsMeeting_7 : decode cX6_hallsMeeting 7 = .ok (.istore_n 3, 1) := by decide +kernel
theorem dX6_hallsMeeting_8 : decode cX6_hallsMeeting 8 = .ok (.aload_n 0, 1) := by decide +kernel
theorem dX6_hallsMeeting_9 : decode cX6_hallsMeeting 9 = .ok (.getfield 11, 3) := by decide +kernel
theorem dX6_hallsMeeting_12 : decode cX6_hallsMeeting 12 = .ok (.astore 4, 2) := by decide +kernel
theorem dX6_hallsMeeting_14 : decode cX6_hallsMeeting 14 = .ok (.aload 4, 2) := by decide +kernel
theorem dX6_hallsMeeting_16 : decode cX6_hallsMeeting 16 = .ok (.arraylength, 1) := by decide +kernel
theorem dX6_hallsMeeting_17 : decode cX6_hallsMeeting 17 = .ok (.istore 5, 2) := by decide +kernel
theorem dX6_hallsMeeting_19 : decode cX6_hallsMeeting 19 = .ok (.iconst 0, 1) := by decide +kernel
theorem dX6_hallsMeeting_20 : decode cX6_hallsMeeting 20 = .ok (.istore 6, 2) := by decide +kernel
theorem dX6_hallsMeeting_22 : decode cX6_hallsMeeting 22 = .ok (.iload 6, 2) := by decide +kernel
theorem dX6_hallsMeeting_24 : decode cX6_hallsMeeting 24 = .ok (.iload 5, 2) := by decide +kernel
theorem dX6_hallsMeeting_26 : decode cX6_hallsMeeting 26 = .ok (.if_icmp .ge 34, 3) := by decide +kernel
theorem dX6_hallsMeeting_29 : decode cX6_hallsMeeting 29 = .ok (.aload 4, 2) := by decide +kernel
theorem dX6_hallsMeeting_31 : decode cX6_hallsMeeting 31 = .ok (.iload 6, 2) := by decide +kernel
theorem dX6_hallsMeeting_33 : decode cX6_hallsMeeting 33 = .ok (.aaload, 1) := by decide +kernel
theorem dX6_hallsMeeting_34 : decode cX6_hallsMeeting 34 = .ok (.astore 7, 2) := by decide +kernel
theorem dX6_hallsMeeting_36 : decode cX6_hallsMeeting 36 = .ok (.aload 7, 2) := by decide +kernel
theorem dX6_hallsMeeting_38 : decode cX6_hallsMeeting 38 = .ok (.ifnull 16, 3) := by decide +kernel
theorem dX6_hallsMeeting_41 : decode cX6_hallsMeeting 41 = .ok (.aload_n 0, 1) := by decide +kernel
theorem dX6_hallsMeeting_42 : decode cX6_hallsMeeting 42 = .ok (.aload 7, 2) := by decide +kernel
theorem dX6_hallsMeeting_44 : decode cX6_hallsMeeting 44 = .ok (.aload_n 2, 1) := by decide +kernel
theorem dX6_hallsMeeting_45 : decode cX6_hallsMeeting 45 = .ok (.invokevirtual 116, 3) := by decide +kernel
theorem dX6_hallsMeeting_48 : decode cX6_hallsMeeting 48 = .ok (.ifCond .eq 6, 3) := by decide +kernel
theorem dX6_hallsMeeting_51 : decode cX6_hallsMeeting 51 = .ok (.iinc 3 1, 3) := by decide +kernel
theorem dX6_hallsMeeting_54 : decode cX6_hallsMeeting 54 = .ok (.iinc 6 1, 3) := by decide +kernel
theorem dX6_hallsMeeting_57 : decode cX6_hallsMeeting 57 = .ok (.goto (-35), 3) := by decide +kernel
theorem dX6_hallsMeeting_60 : decode cX6_hallsMeeting 60 = .ok (.iload_n 3, 1) := by decide +kernel
theorem dX6_hallsMeeting_61 : decode cX6_hallsMeeting 61 = .ok (.ireturn, 1) := by decide +kernel
theorem dX6_isCertified_0 : decode cX6_isCertified 0 = .ok (.aload_n 0, 1) := by decide +kernel
theorem dX6_isCertified_1 : decode cX6_isCertified 1 = .ok (.iload_n 1, 1) := by decide +kernel
theorem dX6_isCertified_2 : decode cX6_isCertified 2 = .ok (.invokevirtual 52, 3) := by decide +kernel
theorem dX6_isCertified_5 : decode cX6_isCertified 5 = .ok (.invokevirtual 190, 3) := by decide +kernel
theorem dX6_isCertified_8 : decode cX6_isCertified 8 = .ok (.ireturn, 1) := by decide +kernel
theorem dX6_certifiedBy_0 : decode cX6_certifiedBy 0 = .ok (.aload_n 0, 1) := by decide +kernel
theorem dX6_certifiedBy_1 : decode cX6_certifiedBy 1 = .ok (.iload_n 1, 1) := by decide +kernel
theorem dX6_certifiedBy_2 : decode cX6_certifiedBy 2 = .ok (.invokevirtual 52, 3) := by decide +kernel
theorem dX6_certifiedBy_5 : decode cX6_certifiedBy 5 = .ok (.astore_n 2, 1) := by decide +kernel
theorem dX6_certifiedBy_6 : decode cX6_certifiedBy 6 = .ok (.aload_n 2, 1) := by decide +kernel
theorem dX6_certifiedBy_7 : decode cX6_certifiedBy 7 = .ok (.invokestatic 129, 3) := by decide +kernel
theorem dX6_certifiedBy_10 : decode cX6_certifiedBy 10 = .ok (.aload_n 2, 1) := by decide +kernel
theorem dX6_certifiedBy_11 : decode cX6_certifiedBy 11 = .ok (.getfield 126, 3) := by decide +kernel
theorem dX6_certifiedBy_14 : decode cX6_certifiedBy 14 = .ok (.ireturn, 1) := by decide +kernel
theorem dX6_daysLeft_0 : decode cX6_daysLeft 0 = .ok (.aload_n 0, 1) := by decide +kernel
theorem dX6_daysLeft_1 : decode cX6_daysLeft 1 = .ok (.iload_n 1, 1) := by decide +kernel
theorem dX6_daysLeft_2 : decode cX6_daysLeft 2 = .ok (.invokevirtual 52, 3) := by decide +kernel
theorem dX6_daysLeft_5 : decode cX6_daysLeft 5 = .ok (.getfield 133, 3) := by decide +kernel
theorem dX6_daysLeft_8 : decode cX6_daysLeft 8 = .ok (.ireturn, 1) := by decide +kernel
theorem dX6_halls_0 : decode cX6_halls 0 = .ok (.aload_n 0, 1) := by decide +kernel
theorem dX6_halls_1 : decode cX6_halls 1 = .ok (.getfield 39, 3) := by decide +kernel
theorem dX6_halls_4 : decode cX6_halls 4 = .ok (.ireturn, 1) := by decide +kernel
theorem dX6_standards_0 : decode cX6_standards 0 = .ok (.aload_n 0, 1) := by decide +kernel
theorem dX6_standards_1 : decode cX6_standards 1 = .ok (.getfield 101, 3) := by decide +kernel
theorem dX6_standards_4 : decode cX6_standards 4 = .ok (.ireturn, 1) := by decide +kernel
theorem dX6_day_0 : decode cX6_day 0 = .ok (.aload_n 0, 1) := by decide +kernel
theorem dX6_day_1 : decode cX6_day 1 = .ok (.getfield 141, 3) := by decide +kernel
theorem dX6_day_4 : decode cX6_day 4 = .ok (.ireturn, 1) := by decide +kernel
theorem dX6_inspections_0 : decode cX6_inspections 0 = .ok (.aload_n 0, 1) := by decide +kernel
theorem dX6_inspections_1 : decode cX6_inspections 1 = .ok (.getfield 113, 3) := by decide +kernel
theorem dX6_inspections_4 : decode cX6_inspections 4 = .ok (.ireturn, 1) := by decide +kernel
theorem dX6_certifiedHalls_0 : decode cX6_certifiedHalls 0 = .ok (.aload_n 0, 1) := by decide +kernel
theorem dX6_certifiedHalls_1 : decode cX6_certifiedHalls 1 = .ok (.invokevirtual 144, 3) := by decide +kernel
theorem dX6_certifiedHalls_4 : decode cX6_certifiedHalls 4 = .ok (.ireturn, 1) := by decide +kernel
theorem dX6_meetsWithDamping_0 : decode cX6_meetsWithDamping 0 = .ok (.aload_n 0, 1) := by decide +kernel
theorem dX6_meetsWithDamping_1 : decode cX6_meetsWithDamping 1 = .ok (.iload_n 1, 1) := by decide +kernel
theorem dX6_meetsWithDamping_2 : decode cX6_meetsWithDamping 2 = .ok (.invokevirtual 52, 3) := by decide +kernel
theorem dX6_meetsWithDamping_5 : decode cX6_meetsWithDamping 5 = .ok (.astore 4, 2) := by decide +kernel
theorem dX6_meetsWithDamping_7 : decode cX6_meetsWithDamping 7 = .ok (.aload_n 0, 1) := by decide +kernel
theorem dX6_meetsWithDamping_8 : decode cX6_meetsWithDamping 8 = .ok (.iload_n 2, 1) := by decide +kernel
theorem dX6_meetsWithDamping_9 : decode cX6_meetsWithDamping 9 = .ok (.invokevirtual 109, 3) := by decide +kernel
theorem dX6_meetsWithDamping_12 : decode cX6_meetsWithDamping 12 = .ok (.astore 5, 2) := by decide +kernel
theorem dX6_meetsWithDamping_14 : decode cX6_meetsWithDamping 14 = .ok (.iload_n 3, 1) := by decide +kernel
theorem dX6_meetsWithDamping_15 : decode cX6_meetsWithDamping 15 = .ok (.invokestatic 35, 3) := by decide +kernel
theorem dX6_meetsWithDamping_18 : decode cX6_meetsWithDamping 18 = .ok (.aload_n 0, 1) := by decide +kernel
theorem dX6_meetsWithDamping_19 : decode cX6_meetsWithDamping 19 = .ok (.aload 4, 2) := by decide +kernel
theorem dX6_meetsWithDamping_21 : decode cX6_meetsWithDamping 21 = .ok (.aload 5, 2) := by decide +kernel
theorem dX6_meetsWithDamping_23 : decode cX6_meetsWithDamping 23 = .ok (.iload_n 3, 1) := by decide +kernel
theorem dX6_meetsWithDamping_24 : decode cX6_meetsWithDamping 24 = .ok (.aload 4, 2) := by decide +kernel
theorem dX6_meetsWithDamping_26 : decode cX6_meetsWithDamping 26 = .ok (.getfield 96, 3) := by decide +kernel
theorem dX6_meetsWithDamping_29 : decode cX6_meetsWithDamping 29 = .ok (.invokevirtual 193, 3) := by decide +kernel
theorem dX6_meetsWithDamping_32 : decode cX6_meetsWithDamping 32 = .ok (.ireturn, 1) := by decide +kernel
theorem dX6_meanDamping_0 : decode cX6_meanDamping 0 = .ok (.aload_n 0, 1) := by decide +kernel
theorem dX6_meanDamping_1 : decode cX6_meanDamping 1 = .ok (.getfield 39, 3) := by decide +kernel
theorem dX6_meanDamping_4 : decode cX6_meanDamping 4 = .ok (.ifCond .gt 5, 3) := by decide +kernel
theorem dX6_meanDamping_7 : decode cX6_meanDamping 7 = .ok (.dconst 0, 1) := by decide +kernel
theorem dX6_meanDamping_8 : decode cX6_meanDamping 8 = .ok (.dreturn, 1) := by decide +kernel
theorem dX6_meanDamping_9 : decode cX6_meanDamping 9 = .ok (.iconst 0, 1) := by decide +kernel
theorem dX6_meanDamping_10 : decode cX6_meanDamping 10 = .ok (.istore_n 1, 1) := by decide +kernel
theorem dX6_meanDamping_11 : decode cX6_meanDamping 11 = .ok (.aload_n 0, 1) := by decide +kernel
theorem dX6_meanDamping_12 : decode cX6_meanDamping 12 = .ok (.getfield 11, 3) := by decide +kernel
theorem dX6_meanDamping_15 : decode cX6_meanDamping 15 = .ok (.astore_n 2, 1) := by decide +kernel
theorem dX6_meanDamping_16 : decode cX6_meanDamping 16 = .ok (.aload_n 2, 1) := by decide +kernel
theorem dX6_meanDamping_17 : decode cX6_meanDamping 17 = .ok (.arraylength, 1) := by decide +kernel
theorem dX6_meanDamping_18 : decode cX6_meanDamping 18 = .ok (.istore_n 3, 1) := by decide +kernel
theorem dX6_meanDamping_19 : decode cX6_meanDamping 19 = .ok (.iconst 0, 1) := by decide +kernel
theorem dX6_meanDamping_20 : decode cX6_meanDamping 20 = .ok (.istore 4, 2) := by decide +kernel
theorem dX6_meanDamping_22 : decode cX6_meanDamping 22 = .ok (.iload 4, 2) := by decide +kernel
theorem dX6_meanDamping_24 : decode cX6_meanDamping 24 = .ok (.iload_n 3, 1) := by decide +kernel
theorem dX6_meanDamping_25 : decode cX6_meanDamping 25 = .ok (.if_icmp .ge 28, 3) := by decide +kernel
theorem dX6_meanDamping_28 : decode cX6_meanDamping 28 = .ok (.aload_n 2, 1) := by decide +kernel
theorem dX6_meanDamping_29 : decode cX6_meanDamping 29 = .ok (.iload 4, 2) := by decide +kernel
theorem dX6_meanDamping_31 : decode cX6_meanDamping 31 = .ok (.aaload, 1) := by decide +kernel
theorem dX6_meanDamping_32 : decode cX6_meanDamping 32 = .ok (.astore 5, 2) := by decide +kernel
theorem dX6_meanDamping_34 : decode cX6_meanDamping 34 = .ok (.aload 5, 2) := by decide +kernel
theorem dX6_meanDamping_36 : decode cX6_meanDamping 36 = .ok (.ifnull 11, 3) := by decide +kernel
theorem dX6_meanDamping_39 : decode cX6_meanDamping 39 = .ok (.iload_n 1, 1) := by decide +kernel
theorem dX6_meanDamping_40 : decode cX6_meanDamping 40 = .ok (.aload 5, 2) := by decide +kernel
theorem dX6_meanDamping_42 : decode cX6_meanDamping 42 = .ok (.getfield 93, 3) := by decide +kernel
theorem dX6_meanDamping_45 : decode cX6_meanDamping 45 = .ok (.iadd, 1) := by decide +kernel
theorem dX6_meanDamping_46 : decode cX6_meanDamping 46 = .ok (.istore_n 1, 1) := by decide +kernel
theorem dX6_meanDamping_47 : decode cX6_meanDamping 47 = .ok (.iinc 4 1, 3) := by decide +kernel
theorem dX6_meanDamping_50 : decode cX6_meanDamping 50 = .ok (.goto (-28), 3) := by decide +kernel
theorem dX6_meanDamping_53 : decode cX6_meanDamping 53 = .ok (.iload_n 1, 1) := by decide +kernel
theorem dX6_meanDamping_54 : decode cX6_meanDamping 54 = .ok (.i2d, 1) := by decide +kernel
theorem dX6_meanDamping_55 : decode cX6_meanDamping 55 = .ok (.aload_n 0, 1) := by decide +kernel
theorem dX6_meanDamping_56 : decode cX6_meanDamping 56 = .ok (.getfield 39, 3) := by decide +kernel
theorem dX6_meanDamping_59 : decode cX6_meanDamping 59 = .ok (.i2d, 1) := by decide +kernel
theorem dX6_meanDamping_60 : decode cX6_meanDamping 60 = .ok (.ddiv, 1) := by decide +kernel
theorem dX6_meanDamping_61 : decode cX6_meanDamping 61 = .ok (.dreturn, 1) := by decide +kernel
theorem dX6_isWithin_0 : decode cX6_isWithin 0 = .ok (.iload_n 0, 1) := by decide +kernel
theorem dX6_isWithin_1 : decode cX6_isWithin 1 = .ok (.iload_n 1, 1) := by decide +kernel
theorem dX6_isWithin_2 : decode cX6_isWithin 2 = .ok (.if_icmp .lt 12, 3) := by decide +kernel
theorem dX6_isWithin_5 : decode cX6_isWithin 5 = .ok (.iload_n 0, 1) := by decide +kernel
theorem dX6_isWithin_6 : decode cX6_isWithin 6 = .ok (.iload_n 2, 1) := by decide +kernel
theorem dX6_isWithin_7 : decode cX6_isWithin 7 = .ok (.if_icmp .gt 7, 3) := by decide +kernel
theorem dX6_isWithin_10 : decode cX6_isWithin 10 = .ok (.iconst 1, 1) := by decide +kernel
theorem dX6_isWithin_11 : decode cX6_isWithin 11 = .ok (.goto 4, 3) := by decide +kernel
theorem dX6_isWithin_14 : decode cX6_isWithin 14 = .ok (.iconst 0, 1) := by decide +kernel
theorem dX6_isWithin_15 : decode cX6_isWithin 15 = .ok (.ireturn, 1) := by decide +kernel
theorem dX6_checkDamping_0 : decode cX6_checkDamping 0 = .ok (.iload_n 0, 1) := by decide +kernel
theorem dX6_checkDamping_1 : decode cX6_checkDamping 1 = .ok (.iconst 0, 1) := by decide +kernel
theorem dX6_checkDamping_2 : decode cX6_checkDamping 2 = .ok (.bipush 90, 2) := by decide +kernel
theorem dX6_checkDamping_4 : decode cX6_checkDamping 4 = .ok (.invokestatic 59, 3) := by decide +kernel
theorem dX6_checkDamping_7 : decode cX6_checkDamping 7 = .ok (.ifCond .ne 13, 3) := by decide +kernel
theorem dX6_checkDamping_10 : decode cX6_checkDamping 10 = .ok (.new 63, 3) := by decide +kernel
theorem dX6_checkDamping_13 : decode cX6_checkDamping 13 = .ok (.dup, 1) := by decide +kernel
theorem dX6_checkDamping_14 : decode cX6_checkDamping 14 = .ok (.ldc 219, 2) := by decide +kernel
theorem dX6_checkDamping_16 : decode cX6_checkDamping 16 = .ok (.invokespecial 67, 3) := by decide +kernel
theorem dX6_checkDamping_19 : decode cX6_checkDamping 19 = .ok (.athrow, 1) := by decide +kernel
theorem dX6_checkDamping_20 : decode cX6_checkDamping 20 = .ok (.return_, 1) := by decide +kernel
theorem dX6_checkDistance_0 : decode cX6_checkDistance 0 = .ok (.iload_n 0, 1) := by decide +kernel
theorem dX6_checkDistance_1 : decode cX6_checkDistance 1 = .ok (.iconst 1, 1) := by decide +kernel
theorem dX6_checkDistance_2 : decode cX6_checkDistance 2 = .ok (.bipush 60, 2) := by decide +kernel
theorem dX6_checkDistance_4 : decode cX6_checkDistance 4 = .ok (.invokestatic 59, 3) := by decide +kernel
theorem dX6_checkDistance_7 : decode cX6_checkDistance 7 = .ok (.ifCond .ne 13, 3) := by decide +kernel
theorem dX6_checkDistance_10 : decode cX6_checkDistance 10 = .ok (.new 63, 3) := by decide +kernel
theorem dX6_checkDistance_13 : decode cX6_checkDistance 13 = .ok (.dup, 1) := by decide +kernel
theorem dX6_checkDistance_14 : decode cX6_checkDistance 14 = .ok (.ldc 221, 2) := by decide +kernel
theorem dX6_checkDistance_16 : decode cX6_checkDistance 16 = .ok (.invokespecial 67, 3) := by decide +kernel
theorem dX6_checkDistance_19 : decode cX6_checkDistance 19 = .ok (.athrow, 1) := by decide +kernel
theorem dX6_checkDistance_20 : decode cX6_checkDistance 20 = .ok (.return_, 1) := by decide +kernel
theorem dX6_checkLoudness_0 : decode cX6_checkLoudness 0 = .ok (.iload_n 0, 1) := by decide +kernel
theorem dX6_checkLoudness_1 : decode cX6_checkLoudness 1 = .ok (.iconst 1, 1) := by decide +kernel
theorem dX6_checkLoudness_2 : decode cX6_checkLoudness 2 = .ok (.sipush 1000, 3) := by decide +kernel
theorem dX6_checkLoudness_5 : decode cX6_checkLoudness 5 = .ok (.invokestatic 59, 3) := by decide +kernel
theorem dX6_checkLoudness_8 : decode cX6_checkLoudness 8 = .ok (.ifCond .ne 13, 3) := by decide +kernel
theorem dX6_checkLoudness_11 : decode cX6_checkLoudness 11 = .ok (.new 63, 3) := by decide +kernel
theorem dX6_checkLoudness_14 : decode cX6_checkLoudness 14 = .ok (.dup, 1) := by decide +kernel
theorem dX6_checkLoudness_15 : decode cX6_checkLoudness 15 = .ok (.ldc 223, 2) := by decide +kernel
theorem dX6_checkLoudness_17 : decode cX6_checkLoudness 17 = .ok (.invokespecial 67, 3) := by decide +kernel
theorem dX6_checkLoudness_20 : decode cX6_checkLoudness 20 = .ok (.athrow, 1) := by decide +kernel
theorem dX6_checkLoudness_21 : decode cX6_checkLoudness 21 = .ok (.return_, 1) := by decide +kernel
theorem dX6_checkCertificate_0 : decode cX6_checkCertificate 0 = .ok (.aload_n 0, 1) := by decide +kernel
theorem dX6_checkCertificate_1 : decode cX6_checkCertificate 1 = .ok (.invokevirtual 190, 3) := by decide +kernel
theorem dX6_checkCertificate_4 : decode cX6_checkCertificate 4 = .ok (.ifCond .ne 13, 3) := by decide +kernel
theorem dX6_checkCertificate_7 : decode cX6_checkCertificate 7 = .ok (.new 43, 3) := by decide +kernel
theorem dX6_checkCertificate_10 : decode cX6_checkCertificate 10 = .ok (.dup, 1) := by decide +kernel
theorem dX6_checkCertificate_11 : decode cX6_checkCertificate 11 = .ok (.ldc 225, 2) := by decide +kernel
theorem dX6_checkCertificate_13 : decode cX6_checkCertificate 13 = .ok (.invokespecial 47, 3) := by decide +kernel
theorem dX6_checkCertificate_16 : decode cX6_checkCertificate 16 = .ok (.athrow, 1) := by decide +kernel
theorem dX6_checkCertificate_17 : decode cX6_checkCertificate 17 = .ok (.return_, 1) := by decide +kernel
theorem dX6_findHall_0 : decode cX6_findHall 0 = .ok (.iload_n 1, 1) := by decide +kernel
theorem dX6_findHall_1 : decode cX6_findHall 1 = .ok (.ifCond .lt 12, 3) := by decide +kernel
theorem dX6_findHall_4 : decode cX6_findHall 4 = .ok (.iload_n 1, 1) := by decide +kernel
theorem dX6_findHall_5 : decode cX6_findHall 5 = .ok (.aload_n 0, 1) := by decide +kernel
theorem dX6_findHall_6 : decode cX6_findHall 6 = .ok (.getfield 11, 3) := by decide +kernel
theorem dX6_findHall_9 : decode cX6_findHall 9 = .ok (.arraylength, 1) := by decide +kernel
theorem dX6_findHall_10 : decode cX6_findHall 10 = .ok (.if_icmp .lt 13, 3) := by decide +kernel
theorem dX6_findHall_13 : decode cX6_findHall 13 = .ok (.new 227, 3) := by decide +kernel
theorem dX6_findHall_16 : decode cX6_findHall 16 = .ok (.dup, 1) := by decide +kernel
theorem dX6_findHall_17 : decode cX6_findHall 17 = .ok (.ldc 229, 2) := by decide +kernel
theorem dX6_findHall_19 : decode cX6_findHall 19 = .ok (.invokespecial 231, 3) := by decide +kernel
theorem dX6_findHall_22 : decode cX6_findHall 22 = .ok (.athrow, 1) := by decide +kernel
theorem dX6_findHall_23 : decode cX6_findHall 23 = .ok (.aload_n 0, 1) := by decide +kernel
theorem dX6_findHall_24 : decode cX6_findHall 24 = .ok (.getfield 11, 3) := by decide +kernel
theorem dX6_findHall_27 : decode cX6_findHall 27 = .ok (.iload_n 1, 1) := by decide +kernel
theorem dX6_findHall_28 : decode cX6_findHall 28 = .ok (.aaload, 1) := by decide +kernel
theorem dX6_findHall_29 : decode cX6_findHall 29 = .ok (.astore_n 2, 1) := by decide +kernel
theorem dX6_findHall_30 : decode cX6_findHall 30 = .ok (.aload_n 2, 1) := by decide +kernel
theorem dX6_findHall_31 : decode cX6_findHall 31 = .ok (.ifnonnull 13, 3) := by decide +kernel
theorem dX6_findHall_34 : decode cX6_findHall 34 = .ok (.new 227, 3) := by decide +kernel
theorem dX6_findHall_37 : decode cX6_findHall 37 = .ok (.dup, 1) := by decide +kernel
theorem dX6_findHall_38 : decode cX6_findHall 38 = .ok (.ldc 232, 2) := by decide +kernel
theorem dX6_findHall_40 : decode cX6_findHall 40 = .ok (.invokespecial 231, 3) := by decide +kernel
theorem dX6_findHall_43 : decode cX6_findHall 43 = .ok (.athrow, 1) := by decide +kernel
theorem dX6_findHall_44 : decode cX6_findHall 44 = .ok (.aload_n 2, 1) := by decide +kernel
theorem dX6_findHall_45 : decode cX6_findHall 45 = .ok (.areturn, 1) := by decide +kernel
theorem dX6_findStandard_0 : decode cX6_findStandard 0 = .ok (.iload_n 1, 1) := by decide +kernel
theorem dX6_findStandard_1 : decode cX6_findStandard 1 = .ok (.ifCond .lt 12, 3) := by decide +kernel
theorem dX6_findStandard_4 : decode cX6_findStandard 4 = .ok (.iload_n 1, 1) := by decide +kernel
theorem dX6_findStandard_5 : decode cX6_findStandard 5 = .ok (.aload_n 0, 1) := by decide +kernel
theorem dX6_findStandard_6 : decode cX6_findStandard 6 = .ok (.getfield 17, 3) := by decide +kernel
theorem dX6_findStandard_9 : decode cX6_findStandard 9 = .ok (.arraylength, 1) := by decide +kernel
theorem dX6_findStandard_10 : decode cX6_findStandard 10 = .ok (.if_icmp .lt 13, 3) := by decide +kernel
theorem dX6_findStandard_13 : decode cX6_findStandard 13 = .ok (.new 227, 3) := by decide +kernel
theorem dX6_findStandard_16 : decode cX6_findStandard 16 = .ok (.dup, 1) := by decide +kernel
theorem dX6_findStandard_17 : decode cX6_findStandard 17 = .ok (.ldc 234, 2) := by decide +kernel
theorem dX6_findStandard_19 : decode cX6_findStandard 19 = .ok (.invokespecial 231, 3) := by decide +kernel
theorem dX6_findStandard_22 : decode cX6_findStandard 22 = .ok (.athrow, 1) := by decide +kernel
theorem dX6_findStandard_23 : decode cX6_findStandard 23 = .ok (.aload_n 0, 1) := by decide +kernel
theorem dX6_findStandard_24 : decode cX6_findStandard 24 = .ok (.getfield 17, 3) := by decide +kernel
theorem dX6_findStandard_27 : decode cX6_findStandard 27 = .ok (.iload_n 1, 1) := by decide +kernel
theorem dX6_findStandard_28 : decode cX6_findStandard 28 = .ok (.aaload, 1) := by decide +kernel
theorem dX6_findStandard_29 : decode cX6_findStandard 29 = .ok (.astore_n 2, 1) := by decide +kernel
theorem dX6_findStandard_30 : decode cX6_findStandard 30 = .ok (.aload_n 2, 1) := by decide +kernel
theorem dX6_findStandard_31 : decode cX6_findStandard 31 = .ok (.ifnonnull 13, 3) := by decide +kernel
theorem dX6_findStandard_34 : decode cX6_findStandard 34 = .ok (.new 227, 3) := by decide +kernel
theorem dX6_findStandard_37 : decode cX6_findStandard 37 = .ok (.dup, 1) := by decide +kernel
theorem dX6_findStandard_38 : decode cX6_findStandard 38 = .ok (.ldc 236, 2) := by decide +kernel
theorem dX6_findStandard_40 : decode cX6_findStandard 40 = .ok (.invokespecial 231, 3) := by decide +kernel
theorem dX6_findStandard_43 : decode cX6_findStandard 43 = .ok (.athrow, 1) := by decide +kernel
theorem dX6_findStandard_44 : decode cX6_findStandard 44 = .ok (.aload_n 2, 1) := by decide +kernel
theorem dX6_findStandard_45 : decode cX6_findStandard 45 = .ok (.areturn, 1) := by decide +kernel
theorem dX6_findSurface_0 : decode cX6_findSurface 0 = .ok (.iload_n 1, 1) := by decide +kernel
theorem dX6_findSurface_1 : decode cX6_findSurface 1 = .ok (.ifCond .lt 12, 3) := by decide +kernel
theorem dX6_findSurface_4 : decode cX6_findSurface 4 = .ok (.iload_n 1, 1) := by decide +kernel
theorem dX6_findSurface_5 : decode cX6_findSurface 5 = .ok (.aload_n 0, 1) := by decide +kernel
theorem dX6_findSurface_6 : decode cX6_findSurface 6 = .ok (.getfield 215, 3) := by decide +kernel
theorem dX6_findSurface_9 : decode cX6_findSurface 9 = .ok (.arraylength, 1) := by decide +kernel
theorem dX6_findSurface_10 : decode cX6_findSurface 10 = .ok (.if_icmp .lt 13, 3) := by decide +kernel
theorem dX6_findSurface_13 : decode cX6_findSurface 13 = .ok (.new 227, 3) := by decide +kernel
theorem dX6_findSurface_16 : decode cX6_findSurface 16 = .ok (.dup, 1) := by decide +kernel
theorem dX6_findSurface_17 : decode cX6_findSurface 17 = .ok (.ldc 238, 2) := by decide +kernel
theorem dX6_findSurface_19 : decode cX6_findSurface 19 = .ok (.invokespecial 231, 3) := by decide +kernel
theorem dX6_findSurface_22 : decode cX6_findSurface 22 = .ok (.athrow, 1) := by decide +kernel
theorem dX6_findSurface_23 : decode cX6_findSurface 23 = .ok (.aload_n 0, 1) := by decide +kernel
theorem dX6_findSurface_24 : decode cX6_findSurface 24 = .ok (.getfield 215, 3) := by decide +kernel
theorem dX6_findSurface_27 : decode cX6_findSurface 27 = .ok (.iload_n 1, 1) := by decide +kernel
theorem dX6_findSurface_28 : decode cX6_findSurface 28 = .ok (.aaload, 1) := by decide +kernel
theorem dX6_findSurface_29 : decode cX6_findSurface 29 = .ok (.astore_n 2, 1) := by decide +kernel
theorem dX6_findSurface_30 : decode cX6_findSurface 30 = .ok (.aload_n 2, 1) := by decide +kernel
theorem dX6_findSurface_31 : decode cX6_findSurface 31 = .ok (.ifnonnull 13, 3) := by decide +kernel
theorem dX6_findSurface_34 : decode cX6_findSurface 34 = .ok (.new 227, 3) := by decide +kernel
theorem dX6_findSurface_37 : decode cX6_findSurface 37 = .ok (.dup, 1) := by decide +kernel
theorem dX6_findSurface_38 : decode cX6_findSurface 38 = .ok (.ldc 240, 2) := by decide +kernel
theorem dX6_findSurface_40 : decode cX6_findSurface 40 = .ok (.invokespecial 231, 3) := by decide +kernel
theorem dX6_findSurface_43 : decode cX6_findSurface 43 = .ok (.athrow, 1) := by decide +kernel
theorem dX6_findSurface_44 : decode cX6_findSurface 44 = .ok (.aload_n 2, 1) := by decide +kernel
theorem dX6_findSurface_45 : decode cX6_findSurface 45 = .ok (.areturn, 1) := by decide +kernel
theorem dX6_countCertified_0 : decode cX6_countCertified 0 = .ok (.iconst 0, 1) := by decide +kernel
theorem dX6_countCertified_1 : decode cX6_countCertified 1 = .ok (.istore_n 1, 1) := by decide +kernel
theorem dX6_countCertified_2 : decode cX6_countCertified 2 = .ok (.aload_n 0, 1) := by decide +kernel
theorem dX6_countCertified_3 : decode cX6_countCertified 3 = .ok (.getfield 11, 3) := by decide +kernel
theorem dX6_countCertified_6 : decode cX6_countCertified 6 = .ok (.astore_n 2, 1) := by decide +kernel
theorem dX6_countCertified_7 : decode cX6_countCertified 7 = .ok (.aload_n 2, 1) := by decide +kernel
theorem dX6_countCertified_8 : decode cX6_countCertified 8 = .ok (.arraylength, 1) := by decide +kernel
theorem dX6_countCertified_9 : decode cX6_countCertified 9 = .ok (.istore_n 3, 1) := by decide +kernel
theorem dX6_countCertified_10 : decode cX6_countCertified 10 = .ok (.iconst 0, 1) := by decide +kernel
theorem dX6_countCertified_11 : decode cX6_countCertified 11 = .ok (.istore 4, 2) := by decide +kernel
theorem dX6_countCertified_13 : decode cX6_countCertified 13 = .ok (.iload 4, 2) := by decide +kernel
theorem dX6_countCertified_15 : decode cX6_countCertified 15 = .ok (.iload_n 3, 1) := by decide +kernel
theorem dX6_countCertified_16 : decode cX6_countCertified 16 = .ok (.if_icmp .ge 31, 3) := by decide +kernel
theorem dX6_countCertified_19 : decode cX6_countCertified 19 = .ok (.aload_n 2, 1) := by decide +kernel
theorem dX6_countCertified_20 : decode cX6_countCertified 20 = .ok (.iload 4, 2) := by decide +kernel
theorem dX6_countCertified_22 : decode cX6_countCertified 22 = .ok (.aaload, 1) := by decide +kernel
theorem dX6_countCertified_23 : decode cX6_countCertified 23 = .ok (.astore 5, 2) := by decide +kernel
theorem dX6_countCertified_25 : decode cX6_countCertified 25 = .ok (.aload 5, 2) := by decide +kernel
theorem dX6_countCertified_27 : decode cX6_countCertified 27 = .ok (.ifnull 14, 3) := by decide +kernel
theorem dX6_countCertified_30 : decode cX6_countCertified 30 = .ok (.aload 5, 2) := by decide +kernel
theorem dX6_countCertified_32 : decode cX6_countCertified 32 = .ok (.invokevirtual 190, 3) := by decide +kernel
theorem dX6_countCertified_35 : decode cX6_countCertified 35 = .ok (.ifCond .eq 6, 3) := by decide +kernel
theorem dX6_countCertified_38 : decode cX6_countCertified 38 = .ok (.iinc 1 1, 3) := by decide +kernel
theorem dX6_countCertified_41 : decode cX6_countCertified 41 = .ok (.iinc 4 1, 3) := by decide +kernel
theorem dX6_countCertified_44 : decode cX6_countCertified 44 = .ok (.goto (-31), 3) := by decide +kernel
theorem dX6_countCertified_47 : decode cX6_countCertified 47 = .ok (.iload_n 1, 1) := by decide +kernel
theorem dX6_countCertified_48 : decode cX6_countCertified 48 = .ok (.ireturn, 1) := by decide +kernel
theorem dX6_tallyOfClick_0 : decode cX6_tallyOfClick 0 = .ok (.aload_n 0, 1) := by decide +kernel
theorem dX6_tallyOfClick_1 : decode cX6_tallyOfClick 1 = .ok (.iload_n 1, 1) := by decide +kernel
theorem dX6_tallyOfClick_2 : decode cX6_tallyOfClick 2 = .ok (.invokevirtual 52, 3) := by decide +kernel
theorem dX6_tallyOfClick_5 : decode cX6_tallyOfClick 5 = .ok (.astore_n 3, 1) := by decide +kernel
theorem dX6_tallyOfClick_6 : decode cX6_tallyOfClick 6 = .ok (.iload_n 2, 1) := by decide +kernel
theorem dX6_tallyOfClick_7 : decode cX6_tallyOfClick 7 = .ok (.invokestatic 162, 3) := by decide +kernel
theorem dX6_tallyOfClick_10 : decode cX6_tallyOfClick 10 = .ok (.aload_n 0, 1) := by decide +kernel
theorem dX6_tallyOfClick_11 : decode cX6_tallyOfClick 11 = .ok (.aload_n 3, 1) := by decide +kernel
theorem dX6_tallyOfClick_12 : decode cX6_tallyOfClick 12 = .ok (.iload_n 2, 1) := by decide +kernel
theorem dX6_tallyOfClick_13 : decode cX6_tallyOfClick 13 = .ok (.iconst 1, 1) := by decide +kernel
theorem dX6_tallyOfClick_14 : decode cX6_tallyOfClick 14 = .ok (.invokevirtual 165, 3) := by decide +kernel
theorem dX6_tallyOfClick_17 : decode cX6_tallyOfClick 17 = .ok (.areturn, 1) := by decide +kernel
theorem dX6_tallyOf_0 : decode cX6_tallyOf 0 = .ok (.aload_n 0, 1) := by decide +kernel
theorem dX6_tallyOf_1 : decode cX6_tallyOf 1 = .ok (.getfield 24, 3) := by decide +kernel
theorem dX6_tallyOf_4 : decode cX6_tallyOf 4 = .ok (.iload_n 3, 1) := by decide +kernel
theorem dX6_tallyOf_5 : decode cX6_tallyOf 5 = .ok (.invokevirtual 242, 3) := by decide +kernel
theorem dX6_tallyOf_8 : decode cX6_tallyOf 8 = .ok (.aload_n 1, 1) := by decide +kernel
theorem dX6_tallyOf_9 : decode cX6_tallyOf 9 = .ok (.iload_n 2, 1) := by decide +kernel
theorem dX6_tallyOf_10 : decode cX6_tallyOf 10 = .ok (.aload_n 1, 1) := by decide +kernel
theorem dX6_tallyOf_11 : decode cX6_tallyOf 11 = .ok (.getfield 93, 3) := by decide +kernel
theorem dX6_tallyOf_14 : decode cX6_tallyOf 14 = .ok (.aload_n 1, 1) := by decide +kernel
theorem dX6_tallyOf_15 : decode cX6_tallyOf 15 = .ok (.getfield 96, 3) := by decide +kernel
theorem dX6_tallyOf_18 : decode cX6_tallyOf 18 = .ok (.aload_n 0, 1) := by decide +kernel
theorem dX6_tallyOf_19 : decode cX6_tallyOf 19 = .ok (.getfield 24, 3) := by decide +kernel
theorem dX6_tallyOf_22 : decode cX6_tallyOf 22 = .ok (.invokevirtual 245, 3) := by decide +kernel
theorem dX6_tallyOf_25 : decode cX6_tallyOf 25 = .ok (.aload_n 0, 1) := by decide +kernel
theorem dX6_tallyOf_26 : decode cX6_tallyOf 26 = .ok (.getfield 24, 3) := by decide +kernel
theorem dX6_tallyOf_29 : decode cX6_tallyOf 29 = .ok (.areturn, 1) := by decide +kernel
theorem dX6_loudnessesOf_0 : decode cX6_loudnessesOf 0 = .ok (.aload_n 0, 1) := by decide +kernel
theorem dX6_loudnessesOf_1 : decode cX6_loudnessesOf 1 = .ok (.getfield 31, 3) := by decide +kernel
theorem dX6_loudnessesOf_4 : decode cX6_loudnessesOf 4 = .ok (.invokevirtual 249, 3) := by decide +kernel
theorem dX6_loudnessesOf_7 : decode cX6_loudnessesOf 7 = .ok (.aload_n 1, 1) := by decide +kernel
theorem dX6_loudnessesOf_8 : decode cX6_loudnessesOf 8 = .ok (.iload_n 2, 1) := by decide +kernel
theorem dX6_loudnessesOf_9 : decode cX6_loudnessesOf 9 = .ok (.aload_n 1, 1) := by decide +kernel
theorem dX6_loudnessesOf_10 : decode cX6_loudnessesOf 10 = .ok (.getfield 93, 3) := by decide +kernel
theorem dX6_loudnessesOf_13 : decode cX6_loudnessesOf 13 = .ok (.aload_n 1, 1) := by decide +kernel
theorem dX6_loudnessesOf_14 : decode cX6_loudnessesOf 14 = .ok (.getfield 96, 3) := by decide +kernel
theorem dX6_loudnessesOf_17 : decode cX6_loudnessesOf 17 = .ok (.aload_n 0, 1) := by decide +kernel
theorem dX6_loudnessesOf_18 : decode cX6_loudnessesOf 18 = .ok (.getfield 31, 3) := by decide +kernel
theorem dX6_loudnessesOf_21 : decode cX6_loudnessesOf 21 = .ok (.invokevirtual 245, 3) := by decide +kernel
theorem dX6_loudnessesOf_24 : decode cX6_loudnessesOf 24 = .ok (.aload_n 0, 1) := by decide +kernel
theorem dX6_loudnessesOf_25 : decode cX6_loudnessesOf 25 = .ok (.getfield 31, 3) := by decide +kernel
theorem dX6_loudnessesOf_28 : decode cX6_loudnessesOf 28 = .ok (.areturn, 1) := by decide +kernel
theorem dX6_meetsNow_0 : decode cX6_meetsNow 0 = .ok (.aload_n 0, 1) := by decide +kernel
theorem dX6_meetsNow_1 : decode cX6_meetsNow 1 = .ok (.aload_n 1, 1) := by decide +kernel
theorem dX6_meetsNow_2 : decode cX6_meetsNow 2 = .ok (.aload_n 2, 1) := by decide +kernel
theorem dX6_meetsNow_3 : decode cX6_meetsNow 3 = .ok (.aload_n 1, 1) := by decide +kernel
theorem dX6_meetsNow_4 : decode cX6_meetsNow 4 = .ok (.getfield 93, 3) := by decide +kernel
theorem dX6_meetsNow_7 : decode cX6_meetsNow 7 = .ok (.aload_n 1, 1) := by decide +kernel
theorem dX6_meetsNow_8 : decode cX6_meetsNow 8 = .ok (.getfield 96, 3) := by decide +kernel
theorem dX6_meetsNow_11 : decode cX6_meetsNow 11 = .ok (.invokevirtual 193, 3) := by decide +kernel
theorem dX6_meetsNow_14 : decode cX6_meetsNow 14 = .ok (.ireturn, 1) := by decide +kernel
theorem dX6_wouldMeet_0 : decode cX6_wouldMeet 0 = .ok (.aload_n 0, 1) := by decide +kernel
theorem dX6_wouldMeet_1 : decode cX6_wouldMeet 1 = .ok (.getfield 24, 3) := by decide +kernel
theorem dX6_wouldMeet_4 : decode cX6_wouldMeet 4 = .ok (.aload_n 2, 1) := by decide +kernel
theorem dX6_wouldMeet_5 : decode cX6_wouldMeet 5 = .ok (.getfield 251, 3) := by decide +kernel
theorem dX6_wouldMeet_8 : decode cX6_wouldMeet 8 = .ok (.invokevirtual 242, 3) := by decide +kernel
theorem dX6_wouldMeet_11 : decode cX6_wouldMeet 11 = .ok (.aload_n 1, 1) := by decide +kernel
theorem dX6_wouldMeet_12 : decode cX6_wouldMeet 12 = .ok (.sipush 1000, 3) := by decide +kernel
theorem dX6_wouldMeet_15 : decode cX6_wouldMeet 15 = .ok (.iload_n 3, 1) := by decide +kernel
theorem dX6_wouldMeet_16 : decode cX6_wouldMeet 16 = .ok (.iload 4, 2) := by decide +kernel
theorem dX6_wouldMeet_18 : decode cX6_wouldMeet 18 = .ok (.aload_n 0, 1) := by decide +kernel
theorem dX6_wouldMeet_19 : decode cX6_wouldMeet 19 = .ok (.getfield 24, 3) := by decide +kernel
theorem dX6_wouldMeet_22 : decode cX6_wouldMeet 22 = .ok (.invokevirtual 245, 3) := by decide +kernel
theorem dX6_wouldMeet_25 : decode cX6_wouldMeet 25 = .ok (.aload_n 2, 1) := by decide +kernel
theorem dX6_wouldMeet_26 : decode cX6_wouldMeet 26 = .ok (.aload_n 0, 1) := by decide +kernel
theorem dX6_wouldMeet_27 : decode cX6_wouldMeet 27 = .ok (.getfield 24, 3) := by decide +kernel
theorem dX6_wouldMeet_30 : decode cX6_wouldMeet 30 = .ok (.invokevirtual 254, 3) := by decide +kernel
theorem dX6_wouldMeet_33 : decode cX6_wouldMeet 33 = .ok (.ireturn, 1) := by decide +kernel
theorem dX8_init_0 : decode cX8_init 0 = .ok (.aload_n 0, 1) := by decide +kernel
theorem dX8_init_1 : decode cX8_init 1 = .ok (.invokespecial 1, 3) := by decide +kernel
theorem dX8_init_4 : decode cX8_init 4 = .ok (.aload_n 0, 1) := by decide +kernel
theorem dX8_init_5 : decode cX8_init 5 = .ok (.iconst 0, 1) := by decide +kernel
theorem dX8_init_6 : decode cX8_init 6 = .ok (.anewarray 7, 3) := by decide +kernel
theorem dX8_init_9 : decode cX8_init 9 = .ok (.putfield 9, 3) := by decide +kernel
theorem dX8_init_12 : decode cX8_init 12 = .ok (.aload_n 0, 1) := by decide +kernel
theorem dX8_init_13 : decode cX8_init 13 = .ok (.iconst 0, 1) := by decide +kernel
theorem dX8_init_14 : decode cX8_init 14 = .ok (.anewarray 15, 3) := by decide +kernel
theorem dX8_init_17 : decode cX8_init 17 = .ok (.putfield 17, 3) := by decide +kernel
theorem dX8_init_20 : decode cX8_init 20 = .ok (.return_, 1) := by decide +kernel
theorem dX8_with_0 : decode cX8_with 0 = .ok (.aload_n 0, 1) := by decide +kernel
theorem dX8_with_1 : decode cX8_with 1 = .ok (.arraylength, 1) := by decide +kernel
theorem dX8_with_2 : decode cX8_with 2 = .ok (.iconst 1, 1) := by decide +kernel
theorem dX8_with_3 : decode cX8_with 3 = .ok (.iadd, 1) := by decide +kernel
theorem dX8_with_4 : decode cX8_with 4 = .ok (.anewarray 15, 3) := by decide +kernel
theorem dX8_with_7 : decode cX8_with 7 = .ok (.astore_n 2, 1) := by decide +kernel
theorem dX8_with_8 : decode cX8_with 8 = .ok (.iconst 0, 1) := by decide +kernel
theorem dX8_with_9 : decode cX8_with 9 = .ok (.istore_n 3, 1) := by decide +kernel
theorem dX8_with_10 : decode cX8_with 10 = .ok (.iload_n 3, 1) := by decide +kernel
theorem dX8_with_11 : decode cX8_with 11 = .ok (.aload_n 0, 1) := by decide +kernel
theorem dX8_with_12 : decode cX8_with 12 = .ok (.arraylength, 1) := by decide +kernel
theorem dX8_with_13 : decode cX8_with 13 = .ok (.if_icmp .ge 15, 3) := by decide +kernel
theorem dX8_with_16 : decode cX8_with 16 = .ok (.aload_n 2, 1) := by decide +kernel
theorem dX8_with_17 : decode cX8_with 17 = .ok (.iload_n 3, 1) := by decide +kernel
theorem dX8_with_18 : decode cX8_with 18 = .ok (.aload_n 0, 1) := by decide +kernel
theorem dX8_with_19 : decode cX8_with 19 = .ok (.iload_n 3, 1) := by decide +kernel
theorem dX8_with_20 : decode cX8_with 20 = .ok (.aaload, 1) := by decide +kernel
theorem dX8_with_21 : decode cX8_with 21 = .ok (.aastore, 1) := by decide +kernel
theorem dX8_with_22 : decode cX8_with 22 = .ok (.iinc 3 1, 3) := by decide +kernel
theorem dX8_with_25 : decode cX8_with 25 = .ok (.goto (-15), 3) := by decide +kernel
theorem dX8_with_28 : decode cX8_with 28 = .ok (.aload_n 2, 1) := by decide +kernel
theorem dX8_with_29 : decode cX8_with 29 = .ok (.aload_n 0, 1) := by decide +kernel
theorem dX8_with_30 : decode cX8_with 30 = .ok (.arraylength, 1) := by decide +kernel
theorem dX8_with_31 : decode cX8_with 31 = .ok (.aload_n 1, 1) := by decide +kernel
theorem dX8_with_32 : decode cX8_with 32 = .ok (.aastore, 1) := by decide +kernel
theorem dX8_with_33 : decode cX8_with 33 = .ok (.aload_n 2, 1) := by decide +kernel
theorem dX8_with_34 : decode cX8_with 34 = .ok (.areturn, 1) := by decide +kernel
theorem dX8_certified_0 : decode cX8_certified 0 = .ok (.iconst 0, 1) := by decide +kernel
theorem dX8_certified_1 : decode cX8_certified 1 = .ok (.istore_n 1, 1) := by decide +kernel
theorem dX8_certified_2 : decode cX8_certified 2 = .ok (.aload_n 0, 1) := by decide +kernel
theorem dX8_certified_3 : decode cX8_certified 3 = .ok (.getfield 9, 3) := by decide +kernel
theorem dX8_certified_6 : decode cX8_certified 6 = .ok (.astore_n 2, 1) := by decide +kernel
theorem dX8_certified_7 : decode cX8_certified 7 = .ok (.aload_n 2, 1) := by decide +kernel
theorem dX8_certified_8 : decode cX8_certified 8 = .ok (.arraylength, 1) := by decide +kernel
theorem dX8_certified_9 : decode cX8_certified 9 = .ok (.istore_n 3, 1) := by decide +kernel
theorem dX8_certified_10 : decode cX8_certified 10 = .ok (.iconst 0, 1) := by decide +kernel
theorem dX8_certified_11 : decode cX8_certified 11 = .ok (.istore 4, 2) := by decide +kernel
theorem dX8_certified_13 : decode cX8_certified 13 = .ok (.iload 4, 2) := by decide +kernel
theorem dX8_certified_15 : decode cX8_certified 15 = .ok (.iload_n 3, 1) := by decide +kernel
theorem dX8_certified_16 : decode cX8_certified 16 = .ok (.if_icmp .ge 31, 3) := by decide +kernel
theorem dX8_certified_19 : decode cX8_certified 19 = .ok (.aload_n 2, 1) := by decide +kernel
theorem dX8_certified_20 : decode cX8_certified 20 = .ok (.iload 4, 2) := by decide +kernel
theorem dX8_certified_22 : decode cX8_certified 22 = .ok (.aaload, 1) := by decide +kernel
theorem dX8_certified_23 : decode cX8_certified 23 = .ok (.astore 5, 2) := by decide +kernel
theorem dX8_certified_25 : decode cX8_certified 25 = .ok (.iload_n 1, 1) := by decide +kernel
theorem dX8_certified_26 : decode cX8_certified 26 = .ok (.aload 5, 2) := by decide +kernel
theorem dX8_certified_28 : decode cX8_certified 28 = .ok (.getfield 21, 3) := by decide +kernel
theorem dX8_certified_31 : decode cX8_certified 31 = .ok (.ifCond .lt 7, 3) := by decide +kernel
theorem dX8_certified_34 : decode cX8_certified 34 = .ok (.iconst 1, 1) := by decide +kernel
theorem dX8_certified_35 : decode cX8_certified 35 = .ok (.goto 4, 3) := by decide +kernel
theorem dX8_certified_38 : decode cX8_certified 38 = .ok (.iconst 0, 1) := by decide +kernel
theorem dX8_certified_39 : decode cX8_certified 39 = .ok (.iadd, 1) := by decide +kernel
theorem dX8_certified_40 : decode cX8_certified 40 = .ok (.istore_n 1, 1) := by decide +kernel
theorem dX8_certified_41 : decode cX8_certified 41 = .ok (.iinc 4 1, 3) := by decide +kernel
theorem dX8_certified_44 : decode cX8_certified 44 = .ok (.goto (-31), 3) := by decide +kernel
theorem dX8_certified_47 : decode cX8_certified 47 = .ok (.iload_n 1, 1) := by decide +kernel
theorem dX8_certified_48 : decode cX8_certified 48 = .ok (.ireturn, 1) := by decide +kernel
theorem dX8_pass_0 : decode cX8_pass 0 = .ok (.aload_n 0, 1) := by decide +kernel
theorem dX8_pass_1 : decode cX8_pass 1 = .ok (.getfield 9, 3) := by decide +kernel
theorem dX8_pass_4 : decode cX8_pass 4 = .ok (.astore_n 1, 1) := by decide +kernel
theorem dX8_pass_5 : decode cX8_pass 5 = .ok (.aload_n 1, 1) := by decide +kernel
theorem dX8_pass_6 : decode cX8_pass 6 = .ok (.arraylength, 1) := by decide +kernel
theorem dX8_pass_7 : decode cX8_pass 7 = .ok (.istore_n 2, 1) := by decide +kernel
theorem dX8_pass_8 : decode cX8_pass 8 = .ok (.iconst 0, 1) := by decide +kernel
theorem dX8_pass_9 : decode cX8_pass 9 = .ok (.istore_n 3, 1) := by decide +kernel
theorem dX8_pass_10 : decode cX8_pass 10 = .ok (.iload_n 3, 1) := by decide +kernel
theorem dX8_pass_11 : decode cX8_pass 11 = .ok (.iload_n 2, 1) := by decide +kernel
theorem dX8_pass_12 : decode cX8_pass 12 = .ok (.if_icmp .ge 70, 3) := by decide +kernel
theorem dX8_pass_15 : decode cX8_pass 15 = .ok (.aload_n 1, 1) := by decide +kernel
theorem dX8_pass_16 : decode cX8_pass 16 = .ok (.iload_n 3, 1) := by decide +kernel
theorem dX8_pass_17 : decode cX8_pass 17 = .ok (.aaload, 1) := by decide +kernel
theorem dX8_pass_18 : decode cX8_pass 18 = .ok (.astore 4, 2) := by decide +kernel
theorem dX8_pass_20 : decode cX8_pass 20 = .ok (.aload 4, 2) := by decide +kernel
theorem dX8_pass_22 : decode cX8_pass 22 = .ok (.getfield 25, 3) := by decide +kernel
theorem dX8_pass_25 : decode cX8_pass 25 = .ok (.bipush 100, 2) := by decide +kernel
theorem dX8_pass_27 : decode cX8_pass 27 = .ok (.if_icmp .ge 14, 3) := by decide +kernel
theorem dX8_pass_30 : decode cX8_pass 30 = .ok (.aload 4, 2) := by decide +kernel
theorem dX8_pass_32 : decode cX8_pass 32 = .ok (.dup, 1) := by decide +kernel
theorem dX8_pass_33 : decode cX8_pass 33 = .ok (.getfield 25, 3) := by decide +kernel
theorem dX8_pass_36 : decode cX8_pass 36 = .ok (.iconst 1, 1) := by decide +kernel
theorem dX8_pass_37 : decode cX8_pass 37 = .ok (.iadd, 1) := by decide +kernel
theorem dX8_pass_38 : decode cX8_pass 38 = .ok (.putfield 25, 3) := by decide +kernel
theorem dX8_pass_41 : decode cX8_pass 41 = .ok (.aload 4, 2) := by decide +kernel
theorem dX8_pass_43 : decode cX8_pass 43 = .ok (.getfield 21, 3) := by decide +kernel
theorem dX8_pass_46 : decode cX8_pass 46 = .ok (.ifCond .ge 6, 3) := by decide +kernel
theorem dX8_pass_49 : decode cX8_pass 49 = .ok (.goto 27, 3) := by decide +kernel
theorem dX8_pass_52 : decode cX8_pass 52 = .ok (.aload 4, 2) := by decide +kernel
theorem dX8_pass_54 : decode cX8_pass 54 = .ok (.dup, 1) := by decide +kernel
theorem dX8_pass_55 : decode cX8_pass 55 = .ok (.getfield 28, 3) := by decide +kernel
theorem dX8_pass_58 : decode cX8_pass 58 = .ok (.iconst 1, 1) := by decide +kernel
theorem dX8_pass_59 : decode cX8_pass 59 = .ok (.isub, 1) := by decide +kernel
theorem dX8_pass_60 : decode cX8_pass 60 = .ok (.putfield 28, 3) := by decide +kernel
theorem dX8_pass_63 : decode cX8_pass 63 = .ok (.aload 4, 2) := by decide +kernel
theorem dX8_pass_65 : decode cX8_pass 65 = .ok (.getfield 28, 3) := by decide +kernel
theorem dX8_pass_68 : decode cX8_pass 68 = .ok (.ifCond .ne 8, 3) := by decide +kernel
theorem dX8_pass_71 : decode cX8_pass 71 = .ok (.aload 4, 2) := by decide +kernel
theorem dX8_pass_73 : decode cX8_pass 73 = .ok (.invokevirtual 31, 3) := by decide +kernel
theorem dX8_pass_76 : decode cX8_pass 76 = .ok (.iinc 3 1, 3) := by decide +kernel
theorem dX8_pass_79 : decode cX8_pass 79 = .ok (.goto (-69), 3) := by decide +kernel
theorem dX8_pass_82 : decode cX8_pass 82 = .ok (.aload_n 0, 1) := by decide +kernel
theorem dX8_pass_83 : decode cX8_pass 83 = .ok (.dup, 1) := by decide +kernel
theorem dX8_pass_84 : decode cX8_pass 84 = .ok (.getfield 34, 3) := by decide +kernel
theorem dX8_pass_87 : decode cX8_pass 87 = .ok (.iconst 1, 1) := by decide +kernel
theorem dX8_pass_88 : decode cX8_pass 88 = .ok (.iadd, 1) := by decide +kernel
theorem dX8_pass_89 : decode cX8_pass 89 = .ok (.putfield 34, 3) := by decide +kernel
theorem dX8_pass_92 : decode cX8_pass 92 = .ok (.return_, 1) := by decide +kernel
theorem dX8_isSame_0 : decode cX8_isSame 0 = .ok (.aload_n 1, 1) := by decide +kernel
theorem dX8_isSame_1 : decode cX8_isSame 1 = .ok (.invokevirtual 37, 3) := by decide +kernel
theorem dX8_isSame_4 : decode cX8_isSame 4 = .ok (.aload_n 0, 1) := by decide +kernel
theorem dX8_isSame_5 : decode cX8_isSame 5 = .ok (.getfield 9, 3) := by decide +kernel
theorem dX8_isSame_8 : decode cX8_isSame 8 = .ok (.arraylength, 1) := by decide +kernel
theorem dX8_isSame_9 : decode cX8_isSame 9 = .ok (.if_icmp .ne 48, 3) := by decide +kernel
theorem dX8_isSame_12 : decode cX8_isSame 12 = .ok (.aload_n 1, 1) := by decide +kernel
theorem dX8_isSame_13 : decode cX8_isSame 13 = .ok (.invokevirtual 42, 3) := by decide +kernel
theorem dX8_isSame_16 : decode cX8_isSame 16 = .ok (.aload_n 0, 1) := by decide +kernel
theorem dX8_isSame_17 : decode cX8_isSame 17 = .ok (.getfield 17, 3) := by decide +kernel
theorem dX8_isSame_20 : decode cX8_isSame 20 = .ok (.arraylength, 1) := by decide +kernel
theorem dX8_isSame_21 : decode cX8_isSame 21 = .ok (.if_icmp .ne 36, 3) := by decide +kernel
theorem dX8_isSame_24 : decode cX8_isSame 24 = .ok (.aload_n 1, 1) := by decide +kernel
theorem dX8_isSame_25 : decode cX8_isSame 25 = .ok (.invokevirtual 45, 3) := by decide +kernel
theorem dX8_isSame_28 : decode cX8_isSame 28 = .ok (.aload_n 0, 1) := by decide +kernel
theorem dX8_isSame_29 : decode cX8_isSame 29 = .ok (.getfield 34, 3) := by decide +kernel
theorem dX8_isSame_32 : decode cX8_isSame 32 = .ok (.if_icmp .ne 25, 3) := by decide +kernel
theorem dX8_isSame_35 : decode cX8_isSame 35 = .ok (.aload_n 1, 1) := by decide +kernel
theorem dX8_isSame_36 : decode cX8_isSame 36 = .ok (.invokevirtual 47, 3) := by decide +kernel
theorem dX8_isSame_39 : decode cX8_isSame 39 = .ok (.aload_n 0, 1) := by decide +kernel
theorem dX8_isSame_40 : decode cX8_isSame 40 = .ok (.getfield 50, 3) := by decide +kernel
theorem dX8_isSame_43 : decode cX8_isSame 43 = .ok (.if_icmp .ne 14, 3) := by decide +kernel
theorem dX8_isSame_46 : decode cX8_isSame 46 = .ok (.aload_n 1, 1) := by decide +kernel
theorem dX8_isSame_47 : decode cX8_isSame 47 = .ok (.invokevirtual 52, 3) := by decide +kernel
theorem dX8_isSame_50 : decode cX8_isSame 50 = .ok (.aload_n 0, 1) := by decide +kernel
theorem dX8_isSame_51 : decode cX8_isSame 51 = .ok (.invokevirtual 55, 3) := by decide +kernel
theorem dX8_isSame_54 : decode cX8_isSame 54 = .ok (.if_icmp .eq 5, 3) := by decide +kernel
theorem dX8_isSame_57 : decode cX8_isSame 57 = .ok (.iconst 0, 1) := by decide +kernel
theorem dX8_isSame_58 : decode cX8_isSame 58 = .ok (.ireturn, 1) := by decide +kernel
theorem dX8_isSame_59 : decode cX8_isSame 59 = .ok (.iconst 0, 1) := by decide +kernel
theorem dX8_isSame_60 : decode cX8_isSame 60 = .ok (.istore_n 3, 1) := by decide +kernel
theorem dX8_isSame_61 : decode cX8_isSame 61 = .ok (.iconst 0, 1) := by decide +kernel
theorem dX8_isSame_62 : decode cX8_isSame 62 = .ok (.istore 4, 2) := by decide +kernel
theorem dX8_isSame_64 : decode cX8_isSame 64 = .ok (.iload 4, 2) := by decide +kernel
theorem dX8_isSame_66 : decode cX8_isSame 66 = .ok (.aload_n 0, 1) := by decide +kernel
theorem dX8_isSame_67 : decode cX8_isSame 67 = .ok (.getfield 9, 3) := by decide +kernel
theorem dX8_isSame_70 : decode cX8_isSame 70 = .ok (.arraylength, 1) := by decide +kernel
theorem dX8_isSame_71 : decode cX8_isSame 71 = .ok (.if_icmp .ge 335, 3) := by decide +kernel
theorem dX8_isSame_74 : decode cX8_isSame 74 = .ok (.aload_n 0, 1) := by decide +kernel
theorem dX8_isSame_75 : decode cX8_isSame 75 = .ok (.getfield 9, 3) := by decide +kernel
theorem dX8_isSame_78 : decode cX8_isSame 78 = .ok (.iload 4, 2) := by decide +kernel
theorem dX8_isSame_80 : decode cX8_isSame 80 = .ok (.aaload, 1) := by decide +kernel
theorem dX8_isSame_81 : decode cX8_isSame 81 = .ok (.astore 5, 2) := by decide +kernel
theorem dX8_isSame_83 : decode cX8_isSame 83 = .ok (.aload_n 1, 1) := by decide +kernel
theorem dX8_isSame_84 : decode cX8_isSame 84 = .ok (.iload 4, 2) := by decide +kernel
theorem dX8_isSame_86 : decode cX8_isSame 86 = .ok (.invokevirtual 58, 3) := by decide +kernel
theorem dX8_isSame_89 : decode cX8_isSame 89 = .ok (.aload 5, 2) := by decide +kernel
theorem dX8_isSame_91 : decode cX8_isSame 91 = .ok (.getfield 62, 3) := by decide +kernel
theorem dX8_isSame_94 : decode cX8_isSame 94 = .ok (.arraylength, 1) := by decide +kernel
theorem dX8_isSame_95 : decode cX8_isSame 95 = .ok (.if_icmp .ne 89, 3) := by decide +kernel
theorem dX8_isSame_98 : decode cX8_isSame 98 = .ok (.aload_n 1, 1) := by decide +kernel
theorem dX8_isSame_99 : decode cX8_isSame 99 = .ok (.iload 4, 2) := by decide +kernel
theorem dX8_isSame_101 : decode cX8_isSame 101 = .ok (.invokevirtual 65, 3) := by decide +kernel
theorem dX8_isSame_104 : decode cX8_isSame 104 = .ok (.aload 5, 2) := by decide +kernel
theorem dX8_isSame_106 : decode cX8_isSame 106 = .ok (.getfield 68, 3) := by decide +kernel
theorem dX8_isSame_109 : decode cX8_isSame 109 = .ok (.if_icmp .ne 75, 3) := by decide +kernel
theorem dX8_isSame_112 : decode cX8_isSame 112 = .ok (.aload_n 1, 1) := by decide +kernel
theorem dX8_isSame_113 : decode cX8_isSame 113 = .ok (.iload 4, 2) := by decide +kernel
theorem dX8_isSame_115 : decode cX8_isSame 115 = .ok (.invokevirtual 71, 3) := by decide +kernel
theorem dX8_isSame_118 : decode cX8_isSame 118 = .ok (.aload 5, 2) := by decide +kernel
theorem dX8_isSame_120 : decode cX8_isSame 120 = .ok (.getfield 25, 3) := by decide +kernel
theorem dX8_isSame_123 : decode cX8_isSame 123 = .ok (.if_icmp .ne 61, 3) := by decide +kernel
theorem dX8_isSame_126 : decode cX8_isSame 126 = .ok (.aload_n 1, 1) := by decide +kernel
theorem dX8_isSame_127 : decode cX8_isSame 127 = .ok (.iload 4, 2) := by decide +kernel
theorem dX8_isSame_129 : decode cX8_isSame 129 = .ok (.invokevirtual 74, 3) := by decide +kernel
theorem dX8_isSame_132 : decode cX8_isSame 132 = .ok (.aload 5, 2) := by decide +kernel
theorem dX8_isSame_134 : decode cX8_isSame 134 = .ok (.getfield 21, 3) := by decide +kernel
theorem dX8_isSame_137 : decode cX8_isSame 137 = .ok (.ifCond .lt 7, 3) := by decide +kernel
theorem dX8_isSame_140 : decode cX8_isSame 140 = .ok (.iconst 1, 1) := by decide +kernel
theorem dX8_isSame_141 : decode cX8_isSame 141 = .ok (.goto 4, 3) := by decide +kernel
theorem dX8_isSame_144 : decode cX8_isSame 144 = .ok (.iconst 0, 1) := by decide +kernel
theorem dX8_isSame_145 : decode cX8_isSame 145 = .ok (.if_icmp .ne 39, 3) := by decide +kernel
theorem dX8_isSame_148 : decode cX8_isSame 148 = .ok (.aload 5, 2) := by decide +kernel
theorem dX8_isSame_150 : decode cX8_isSame 150 = .ok (.getfield 21, 3) := by decide +kernel
theorem dX8_isSame_153 : decode cX8_isSame 153 = .ok (.ifCond .lt 17, 3) := by decide +kernel
theorem dX8_isSame_156 : decode cX8_isSame 156 = .ok (.aload_n 1, 1) := by decide +kernel
theorem dX8_isSame_157 : decode cX8_isSame 157 = .ok (.iload 4, 2) := by decide +kernel
theorem dX8_isSame_159 : decode cX8_isSame 159 = .ok (.invokevirtual 78, 3) := by decide +kernel
theorem dX8_isSame_162 : decode cX8_isSame 162 = .ok (.aload 5, 2) := by decide +kernel
theorem dX8_isSame_164 : decode cX8_isSame 164 = .ok (.getfield 21, 3) := by decide +kernel
theorem dX8_isSame_167 : decode cX8_isSame 167 = .ok (.if_icmp .ne 17, 3) := by decide +kernel
theorem dX8_isSame_170 : decode cX8_isSame 170 = .ok (.aload_n 1, 1) := by decide +kernel
theorem dX8_isSame_171 : decode cX8_isSame 171 = .ok (.iload 4, 2) := by decide +kernel
theorem dX8_isSame_173 : decode cX8_isSame 173 = .ok (.invokevirtual 81, 3) := by decide +kernel
theorem dX8_isSame_176 : decode cX8_isSame 176 = .ok (.aload 5, 2) := by decide +kernel
theorem dX8_isSame_178 : decode cX8_isSame 178 = .ok (.getfield 28, 3) := by decide +kernel
theorem dX8_isSame_181 : decode cX8_isSame 181 = .ok (.if_icmp .eq 5, 3) := by decide +kernel
theorem dX8_isSame_184 : decode cX8_isSame 184 = .ok (.iconst 0, 1) := by decide +kernel
theorem dX8_isSame_185 : decode cX8_isSame 185 = .ok (.ireturn, 1) := by decide +kernel
theorem dX8_isSame_186 : decode cX8_isSame 186 = .ok (.iconst 0, 1) := by decide +kernel
theorem dX8_isSame_187 : decode cX8_isSame 187 = .ok (.istore 6, 2) := by decide +kernel
theorem dX8_isSame_189 : decode cX8_isSame 189 = .ok (.iload 6, 2) := by decide +kernel
theorem dX8_isSame_191 : decode cX8_isSame 191 = .ok (.aload 5, 2) := by decide +kernel
theorem dX8_isSame_193 : decode cX8_isSame 193 = .ok (.getfield 62, 3) := by decide +kernel
theorem dX8_isSame_196 : decode cX8_isSame 196 = .ok (.arraylength, 1) := by decide +kernel
theorem dX8_isSame_197 : decode cX8_isSame 197 = .ok (.if_icmp .ge 55, 3) := by decide +kernel
theorem dX8_isSame_200 : decode cX8_isSame 200 = .ok (.aload_n 1, 1) := by decide +kernel
theorem dX8_isSame_201 : decode cX8_isSame 201 = .ok (.iload 4, 2) := by decide +kernel
theorem dX8_isSame_203 : decode cX8_isSame 203 = .ok (.iload 6, 2) := by decide +kernel
theorem dX8_isSame_205 : decode cX8_isSame 205 = .ok (.invokevirtual 84, 3) := by decide +kernel
theorem dX8_isSame_208 : decode cX8_isSame 208 = .ok (.aload 5, 2) := by decide +kernel
theorem dX8_isSame_210 : decode cX8_isSame 210 = .ok (.getfield 62, 3) := by decide +kernel
theorem dX8_isSame_213 : decode cX8_isSame 213 = .ok (.iload 6, 2) := by decide +kernel
theorem dX8_isSame_215 : decode cX8_isSame 215 = .ok (.aaload, 1) := by decide +kernel
theorem dX8_isSame_216 : decode cX8_isSame 216 = .ok (.iconst 0, 1) := by decide +kernel
theorem dX8_isSame_217 : decode cX8_isSame 217 = .ok (.iaload, 1) := by decide +kernel
theorem dX8_isSame_218 : decode cX8_isSame 218 = .ok (.if_icmp .ne 26, 3) := by decide +kernel
theorem dX8_isSame_221 : decode cX8_isSame 221 = .ok (.aload_n 1, 1) := by decide +kernel
theorem dX8_isSame_222 : decode cX8_isSame 222 = .ok (.iload 4, 2) := by decide +kernel
theorem dX8_isSame_224 : decode cX8_isSame 224 = .ok (.iload 6, 2) := by decide +kernel
theorem dX8_isSame_226 : decode cX8_isSame 226 = .ok (.invokevirtual 88, 3) := by decide +kernel
theorem dX8_isSame_229 : decode cX8_isSame 229 = .ok (.aload 5, 2) := by decide +kernel
theorem dX8_isSame_231 : decode cX8_isSame 231 = .ok (.iload 6, 2) := by decide +kernel
theorem dX8_isSame_233 : decode cX8_isSame 233 = .ok (.aload 5, 2) := by decide +kernel
theorem dX8_isSame_235 : decode cX8_isSame 235 = .ok (.getfield 25, 3) := by decide +kernel
theorem dX8_isSame_238 : decode cX8_isSame 238 = .ok (.invokevirtual 91, 3) := by decide +kernel
theorem dX8_isSame_241 : decode cX8_isSame 241 = .ok (.if_icmp .eq 5, 3) := by decide +kernel
theorem dX8_isSame_244 : decode cX8_isSame 244 = .ok (.iconst 0, 1) := by decide +kernel
theorem dX8_isSame_245 : decode cX8_isSame 245 = .ok (.ireturn, 1) := by decide +kernel
theorem dX8_isSame_246 : decode cX8_isSame 246 = .ok (.iinc 6 1, 3) := by decide +kernel
theorem dX8_isSame_249 : decode cX8_isSame 249 = .ok (.goto (-60), 3) := by decide +kernel
theorem dX8_isSame_252 : decode cX8_isSame 252 = .ok (.aload 5, 2) := by decide +kernel
theorem dX8_isSame_254 : decode cX8_isSame 254 = .ok (.iload_n 2, 1) := by decide +kernel
theorem dX8_isSame_255 : decode cX8_isSame 255 = .ok (.iload_n 2, 1) := by decide +kernel
theorem dX8_isSame_256 : decode cX8_isSame 256 = .ok (.iconst 3, 1) := by decide +kernel
theorem dX8_isSame_257 : decode cX8_isSame 257 = .ok (.idiv, 1) := by decide +kernel
theorem dX8_isSame_258 : decode cX8_isSame 258 = .ok (.iconst 1, 1) := by decide +kernel
theorem dX8_isSame_259 : decode cX8_isSame 259 = .ok (.iadd, 1) := by decide +kernel
theorem dX8_isSame_260 : decode cX8_isSame 260 = .ok (.aload 5, 2) := by decide +kernel
theorem dX8_isSame_262 : decode cX8_isSame 262 = .ok (.getfield 68, 3) := by decide +kernel
theorem dX8_isSame_265 : decode cX8_isSame 265 = .ok (.aload 5, 2) := by decide +kernel
theorem dX8_isSame_267 : decode cX8_isSame 267 = .ok (.getfield 25, 3) := by decide +kernel
theorem dX8_isSame_270 : decode cX8_isSame 270 = .ok (.invokevirtual 94, 3) := by decide +kernel
theorem dX8_isSame_273 : decode cX8_isSame 273 = .ok (.astore 6, 2) := by decide +kernel
theorem dX8_isSame_275 : decode cX8_isSame 275 = .ok (.aload_n 1, 1) := by decide +kernel
theorem dX8_isSame_276 : decode cX8_isSame 276 = .ok (.iload 4, 2) := by decide +kernel
theorem dX8_isSame_278 : decode cX8_isSame 278 = .ok (.iload_n 2, 1) := by decide +kernel
theorem dX8_isSame_279 : decode cX8_isSame 279 = .ok (.invokevirtual 98, 3) := by decide +kernel
theorem dX8_isSame_282 : decode cX8_isSame 282 = .ok (.aload 6, 2) := by decide +kernel
theorem dX8_isSame_284 : decode cX8_isSame 284 = .ok (.iconst 0, 1) := by decide +kernel
theorem dX8_isSame_285 : decode cX8_isSame 285 = .ok (.iaload, 1) := by decide +kernel
theorem dX8_isSame_286 : decode cX8_isSame 286 = .ok (.if_icmp .ne 50, 3) := by decide +kernel
theorem dX8_isSame_289 : decode cX8_isSame 289 = .ok (.aload_n 1, 1) := by decide +kernel
theorem dX8_isSame_290 : decode cX8_isSame 290 = .ok (.iload 4, 2) := by decide +kernel
theorem dX8_isSame_292 : decode cX8_isSame 292 = .ok (.iload_n 2, 1) := by decide +kernel
theorem dX8_isSame_293 : decode cX8_isSame 293 = .ok (.iload_n 2, 1) := by decide +kernel
theorem dX8_isSame_294 : decode cX8_isSame 294 = .ok (.iconst 3, 1) := by decide +kernel
theorem dX8_isSame_295 : decode cX8_isSame 295 = .ok (.idiv, 1) := by decide +kernel
theorem dX8_isSame_296 : decode cX8_isSame 296 = .ok (.iconst 1, 1) := by decide +kernel
theorem dX8_isSame_297 : decode cX8_isSame 297 = .ok (.iadd, 1) := by decide +kernel
theorem dX8_isSame_298 : decode cX8_isSame 298 = .ok (.invokevirtual 100, 3) := by decide +kernel
theorem dX8_isSame_301 : decode cX8_isSame 301 = .ok (.aload 6, 2) := by decide +kernel
theorem dX8_isSame_303 : decode cX8_isSame 303 = .ok (.iconst 1, 1) := by decide +kernel
theorem dX8_isSame_304 : decode cX8_isSame 304 = .ok (.iaload, 1) := by decide +kernel
theorem dX8_isSame_305 : decode cX8_isSame 305 = .ok (.if_icmp .ne 31, 3) := by decide +kernel
theorem dX8_isSame_308 : decode cX8_isSame 308 = .ok (.aload_n 1, 1) := by decide +kernel
theorem dX8_isSame_309 : decode cX8_isSame 309 = .ok (.iload 4, 2) := by decide +kernel
theorem dX8_isSame_311 : decode cX8_isSame 311 = .ok (.iload_n 2, 1) := by decide +kernel
theorem dX8_isSame_312 : decode cX8_isSame 312 = .ok (.invokevirtual 104, 3) := by decide +kernel
theorem dX8_isSame_315 : decode cX8_isSame 315 = .ok (.aload 6, 2) := by decide +kernel
theorem dX8_isSame_317 : decode cX8_isSame 317 = .ok (.iconst 2, 1) := by decide +kernel
theorem dX8_isSame_318 : decode cX8_isSame 318 = .ok (.iaload, 1) := by decide +kernel
theorem dX8_isSame_319 : decode cX8_isSame 319 = .ok (.if_icmp .ne 17, 3) := by decide +kernel
theorem dX8_isSame_322 : decode cX8_isSame 322 = .ok (.aload_n 1, 1) := by decide +kernel
theorem dX8_isSame_323 : decode cX8_isSame 323 = .ok (.iload 4, 2) := by decide +kernel
theorem dX8_isSame_325 : decode cX8_isSame 325 = .ok (.iload_n 2, 1) := by decide +kernel
theorem dX8_isSame_326 : decode cX8_isSame 326 = .ok (.invokevirtual 107, 3) := by decide +kernel
theorem dX8_isSame_329 : decode cX8_isSame 329 = .ok (.aload 6, 2) := by decide +kernel
theorem dX8_isSame_331 : decode cX8_isSame 331 = .ok (.iconst 3, 1) := by decide +kernel
theorem dX8_isSame_332 : decode cX8_isSame 332 = .ok (.iaload, 1) := by decide +kernel
theorem dX8_isSame_333 : decode cX8_isSame 333 = .ok (.if_icmp .eq 5, 3) := by decide +kernel
theorem dX8_isSame_336 : decode cX8_isSame 336 = .ok (.iconst 0, 1) := by decide +kernel
theorem dX8_isSame_337 : decode cX8_isSame 337 = .ok (.ireturn, 1) := by decide +kernel
theorem dX8_isSame_338 : decode cX8_isSame 338 = .ok (.iconst 0, 1) := by decide +kernel
theorem dX8_isSame_339 : decode cX8_isSame 339 = .ok (.istore 7, 2) := by decide +kernel
theorem dX8_isSame_341 : decode cX8_isSame 341 = .ok (.iload 7, 2) := by decide +kernel
theorem dX8_isSame_343 : decode cX8_isSame 343 = .ok (.aload_n 0, 1) := by decide +kernel
theorem dX8_isSame_344 : decode cX8_isSame 344 = .ok (.getfield 17, 3) := by decide +kernel
theorem dX8_isSame_347 : decode cX8_isSame 347 = .ok (.arraylength, 1) := by decide +kernel
theorem dX8_isSame_348 : decode cX8_isSame 348 = .ok (.if_icmp .ge 44, 3) := by decide +kernel
theorem dX8_isSame_351 : decode cX8_isSame 351 = .ok (.aload_n 1, 1) := by decide +kernel
theorem dX8_isSame_352 : decode cX8_isSame 352 = .ok (.iload 4, 2) := by decide +kernel
theorem dX8_isSame_354 : decode cX8_isSame 354 = .ok (.iload 7, 2) := by decide +kernel
theorem dX8_isSame_356 : decode cX8_isSame 356 = .ok (.invokevirtual 110, 3) := by decide +kernel
theorem dX8_isSame_359 : decode cX8_isSame 359 = .ok (.aload 5, 2) := by decide +kernel
theorem dX8_isSame_361 : decode cX8_isSame 361 = .ok (.aload_n 0, 1) := by decide +kernel
theorem dX8_isSame_362 : decode cX8_isSame 362 = .ok (.getfield 17, 3) := by decide +kernel
theorem dX8_isSame_365 : decode cX8_isSame 365 = .ok (.iload 7, 2) := by decide +kernel
theorem dX8_isSame_367 : decode cX8_isSame 367 = .ok (.aaload, 1) := by decide +kernel
theorem dX8_isSame_368 : decode cX8_isSame 368 = .ok (.aload 5, 2) := by decide +kernel
theorem dX8_isSame_370 : decode cX8_isSame 370 = .ok (.getfield 68, 3) := by decide +kernel
theorem dX8_isSame_373 : decode cX8_isSame 373 = .ok (.aload 5, 2) := by decide +kernel
theorem dX8_isSame_375 : decode cX8_isSame 375 = .ok (.getfield 25, 3) := by decide +kernel
theorem dX8_isSame_378 : decode cX8_isSame 378 = .ok (.invokevirtual 114, 3) := by decide +kernel
theorem dX8_isSame_381 : decode cX8_isSame 381 = .ok (.if_icmp .eq 5, 3) := by decide +kernel
theorem dX8_isSame_384 : decode cX8_isSame 384 = .ok (.iconst 0, 1) := by decide +kernel
theorem dX8_isSame_385 : decode cX8_isSame 385 = .ok (.ireturn, 1) := by decide +kernel
theorem dX8_isSame_386 : decode cX8_isSame 386 = .ok (.iinc 7 1, 3) := by decide +kernel
theorem dX8_isSame_389 : decode cX8_isSame 389 = .ok (.goto (-48), 3) := by decide +kernel
theorem dX8_isSame_392 : decode cX8_isSame 392 = .ok (.iload_n 3, 1) := by decide +kernel
theorem dX8_isSame_393 : decode cX8_isSame 393 = .ok (.aload 5, 2) := by decide +kernel
theorem dX8_isSame_395 : decode cX8_isSame 395 = .ok (.getfield 68, 3) := by decide +kernel
theorem dX8_isSame_398 : decode cX8_isSame 398 = .ok (.iadd, 1) := by decide +kernel
theorem dX8_isSame_399 : decode cX8_isSame 399 = .ok (.istore_n 3, 1) := by decide +kernel
theorem dX8_isSame_400 : decode cX8_isSame 400 = .ok (.iinc 4 1, 3) := by decide +kernel
theorem dX8_isSame_403 : decode cX8_isSame 403 = .ok (.goto (-339), 3) := by decide +kernel
theorem dX8_isSame_406 : decode cX8_isSame 406 = .ok (.aload_n 1, 1) := by decide +kernel
theorem dX8_isSame_407 : decode cX8_isSame 407 = .ok (.invokevirtual 117, 3) := by decide +kernel
theorem dX8_isSame_410 : decode cX8_isSame 410 = .ok (.aload_n 0, 1) := by decide +kernel
theorem dX8_isSame_411 : decode cX8_isSame 411 = .ok (.getfield 9, 3) := by decide +kernel
theorem dX8_isSame_414 : decode cX8_isSame 414 = .ok (.arraylength, 1) := by decide +kernel
theorem dX8_isSame_415 : decode cX8_isSame 415 = .ok (.ifCond .ne 7, 3) := by decide +kernel
theorem dX8_isSame_418 : decode cX8_isSame 418 = .ok (.dconst 0, 1) := by decide +kernel
theorem dX8_isSame_419 : decode cX8_isSame 419 = .ok (.goto 12, 3) := by decide +kernel
theorem dX8_isSame_422 : decode cX8_isSame 422 = .ok (.iload_n 3, 1) := by decide +kernel
theorem dX8_isSame_423 : decode cX8_isSame 423 = .ok (.i2d, 1) := by decide +kernel
theorem dX8_isSame_424 : decode cX8_isSame 424 = .ok (.aload_n 0, 1) := by decide +kernel
theorem dX8_isSame_425 : decode cX8_isSame 425 = .ok (.getfield 9, 3) := by decide +kernel
theorem dX8_isSame_428 : decode cX8_isSame 428 = .ok (.arraylength, 1) := by decide +kernel
theorem dX8_isSame_429 : decode cX8_isSame 429 = .ok (.i2d, 1) := by decide +kernel
theorem dX8_isSame_430 : decode cX8_isSame 430 = .ok (.ddiv, 1) := by decide +kernel
theorem dX8_isSame_431 : decode cX8_isSame 431 = .ok (.dcmp .l, 1) := by decide +kernel
theorem dX8_isSame_432 : decode cX8_isSame 432 = .ok (.ifCond .ne 7, 3) := by decide +kernel
theorem dX8_isSame_435 : decode cX8_isSame 435 = .ok (.iconst 1, 1) := by decide +kernel
theorem dX8_isSame_436 : decode cX8_isSame 436 = .ok (.goto 4, 3) := by decide +kernel
theorem dX8_isSame_439 : decode cX8_isSame 439 = .ok (.iconst 0, 1) := by decide +kernel
theorem dX8_isSame_440 : decode cX8_isSame 440 = .ok (.ireturn, 1) := by decide +kernel
theorem dJ9_max_7cf53_0 : decode cJ9_max_7cf53 0 = .ok (.iload_n 0, 1) := by decide +kernel
theorem dJ9_max_7cf53_1 : decode cJ9_max_7cf53 1 = .ok (.iload_n 1, 1) := by decide +kernel
theorem dJ9_max_7cf53_2 : decode cJ9_max_7cf53 2 = .ok (.if_icmp .lt 7, 3) := by decide +kernel
theorem dJ9_max_7cf53_5 : decode cJ9_max_7cf53 5 = .ok (.iload_n 0, 1) := by decide +kernel
theorem dJ9_max_7cf53_6 : decode cJ9_max_7cf53 6 = .ok (.goto 4, 3) := by decide +kernel
theorem dJ9_max_7cf53_9 : decode cJ9_max_7cf53 9 = .ok (.iload_n 1, 1) := by decide +kernel
theorem dJ9_max_7cf53_10 : decode cJ9_max_7cf53 10 = .ok (.ireturn, 1) := by decide +kernel
theorem dJ9_min_7cf53_0 : decode cJ9_min_7cf53 0 = .ok (.iload_n 0, 1) := by decide +kernel
theorem dJ9_min_7cf53_1 : decode cJ9_min_7cf53 1 = .ok (.iload_n 1, 1) := by decide +kernel
theorem dJ9_min_7cf53_2 : decode cJ9_min_7cf53 2 = .ok (.if_icmp .gt 7, 3) := by decide +kernel
theorem dJ9_min_7cf53_5 : decode cJ9_min_7cf53 5 = .ok (.iload_n 0, 1) := by decide +kernel
theorem dJ9_min_7cf53_6 : decode cJ9_min_7cf53 6 = .ok (.goto 4, 3) := by decide +kernel
theorem dJ9_min_7cf53_9 : decode cJ9_min_7cf53 9 = .ok (.iload_n 1, 1) := by decide +kernel
theorem dJ9_min_7cf53_10 : decode cJ9_min_7cf53 10 = .ok (.ireturn, 1) := by decide +kernel
theorem dJ7_fill_53178_0 : decode cJ7_fill_53178 0 = .ok (.iconst 0, 1) := by decide +kernel
theorem dJ7_fill_53178_1 : decode cJ7_fill_53178 1 = .ok (.istore_n 2, 1) := by decide +kernel
theorem dJ7_fill_53178_2 : decode cJ7_fill_53178 2 = .ok (.aload_n 0, 1) := by decide +kernel
theorem dJ7_fill_53178_3 : decode cJ7_fill_53178 3 = .ok (.arraylength, 1) := by decide +kernel
theorem dJ7_fill_53178_4 : decode cJ7_fill_53178 4 = .ok (.istore_n 3, 1) := by decide +kernel
theorem dJ7_fill_53178_5 : decode cJ7_fill_53178 5 = .ok (.iload_n 2, 1) := by decide +kernel
theorem dJ7_fill_53178_6 : decode cJ7_fill_53178 6 = .ok (.iload_n 3, 1) := by decide +kernel
theorem dJ7_fill_53178_7 : decode cJ7_fill_53178 7 = .ok (.if_icmp .ge 13, 3) := by decide +kernel
theorem dJ7_fill_53178_10 : decode cJ7_fill_53178 10 = .ok (.aload_n 0, 1) := by decide +kernel
theorem dJ7_fill_53178_11 : decode cJ7_fill_53178 11 = .ok (.iload_n 2, 1) := by decide +kernel
theorem dJ7_fill_53178_12 : decode cJ7_fill_53178 12 = .ok (.iload_n 1, 1) := by decide +kernel
theorem dJ7_fill_53178_13 : decode cJ7_fill_53178 13 = .ok (.iastore, 1) := by decide +kernel
theorem dJ7_fill_53178_14 : decode cJ7_fill_53178 14 = .ok (.iinc 2 1, 3) := by decide +kernel
theorem dJ7_fill_53178_17 : decode cJ7_fill_53178 17 = .ok (.goto (-12), 3) := by decide +kernel
theorem dJ7_fill_53178_20 : decode cJ7_fill_53178 20 = .ok (.return_, 1) := by decide +kernel
end
section
theorem dX7_init_0 : decode cX7_init 0 = .ok (.aload_n 0, 1) := by decide +kernel
theorem dX7_init_1 : decode cX7_init 1 = .ok (.invokespecial 1, 3) := by decide +kernel
theorem dX7_init_4 : decode cX7_init 4 = .ok (.aload_n 0, 1) := by decide +kernel
theorem dX7_init_5 : decode cX7_init 5 = .ok (.iconst 0, 1) := by decide +kernel
theorem dX7_init_6 : decode cX7_init 6 = .ok (.anewarray 7, 3) := by decide +kernel
theorem dX7_init_9 : decode cX7_init 9 = .ok (.putfield 9, 3) := by decide +kernel
theorem dX7_init_12 : decode cX7_init 12 = .ok (.aload_n 0, 1) := by decide +kernel
theorem dX7_init_13 : decode cX7_init 13 = .ok (.iconst (-1), 1) := by decide +kernel
theorem dX7_init_14 : decode cX7_init 14 = .ok (.putfield 15, 3) := by decide +kernel
theorem dX7_init_17 : decode cX7_init 17 = .ok (.return_, 1) := by decide +kernel
theorem dX7_hard_0 : decode cX7_hard 0 = .ok (.aload_n 0, 1) := by decide +kernel
theorem dX7_hard_1 : decode cX7_hard 1 = .ok (.getfield 9, 3) := by decide +kernel
theorem dX7_hard_4 : decode cX7_hard 4 = .ok (.iload_n 1, 1) := by decide +kernel
theorem dX7_hard_5 : decode cX7_hard 5 = .ok (.aaload, 1) := by decide +kernel
theorem dX7_hard_6 : decode cX7_hard 6 = .ok (.iconst 1, 1) := by decide +kernel
theorem dX7_hard_7 : decode cX7_hard 7 = .ok (.iaload, 1) := by decide +kernel
theorem dX7_hard_8 : decode cX7_hard 8 = .ok (.iload_n 2, 1) := by decide +kernel
theorem dX7_hard_9 : decode cX7_hard 9 = .ok (.iconst 5, 1) := by decide +kernel
theorem dX7_hard_10 : decode cX7_hard 10 = .ok (.idiv, 1) := by decide +kernel
theorem dX7_hard_11 : decode cX7_hard 11 = .ok (.isub, 1) := by decide +kernel
theorem dX7_hard_12 : decode cX7_hard 12 = .ok (.iconst 0, 1) := by decide +kernel
theorem dX7_hard_13 : decode cX7_hard 13 = .ok (.invokestatic 19, 3) := by decide +kernel
theorem dX7_hard_16 : decode cX7_hard 16 = .ok (.ireturn, 1) := by decide +kernel
theorem dX7_echoes_0 : decode cX7_echoes 0 = .ok (.iconst 4, 1) := by decide +kernel
theorem dX7_echoes_1 : decode cX7_echoes 1 = .ok (.newarray .int, 2) := by decide +kernel
theorem dX7_echoes_3 : decode cX7_echoes 3 = .ok (.dup, 1) := by decide +kernel
theorem dX7_echoes_4 : decode cX7_echoes 4 = .ok (.iconst 0, 1) := by decide +kernel
theorem dX7_echoes_5 : decode cX7_echoes 5 = .ok (.iconst 0, 1) := by decide +kernel
theorem dX7_echoes_6 : decode cX7_echoes 6 = .ok (.iastore, 1) := by decide +kernel
theorem dX7_echoes_7 : decode cX7_echoes 7 = .ok (.dup, 1) := by decide +kernel
theorem dX7_echoes_8 : decode cX7_echoes 8 = .ok (.iconst 1, 1) := by decide +kernel
theorem dX7_echoes_9 : decode cX7_echoes 9 = .ok (.iconst 0, 1) := by decide +kernel
theorem dX7_echoes_10 : decode cX7_echoes 10 = .ok (.iastore, 1) := by decide +kernel
theorem dX7_echoes_11 : decode cX7_echoes 11 = .ok (.dup, 1) := by decide +kernel
theorem dX7_echoes_12 : decode cX7_echoes 12 = .ok (.iconst 2, 1) := by decide +kernel
theorem dX7_echoes_13 : decode cX7_echoes 13 = .ok (.iconst (-1), 1) := by decide +kernel
theorem dX7_echoes_14 : decode cX7_echoes 14 = .ok (.iastore, 1) := by decide +kernel
theorem dX7_echoes_15 : decode cX7_echoes 15 = .ok (.dup, 1) := by decide +kernel
theorem dX7_echoes_16 : decode cX7_echoes 16 = .ok (.iconst 3, 1) := by decide +kernel
theorem dX7_echoes_17 : decode cX7_echoes 17 = .ok (.iconst (-1), 1) := by decide +kernel
theorem dX7_echoes_18 : decode cX7_echoes 18 = .ok (.iastore, 1) := by decide +kernel
theorem dX7_echoes_19 : decode cX7_echoes 19 = .ok (.astore 5, 2) := by decide +kernel
theorem dX7_echoes_21 : decode cX7_echoes 21 = .ok (.iconst 0, 1) := by decide +kernel
theorem dX7_echoes_22 : decode cX7_echoes 22 = .ok (.istore 6, 2) := by decide +kernel
theorem dX7_echoes_24 : decode cX7_echoes 24 = .ok (.iload 6, 2) := by decide +kernel
theorem dX7_echoes_26 : decode cX7_echoes 26 = .ok (.aload_n 0, 1) := by decide +kernel
theorem dX7_echoes_27 : decode cX7_echoes 27 = .ok (.getfield 9, 3) := by decide +kernel
theorem dX7_echoes_30 : decode cX7_echoes 30 = .ok (.arraylength, 1) := by decide +kernel
theorem dX7_echoes_31 : decode cX7_echoes 31 = .ok (.if_icmp .ge 154, 3) := by decide +kernel
theorem dX7_echoes_34 : decode cX7_echoes 34 = .ok (.iload_n 1, 1) := by decide +kernel
theorem dX7_echoes_35 : decode cX7_echoes 35 = .ok (.istore 7, 2) := by decide +kernel
theorem dX7_echoes_37 : decode cX7_echoes 37 = .ok (.bipush 6, 2) := by decide +kernel
theorem dX7_echoes_39 : decode cX7_echoes 39 = .ok (.aload_n 0, 1) := by decide +kernel
theorem dX7_echoes_40 : decode cX7_echoes 40 = .ok (.getfield 9, 3) := by decide +kernel
theorem dX7_echoes_43 : decode cX7_echoes 43 = .ok (.iload 6, 2) := by decide +kernel
theorem dX7_echoes_45 : decode cX7_echoes 45 = .ok (.aaload, 1) := by decide +kernel
theorem dX7_echoes_46 : decode cX7_echoes 46 = .ok (.iconst 0, 1) := by decide +kernel
theorem dX7_echoes_47 : decode cX7_echoes 47 = .ok (.iaload, 1) := by decide +kernel
theorem dX7_echoes_48 : decode cX7_echoes 48 = .ok (.imul, 1) := by decide +kernel
theorem dX7_echoes_49 : decode cX7_echoes 49 = .ok (.istore 8, 2) := by decide +kernel
theorem dX7_echoes_51 : decode cX7_echoes 51 = .ok (.iload 8, 2) := by decide +kernel
theorem dX7_echoes_53 : decode cX7_echoes 53 = .ok (.sipush 3000, 3) := by decide +kernel
theorem dX7_echoes_56 : decode cX7_echoes 56 = .ok (.if_icmp .gt 123, 3) := by decide +kernel
theorem dX7_echoes_59 : decode cX7_echoes 59 = .ok (.iload 7, 2) := by decide +kernel
theorem dX7_echoes_61 : decode cX7_echoes 61 = .ok (.aload_n 0, 1) := by decide +kernel
theorem dX7_echoes_62 : decode cX7_echoes 62 = .ok (.iload 6, 2) := by decide +kernel
theorem dX7_echoes_64 : decode cX7_echoes 64 = .ok (.iload 4, 2) := by decide +kernel
theorem dX7_echoes_66 : decode cX7_echoes 66 = .ok (.invokevirtual 25, 3) := by decide +kernel
theorem dX7_echoes_69 : decode cX7_echoes 69 = .ok (.imul, 1) := by decide +kernel
theorem dX7_echoes_70 : decode cX7_echoes 70 = .ok (.bipush 100, 2) := by decide +kernel
theorem dX7_echoes_72 : decode cX7_echoes 72 = .ok (.idiv, 1) := by decide +kernel
theorem dX7_echoes_73 : decode cX7_echoes 73 = .ok (.istore 7, 2) := by decide +kernel
theorem dX7_echoes_75 : decode cX7_echoes 75 = .ok (.iload 7, 2) := by decide +kernel
theorem dX7_echoes_77 : decode cX7_echoes 77 = .ok (.bipush 100, 2) := by decide +kernel
theorem dX7_echoes_79 : decode cX7_echoes 79 = .ok (.iload_n 3, 1) := by decide +kernel
theorem dX7_echoes_80 : decode cX7_echoes 80 = .ok (.isub, 1) := by decide +kernel
theorem dX7_echoes_81 : decode cX7_echoes 81 = .ok (.imul, 1) := by decide +kernel
theorem dX7_echoes_82 : decode cX7_echoes 82 = .ok (.bipush 100, 2) := by decide +kernel
theorem dX7_echoes_84 : decode cX7_echoes 84 = .ok (.idiv, 1) := by decide +kernel
theorem dX7_echoes_85 : decode cX7_echoes 85 = .ok (.istore 7, 2) := by decide +kernel
theorem dX7_echoes_87 : decode cX7_echoes 87 = .ok (.iload 7, 2) := by decide +kernel
theorem dX7_echoes_89 : decode cX7_echoes 89 = .ok (.ifCond .ne 6, 3) := by decide +kernel
theorem dX7_echoes_92 : decode cX7_echoes 92 = .ok (.goto 87, 3) := by decide +kernel
theorem dX7_echoes_95 : decode cX7_echoes 95 = .ok (.aload 5, 2) := by decide +kernel
theorem dX7_echoes_97 : decode cX7_echoes 97 = .ok (.iconst 0, 1) := by decide +kernel
theorem dX7_echoes_98 : decode cX7_echoes 98 = .ok (.dup2, 1) := by decide +kernel
theorem dX7_echoes_99 : decode cX7_echoes 99 = .ok (.iaload, 1) := by decide +kernel
theorem dX7_echoes_100 : decode cX7_echoes 100 = .ok (.iconst 1, 1) := by decide +kernel
theorem dX7_echoes_101 : decode cX7_echoes 101 = .ok (.iadd, 1) := by decide +kernel
theorem dX7_echoes_102 : decode cX7_echoes 102 = .ok (.iastore, 1) := by decide +kernel
theorem dX7_echoes_103 : decode cX7_echoes 103 = .ok (.aload 5, 2) := by decide +kernel
theorem dX7_echoes_105 : decode cX7_echoes 105 = .ok (.iconst 1, 1) := by decide +kernel
theorem dX7_echoes_106 : decode cX7_echoes 106 = .ok (.dup2, 1) := by decide +kernel
theorem dX7_echoes_107 : decode cX7_echoes 107 = .ok (.iaload, 1) := by decide +kernel
theorem dX7_echoes_108 : decode cX7_echoes 108 = .ok (.iload 7, 2) := by decide +kernel
theorem dX7_echoes_110 : decode cX7_echoes 110 = .ok (.iload_n 2, 1) := by decide +kernel
theorem dX7_echoes_111 : decode cX7_echoes 111 = .ok (.if_icmp .lt 7, 3) := by decide +kernel
theorem dX7_echoes_114 : decode cX7_echoes 114 = .ok (.iconst 1, 1) := by decide +kernel
theorem dX7_echoes_115 : decode cX7_echoes 115 = .ok (.goto 4, 3) := by decide +kernel
theorem dX7_echoes_118 : decode cX7_echoes 118 = .ok (.iconst 0, 1) := by decide +kernel
theorem dX7_echoes_119 : decode cX7_echoes 119 = .ok (.iadd, 1) := by decide +kernel
theorem dX7_echoes_120 : decode cX7_echoes 120 = .ok (.iastore, 1) := by decide +kernel
theorem dX7_echoes_121 : decode cX7_echoes 121 = .ok (.aload 5, 2) := by decide +kernel
theorem dX7_echoes_123 : decode cX7_echoes 123 = .ok (.iconst 2, 1) := by decide +kernel
theorem dX7_echoes_124 : decode cX7_echoes 124 = .ok (.aload 5, 2) := by decide +kernel
theorem dX7_echoes_126 : decode cX7_echoes 126 = .ok (.iconst 2, 1) := by decide +kernel
theorem dX7_echoes_127 : decode cX7_echoes 127 = .ok (.iaload, 1) := by decide +kernel
theorem dX7_echoes_128 : decode cX7_echoes 128 = .ok (.ifCond .ge 8, 3) := by decide +kernel
theorem dX7_echoes_131 : decode cX7_echoes 131 = .ok (.iload 8, 2) := by decide +kernel
theorem dX7_echoes_133 : decode cX7_echoes 133 = .ok (.goto 12, 3) := by decide +kernel
theorem dX7_echoes_136 : decode cX7_echoes 136 = .ok (.aload 5, 2) := by decide +kernel
theorem dX7_echoes_138 : decode cX7_echoes 138 = .ok (.iconst 2, 1) := by decide +kernel
theorem dX7_echoes_139 : decode cX7_echoes 139 = .ok (.iaload, 1) := by decide +kernel
theorem dX7_echoes_140 : decode cX7_echoes 140 = .ok (.iload 8, 2) := by decide +kernel
theorem dX7_echoes_142 : decode cX7_echoes 142 = .ok (.invokestatic 28, 3) := by decide +kernel
theorem dX7_echoes_145 : decode cX7_echoes 145 = .ok (.iastore, 1) := by decide +kernel
theorem dX7_echoes_146 : decode cX7_echoes 146 = .ok (.aload 5, 2) := by decide +kernel
theorem dX7_echoes_148 : decode cX7_echoes 148 = .ok (.iconst 3, 1) := by decide +kernel
theorem dX7_echoes_149 : decode cX7_echoes 149 = .ok (.aload 5, 2) := by decide +kernel
theorem dX7_echoes_151 : decode cX7_echoes 151 = .ok (.iconst 3, 1) := by decide +kernel
theorem dX7_echoes_152 : decode cX7_echoes 152 = .ok (.iaload, 1) := by decide +kernel
theorem dX7_echoes_153 : decode cX7_echoes 153 = .ok (.iload 8, 2) := by decide +kernel
theorem dX7_echoes_155 : decode cX7_echoes 155 = .ok (.invokestatic 19, 3) := by decide +kernel
theorem dX7_echoes_158 : decode cX7_echoes 158 = .ok (.iastore, 1) := by decide +kernel
theorem dX7_echoes_159 : decode cX7_echoes 159 = .ok (.iload 8, 2) := by decide +kernel
theorem dX7_echoes_161 : decode cX7_echoes 161 = .ok (.bipush 6, 2) := by decide +kernel
theorem dX7_echoes_163 : decode cX7_echoes 163 = .ok (.aload_n 0, 1) := by decide +kernel
theorem dX7_echoes_164 : decode cX7_echoes 164 = .ok (.getfield 9, 3) := by decide +kernel
theorem dX7_echoes_167 : decode cX7_echoes 167 = .ok (.iload 6, 2) := by decide +kernel
theorem dX7_echoes_169 : decode cX7_echoes 169 = .ok (.aaload, 1) := by decide +kernel
theorem dX7_echoes_170 : decode cX7_echoes 170 = .ok (.iconst 0, 1) := by decide +kernel
theorem dX7_echoes_171 : decode cX7_echoes 171 = .ok (.iaload, 1) := by decide +kernel
theorem dX7_echoes_172 : decode cX7_echoes 172 = .ok (.imul, 1) := by decide +kernel
theorem dX7_echoes_173 : decode cX7_echoes 173 = .ok (.iadd, 1) := by decide +kernel
theorem dX7_echoes_174 : decode cX7_echoes 174 = .ok (.istore 8, 2) := by decide +kernel
theorem dX7_echoes_176 : decode cX7_echoes 176 = .ok (.goto (-125), 3) := by decide +kernel
theorem dX7_echoes_179 : decode cX7_echoes 179 = .ok (.iinc 6 1, 3) := by decide +kernel
theorem dX7_echoes_182 : decode cX7_echoes 182 = .ok (.goto (-158), 3) := by decide +kernel
theorem dX7_echoes_185 : decode cX7_echoes 185 = .ok (.aload 5, 2) := by decide +kernel
theorem dX7_echoes_187 : decode cX7_echoes 187 = .ok (.areturn, 1) := by decide +kernel
theorem dX7_meets_0 : decode cX7_meets 0 = .ok (.aload_n 0, 1) := by decide +kernel
theorem dX7_meets_1 : decode cX7_meets 1 = .ok (.sipush 1000, 3) := by decide +kernel
theorem dX7_meets_4 : decode cX7_meets 4 = .ok (.aload_n 1, 1) := by decide +kernel
theorem dX7_meets_5 : decode cX7_meets 5 = .ok (.iconst 1, 1) := by decide +kernel
theorem dX7_meets_6 : decode cX7_meets 6 = .ok (.iaload, 1) := by decide +kernel
theorem dX7_meets_7 : decode cX7_meets 7 = .ok (.iload_n 2, 1) := by decide +kernel
theorem dX7_meets_8 : decode cX7_meets 8 = .ok (.iload_n 3, 1) := by decide +kernel
theorem dX7_meets_9 : decode cX7_meets 9 = .ok (.invokevirtual 37, 3) := by decide +kernel
theorem dX7_meets_12 : decode cX7_meets 12 = .ok (.astore 4, 2) := by decide +kernel
theorem dX7_meets_14 : decode cX7_meets 14 = .ok (.aload 4, 2) := by decide +kernel
theorem dX7_meets_16 : decode cX7_meets 16 = .ok (.iconst 0, 1) := by decide +kernel
theorem dX7_meets_17 : decode cX7_meets 17 = .ok (.iaload, 1) := by decide +kernel
theorem dX7_meets_18 : decode cX7_meets 18 = .ok (.ifCond .eq 23, 3) := by decide +kernel
theorem dX7_meets_21 : decode cX7_meets 21 = .ok (.aload 4, 2) := by decide +kernel
theorem dX7_meets_23 : decode cX7_meets 23 = .ok (.iconst 2, 1) := by decide +kernel
theorem dX7_meets_24 : decode cX7_meets 24 = .ok (.iaload, 1) := by decide +kernel
theorem dX7_meets_25 : decode cX7_meets 25 = .ok (.aload_n 1, 1) := by decide +kernel
theorem dX7_meets_26 : decode cX7_meets 26 = .ok (.iconst 0, 1) := by decide +kernel
theorem dX7_meets_27 : decode cX7_meets 27 = .ok (.iaload, 1) := by decide +kernel
theorem dX7_meets_28 : decode cX7_meets 28 = .ok (.if_icmp .lt 27, 3) := by decide +kernel
theorem dX7_meets_31 : decode cX7_meets 31 = .ok (.aload 4, 2) := by decide +kernel
theorem dX7_meets_33 : decode cX7_meets 33 = .ok (.iconst 3, 1) := by decide +kernel
theorem dX7_meets_34 : decode cX7_meets 34 = .ok (.iaload, 1) := by decide +kernel
theorem dX7_meets_35 : decode cX7_meets 35 = .ok (.aload_n 1, 1) := by decide +kernel
theorem dX7_meets_36 : decode cX7_meets 36 = .ok (.iconst 3, 1) := by decide +kernel
theorem dX7_meets_37 : decode cX7_meets 37 = .ok (.iaload, 1) := by decide +kernel
theorem dX7_meets_38 : decode cX7_meets 38 = .ok (.if_icmp .gt 17, 3) := by decide +kernel
theorem dX7_meets_41 : decode cX7_meets 41 = .ok (.aload 4, 2) := by decide +kernel
theorem dX7_meets_43 : decode cX7_meets 43 = .ok (.iconst 1, 1) := by decide +kernel
theorem dX7_meets_44 : decode cX7_meets 44 = .ok (.iaload, 1) := by decide +kernel
theorem dX7_meets_45 : decode cX7_meets 45 = .ok (.aload_n 1, 1) := by decide +kernel
theorem dX7_meets_46 : decode cX7_meets 46 = .ok (.iconst 2, 1) := by decide +kernel
theorem dX7_meets_47 : decode cX7_meets 47 = .ok (.iaload, 1) := by decide +kernel
theorem dX7_meets_48 : decode cX7_meets 48 = .ok (.if_icmp .gt 7, 3) := by decide +kernel
theorem dX7_meets_51 : decode cX7_meets 51 = .ok (.iconst 1, 1) := by decide +kernel
theorem dX7_meets_52 : decode cX7_meets 52 = .ok (.goto 4, 3) := by decide +kernel
theorem dX7_meets_55 : decode cX7_meets 55 = .ok (.iconst 0, 1) := by decide +kernel
theorem dX7_meets_56 : decode cX7_meets 56 = .ok (.ireturn, 1) := by decide +kernel
theorem dX7_strike_0 : decode cX7_strike 0 = .ok (.aload_n 0, 1) := by decide +kernel
theorem dX7_strike_1 : decode cX7_strike 1 = .ok (.iconst (-1), 1) := by decide +kernel
theorem dX7_strike_2 : decode cX7_strike 2 = .ok (.putfield 15, 3) := by decide +kernel
theorem dX7_strike_5 : decode cX7_strike 5 = .ok (.aload_n 0, 1) := by decide +kernel
theorem dX7_strike_6 : decode cX7_strike 6 = .ok (.iconst 0, 1) := by decide +kernel
theorem dX7_strike_7 : decode cX7_strike 7 = .ok (.putfield 41, 3) := by decide +kernel
theorem dX7_strike_10 : decode cX7_strike 10 = .ok (.return_, 1) := by decide +kernel
end
section
theorem dL_below_0 : decode cL_below 0 = .ok (.iload_n 0, 1) := by decide +kernel
theorem dL_below_1 : decode cL_below 1 = .ok (.ldc 7, 2) := by decide +kernel
theorem dL_below_3 : decode cL_below 3 = .ok (.iand, 1) := by decide +kernel
theorem dL_below_4 : decode cL_below 4 = .ok (.iload_n 1, 1) := by decide +kernel
theorem dL_below_5 : decode cL_below 5 = .ok (.irem, 1) := by decide +kernel
theorem dL_below_6 : decode cL_below 6 = .ok (.ireturn, 1) := by decide +kernel
theorem dL_cell_0 : decode cL_cell 0 = .ok (.iload_n 1, 1) := by decide +kernel
theorem dL_cell_1 : decode cL_cell 1 = .ok (.aload_n 0, 1) := by decide +kernel
theorem dL_cell_2 : decode cL_cell 2 = .ok (.arraylength, 1) := by decide +kernel
theorem dL_cell_3 : decode cL_cell 3 = .ok (.if_icmp .ge 9, 3) := by decide +kernel
theorem dL_cell_6 : decode cL_cell 6 = .ok (.aload_n 0, 1) := by decide +kernel
theorem dL_cell_7 : decode cL_cell 7 = .ok (.iload_n 1, 1) := by decide +kernel
theorem dL_cell_8 : decode cL_cell 8 = .ok (.iaload, 1) := by decide +kernel
theorem dL_cell_9 : decode cL_cell 9 = .ok (.goto 9, 3) := by decide +kernel
theorem dL_cell_12 : decode cL_cell 12 = .ok (.ldc 8, 2) := by decide +kernel
theorem dL_cell_14 : decode cL_cell 14 = .ok (.iload_n 1, 1) := by decide +kernel
theorem dL_cell_15 : decode cL_cell 15 = .ok (.iconst 3, 1) := by decide +kernel
theorem dL_cell_16 : decode cL_cell 16 = .ok (.iadd, 1) := by decide +kernel
theorem dL_cell_17 : decode cL_cell 17 = .ok (.imul, 1) := by decide +kernel
theorem dL_cell_18 : decode cL_cell 18 = .ok (.ireturn, 1) := by decide +kernel
theorem dL_act_0 : decode cL_act 0 = .ok (.aload_n 1, 1) := by decide +kernel
theorem dL_act_1 : decode cL_act 1 = .ok (.getfield 9, 3) := by decide +kernel
theorem dL_act_4 : decode cL_act 4 = .ok (.arraylength, 1) := by decide +kernel
theorem dL_act_5 : decode cL_act 5 = .ok (.istore_n 3, 1) := by decide +kernel
theorem dL_act_6 : decode cL_act 6 = .ok (.iload_n 2, 1) := by decide +kernel
theorem dL_act_7 : decode cL_act 7 = .ok (.bipush 9, 2) := by decide +kernel
theorem dL_act_9 : decode cL_act 9 = .ok (.ishr, 1) := by decide +kernel
theorem dL_act_10 : decode cL_act 10 = .ok (.bipush 20, 2) := by decide +kernel
theorem dL_act_12 : decode cL_act 12 = .ok (.invokestatic 15, 3) := by decide +kernel
theorem dL_act_15 : decode cL_act 15 = .ok (.istore 4, 2) := by decide +kernel
theorem dL_act_17 : decode cL_act 17 = .ok (.iload_n 3, 1) := by decide +kernel
theorem dL_act_18 : decode cL_act 18 = .ok (.ifCond .eq 9, 3) := by decide +kernel
theorem dL_act_21 : decode cL_act 21 = .ok (.iload 4, 2) := by decide +kernel
theorem dL_act_23 : decode cL_act 23 = .ok (.iconst 2, 1) := by decide +kernel
theorem dL_act_24 : decode cL_act 24 = .ok (.if_icmp .ge 99, 3) := by decide +kernel
theorem dL_act_27 : decode cL_act 27 = .ok (.iload_n 3, 1) := by decide +kernel
theorem dL_act_28 : decode cL_act 28 = .ok (.bipush 8, 2) := by decide +kernel
theorem dL_act_30 : decode cL_act 30 = .ok (.if_icmp .ne 5, 3) := by decide +kernel
theorem dL_act_33 : decode cL_act 33 = .ok (.iconst 1, 1) := by decide +kernel
theorem dL_act_34 : decode cL_act 34 = .ok (.ireturn, 1) := by decide +kernel
theorem dL_act_35 : decode cL_act 35 = .ok (.iload_n 3, 1) := by decide +kernel
theorem dL_act_36 : decode cL_act 36 = .ok (.iconst 1, 1) := by decide +kernel
theorem dL_act_37 : decode cL_act 37 = .ok (.iadd, 1) := by decide +kernel
theorem dL_act_38 : decode cL_act 38 = .ok (.anewarray 21, 3) := by decide +kernel
theorem dL_act_41 : decode cL_act 41 = .ok (.astore 5, 2) := by decide +kernel
theorem dL_act_43 : decode cL_act 43 = .ok (.iconst 0, 1) := by decide +kernel
theorem dL_act_44 : decode cL_act 44 = .ok (.istore 6, 2) := by decide +kernel
theorem dL_act_46 : decode cL_act 46 = .ok (.iload 6, 2) := by decide +kernel
theorem dL_act_48 : decode cL_act 48 = .ok (.iload_n 3, 1) := by decide +kernel
theorem dL_act_49 : decode cL_act 49 = .ok (.if_icmp .ge 21, 3) := by decide +kernel
theorem dL_act_52 : decode cL_act 52 = .ok (.aload 5, 2) := by decide +kernel
theorem dL_act_54 : decode cL_act 54 = .ok (.iload 6, 2) := by decide +kernel
theorem dL_act_56 : decode cL_act 56 = .ok (.aload_n 1, 1) := by decide +kernel
theorem dL_act_57 : decode cL_act 57 = .ok (.getfield 9, 3) := by decide +kernel
theorem dL_act_60 : decode cL_act 60 = .ok (.iload 6, 2) := by decide +kernel
theorem dL_act_62 : decode cL_act 62 = .ok (.aaload, 1) := by decide +kernel
theorem dL_act_63 : decode cL_act 63 = .ok (.aastore, 1) := by decide +kernel
theorem dL_act_64 : decode cL_act 64 = .ok (.iinc 6 1, 3) := by decide +kernel
theorem dL_act_67 : decode cL_act 67 = .ok (.goto (-21), 3) := by decide +kernel
theorem dL_act_70 : decode cL_act 70 = .ok (.aload 5, 2) := by decide +kernel
theorem dL_act_72 : decode cL_act 72 = .ok (.iload_n 3, 1) := by decide +kernel
theorem dL_act_73 : decode cL_act 73 = .ok (.new 21, 3) := by decide +kernel
theorem dL_act_76 : decode cL_act 76 = .ok (.dup, 1) := by decide +kernel
theorem dL_act_77 : decode cL_act 77 = .ok (.invokespecial 23, 3) := by decide +kernel
theorem dL_act_80 : decode cL_act 80 = .ok (.aastore, 1) := by decide +kernel
theorem dL_act_81 : decode cL_act 81 = .ok (.aload 5, 2) := by decide +kernel
theorem dL_act_83 : decode cL_act 83 = .ok (.iload_n 3, 1) := by decide +kernel
theorem dL_act_84 : decode cL_act 84 = .ok (.aaload, 1) := by decide +kernel
theorem dL_act_85 : decode cL_act 85 = .ok (.iload_n 2, 1) := by decide +kernel
theorem dL_act_86 : decode cL_act 86 = .ok (.iconst 1, 1) := by decide +kernel
theorem dL_act_87 : decode cL_act 87 = .ok (.ishr, 1) := by decide +kernel
theorem dL_act_88 : decode cL_act 88 = .ok (.bipush 91, 2) := by decide +kernel
theorem dL_act_90 : decode cL_act 90 = .ok (.invokestatic 15, 3) := by decide +kernel
theorem dL_act_93 : decode cL_act 93 = .ok (.putfield 24, 3) := by decide +kernel
theorem dL_act_96 : decode cL_act 96 = .ok (.aload_n 1, 1) := by decide +kernel
theorem dL_act_97 : decode cL_act 97 = .ok (.aload 5, 2) := by decide +kernel
theorem dL_act_99 : decode cL_act 99 = .ok (.putfield 9, 3) := by decide +kernel
theorem dL_act_102 : decode cL_act 102 = .ok (.aload_n 0, 1) := by decide +kernel
theorem dL_act_103 : decode cL_act 103 = .ok (.aload 5, 2) := by decide +kernel
theorem dL_act_105 : decode cL_act 105 = .ok (.iload_n 3, 1) := by decide +kernel
theorem dL_act_106 : decode cL_act 106 = .ok (.aaload, 1) := by decide +kernel
theorem dL_act_107 : decode cL_act 107 = .ok (.getfield 24, 3) := by decide +kernel
theorem dL_act_110 : decode cL_act 110 = .ok (.invokevirtual 28, 3) := by decide +kernel
theorem dL_act_113 : decode cL_act 113 = .ok (.iload_n 3, 1) := by decide +kernel
theorem dL_act_114 : decode cL_act 114 = .ok (.if_icmp .ne 7, 3) := by decide +kernel
theorem dL_act_117 : decode cL_act 117 = .ok (.iconst 1, 1) := by decide +kernel
theorem dL_act_118 : decode cL_act 118 = .ok (.goto 4, 3) := by decide +kernel
theorem dL_act_121 : decode cL_act 121 = .ok (.iconst 0, 1) := by decide +kernel
theorem dL_act_122 : decode cL_act 122 = .ok (.ireturn, 1) := by decide +kernel
theorem dL_act_123 : decode cL_act 123 = .ok (.iload_n 2, 1) := by decide +kernel
theorem dL_act_124 : decode cL_act 124 = .ok (.iconst 1, 1) := by decide +kernel
theorem dL_act_125 : decode cL_act 125 = .ok (.ishr, 1) := by decide +kernel
theorem dL_act_126 : decode cL_act 126 = .ok (.iload_n 3, 1) := by decide +kernel
theorem dL_act_127 : decode cL_act 127 = .ok (.invokestatic 15, 3) := by decide +kernel
theorem dL_act_130 : decode cL_act 130 = .ok (.istore 5, 2) := by decide +kernel
theorem dL_act_132 : decode cL_act 132 = .ok (.aload_n 1, 1) := by decide +kernel
theorem dL_act_133 : decode cL_act 133 = .ok (.getfield 9, 3) := by decide +kernel
theorem dL_act_136 : decode cL_act 136 = .ok (.iload 5, 2) := by decide +kernel
theorem dL_act_138 : decode cL_act 138 = .ok (.aaload, 1) := by decide +kernel
theorem dL_act_139 : decode cL_act 139 = .ok (.astore 6, 2) := by decide +kernel
theorem dL_act_141 : decode cL_act 141 = .ok (.aload 6, 2) := by decide +kernel
theorem dL_act_143 : decode cL_act 143 = .ok (.getfield 34, 3) := by decide +kernel
theorem dL_act_146 : decode cL_act 146 = .ok (.arraylength, 1) := by decide +kernel
theorem dL_act_147 : decode cL_act 147 = .ok (.istore 7, 2) := by decide +kernel
theorem dL_act_149 : decode cL_act 149 = .ok (.iload 4, 2) := by decide +kernel
theorem dL_act_151 : decode cL_act 151 = .ok (.bipush 7, 2) := by decide +kernel
theorem dL_act_153 : decode cL_act 153 = .ok (.if_icmp .lt 15, 3) := by decide +kernel
theorem dL_act_156 : decode cL_act 156 = .ok (.iload 4, 2) := by decide +kernel
theorem dL_act_158 : decode cL_act 158 = .ok (.bipush 9, 2) := by decide +kernel
theorem dL_act_160 : decode cL_act 160 = .ok (.if_icmp .ge 113, 3) := by decide +kernel
theorem dL_act_163 : decode cL_act 163 = .ok (.iload 7, 2) := by decide +kernel
theorem dL_act_165 : decode cL_act 165 = .ok (.ifCond .ne 108, 3) := by decide +kernel
theorem dL_act_168 : decode cL_act 168 = .ok (.iload 7, 2) := by decide +kernel
theorem dL_act_170 : decode cL_act 170 = .ok (.bipush 6, 2) := by decide +kernel
theorem dL_act_172 : decode cL_act 172 = .ok (.if_icmp .ne 5, 3) := by decide +kernel
theorem dL_act_175 : decode cL_act 175 = .ok (.iconst 1, 1) := by decide +kernel
theorem dL_act_176 : decode cL_act 176 = .ok (.ireturn, 1) := by decide +kernel
theorem dL_act_177 : decode cL_act 177 = .ok (.iconst 2, 1) := by decide +kernel
theorem dL_act_178 : decode cL_act 178 = .ok (.newarray .int, 2) := by decide +kernel
theorem dL_act_180 : decode cL_act 180 = .ok (.dup, 1) := by decide +kernel
theorem dL_act_181 : decode cL_act 181 = .ok (.iconst 0, 1) := by decide +kernel
theorem dL_act_182 : decode cL_act 182 = .ok (.iconst 1, 1) := by decide +kernel
theorem dL_act_183 : decode cL_act 183 = .ok (.iload_n 2, 1) := by decide +kernel
theorem dL_act_184 : decode cL_act 184 = .ok (.iconst 3, 1) := by decide +kernel
theorem dL_act_185 : decode cL_act 185 = .ok (.ishr, 1) := by decide +kernel
theorem dL_act_186 : decode cL_act 186 = .ok (.bipush 60, 2) := by decide +kernel
theorem dL_act_188 : decode cL_act 188 = .ok (.invokestatic 15, 3) := by decide +kernel
theorem dL_act_191 : decode cL_act 191 = .ok (.iadd, 1) := by decide +kernel
theorem dL_act_192 : decode cL_act 192 = .ok (.iastore, 1) := by decide +kernel
theorem dL_act_193 : decode cL_act 193 = .ok (.dup, 1) := by decide +kernel
theorem dL_act_194 : decode cL_act 194 = .ok (.iconst 1, 1) := by decide +kernel
theorem dL_act_195 : decode cL_act 195 = .ok (.iload_n 2, 1) := by decide +kernel
theorem dL_act_196 : decode cL_act 196 = .ok (.iconst 3, 1) := by decide +kernel
theorem dL_act_197 : decode cL_act 197 = .ok (.invokestatic 15, 3) := by decide +kernel
theorem dL_act_200 : decode cL_act 200 = .ok (.ifCond .ne 14, 3) := by decide +kernel
theorem dL_act_203 : decode cL_act 203 = .ok (.iload_n 2, 1) := by decide +kernel
theorem dL_act_204 : decode cL_act 204 = .ok (.iconst 5, 1) := by decide +kernel
theorem dL_act_205 : decode cL_act 205 = .ok (.ishr, 1) := by decide +kernel
theorem dL_act_206 : decode cL_act 206 = .ok (.bipush 100, 2) := by decide +kernel
theorem dL_act_208 : decode cL_act 208 = .ok (.invokestatic 15, 3) := by decide +kernel
theorem dL_act_211 : decode cL_act 211 = .ok (.goto 14, 3) := by decide +kernel
theorem dL_act_214 : decode cL_act 214 = .ok (.bipush 60, 2) := by decide +kernel
theorem dL_act_216 : decode cL_act 216 = .ok (.iload_n 2, 1) := by decide +kernel
theorem dL_act_217 : decode cL_act 217 = .ok (.iconst 5, 1) := by decide +kernel
theorem dL_act_218 : decode cL_act 218 = .ok (.ishr, 1) := by decide +kernel
theorem dL_act_219 : decode cL_act 219 = .ok (.bipush 40, 2) := by decide +kernel
theorem dL_act_221 : decode cL_act 221 = .ok (.invokestatic 15, 3) := by decide +kernel
theorem dL_act_224 : decode cL_act 224 = .ok (.iadd, 1) := by decide +kernel
theorem dL_act_225 : decode cL_act 225 = .ok (.iastore, 1) := by decide +kernel
theorem dL_act_226 : decode cL_act 226 = .ok (.astore 8, 2) := by decide +kernel
theorem dL_act_228 : decode cL_act 228 = .ok (.aload 6, 2) := by decide +kernel
theorem dL_act_230 : decode cL_act 230 = .ok (.aload 6, 2) := by decide +kernel
theorem dL_act_232 : decode cL_act 232 = .ok (.getfield 34, 3) := by decide +kernel
theorem dL_act_235 : decode cL_act 235 = .ok (.aload 8, 2) := by decide +kernel
theorem dL_act_237 : decode cL_act 237 = .ok (.invokestatic 38, 3) := by decide +kernel
theorem dL_act_240 : decode cL_act 240 = .ok (.putfield 34, 3) := by decide +kernel
theorem dL_act_243 : decode cL_act 243 = .ok (.aload 6, 2) := by decide +kernel
theorem dL_act_245 : decode cL_act 245 = .ok (.invokevirtual 42, 3) := by decide +kernel
theorem dL_act_248 : decode cL_act 248 = .ok (.aload_n 0, 1) := by decide +kernel
theorem dL_act_249 : decode cL_act 249 = .ok (.iload 5, 2) := by decide +kernel
theorem dL_act_251 : decode cL_act 251 = .ok (.aload 8, 2) := by decide +kernel
theorem dL_act_253 : decode cL_act 253 = .ok (.iconst 0, 1) := by decide +kernel
theorem dL_act_254 : decode cL_act 254 = .ok (.iaload, 1) := by decide +kernel
theorem dL_act_255 : decode cL_act 255 = .ok (.aload 8, 2) := by decide +kernel
theorem dL_act_257 : decode cL_act 257 = .ok (.iconst 1, 1) := by decide +kernel
theorem dL_act_258 : decode cL_act 258 = .ok (.iaload, 1) := by decide +kernel
theorem dL_act_259 : decode cL_act 259 = .ok (.invokevirtual 45, 3) := by decide +kernel
theorem dL_act_262 : decode cL_act 262 = .ok (.iload 7, 2) := by decide +kernel
theorem dL_act_264 : decode cL_act 264 = .ok (.if_icmp .ne 7, 3) := by decide +kernel
theorem dL_act_267 : decode cL_act 267 = .ok (.iconst 1, 1) := by decide +kernel
theorem dL_act_268 : decode cL_act 268 = .ok (.goto 4, 3) := by decide +kernel
theorem dL_act_271 : decode cL_act 271 = .ok (.iconst 0, 1) := by decide +kernel
theorem dL_act_272 : decode cL_act 272 = .ok (.ireturn, 1) := by decide +kernel
theorem dL_act_273 : decode cL_act 273 = .ok (.aload_n 1, 1) := by decide +kernel
theorem dL_act_274 : decode cL_act 274 = .ok (.getfield 49, 3) := by decide +kernel
theorem dL_act_277 : decode cL_act 277 = .ok (.arraylength, 1) := by decide +kernel
theorem dL_act_278 : decode cL_act 278 = .ok (.istore 8, 2) := by decide +kernel
theorem dL_act_280 : decode cL_act 280 = .ok (.iload 4, 2) := by decide +kernel
theorem dL_act_282 : decode cL_act 282 = .ok (.tableswitch 540 7 17 #[58, 58, 129, 129, 176, 206, 206, 379, 379, 379, 493], 58) := by decide +kernel
theorem dL_act_340 : decode cL_act 340 = .ok (.aload 6, 2) := by decide +kernel
theorem dL_act_342 : decode cL_act 342 = .ok (.getfield 34, 3) := by decide +kernel
theorem dL_act_345 : decode cL_act 345 = .ok (.iload_n 2, 1) := by decide +kernel
theorem dL_act_346 : decode cL_act 346 = .ok (.iconst 4, 1) := by decide +kernel
theorem dL_act_347 : decode cL_act 347 = .ok (.ishr, 1) := by decide +kernel
theorem dL_act_348 : decode cL_act 348 = .ok (.iload 7, 2) := by decide +kernel
theorem dL_act_350 : decode cL_act 350 = .ok (.invokestatic 15, 3) := by decide +kernel
theorem dL_act_353 : decode cL_act 353 = .ok (.aaload, 1) := by decide +kernel
theorem dL_act_354 : decode cL_act 354 = .ok (.astore 9, 2) := by decide +kernel
theorem dL_act_356 : decode cL_act 356 = .ok (.aload 9, 2) := by decide +kernel
theorem dL_act_358 : decode cL_act 358 = .ok (.iconst 0, 1) := by decide +kernel
theorem dL_act_359 : decode cL_act 359 = .ok (.iaload, 1) := by decide +kernel
theorem dL_act_360 : decode cL_act 360 = .ok (.istore 10, 2) := by decide +kernel
theorem dL_act_362 : decode cL_act 362 = .ok (.aload 9, 2) := by decide +kernel
theorem dL_act_364 : decode cL_act 364 = .ok (.iconst 0, 1) := by decide +kernel
theorem dL_act_365 : decode cL_act 365 = .ok (.iconst 1, 1) := by decide +kernel
theorem dL_act_366 : decode cL_act 366 = .ok (.iload_n 2, 1) := by decide +kernel
theorem dL_act_367 : decode cL_act 367 = .ok (.bipush 6, 2) := by decide +kernel
theorem dL_act_369 : decode cL_act 369 = .ok (.ishr, 1) := by decide +kernel
theorem dL_act_370 : decode cL_act 370 = .ok (.bipush 60, 2) := by decide +kernel
theorem dL_act_372 : decode cL_act 372 = .ok (.invokestatic 15, 3) := by decide +kernel
theorem dL_act_375 : decode cL_act 375 = .ok (.iadd, 1) := by decide +kernel
theorem dL_act_376 : decode cL_act 376 = .ok (.iastore, 1) := by decide +kernel
theorem dL_act_377 : decode cL_act 377 = .ok (.aload 6, 2) := by decide +kernel
theorem dL_act_379 : decode cL_act 379 = .ok (.invokevirtual 42, 3) := by decide +kernel
theorem dL_act_382 : decode cL_act 382 = .ok (.aload_n 0, 1) := by decide +kernel
theorem dL_act_383 : decode cL_act 383 = .ok (.iload 5, 2) := by decide +kernel
theorem dL_act_385 : decode cL_act 385 = .ok (.iload_n 2, 1) := by decide +kernel
theorem dL_act_386 : decode cL_act 386 = .ok (.iconst 4, 1) := by decide +kernel
theorem dL_act_387 : decode cL_act 387 = .ok (.ishr, 1) := by decide +kernel
theorem dL_act_388 : decode cL_act 388 = .ok (.iload 7, 2) := by decide +kernel
theorem dL_act_390 : decode cL_act 390 = .ok (.invokestatic 15, 3) := by decide +kernel
theorem dL_act_393 : decode cL_act 393 = .ok (.aload 9, 2) := by decide +kernel
theorem dL_act_395 : decode cL_act 395 = .ok (.iconst 0, 1) := by decide +kernel
theorem dL_act_396 : decode cL_act 396 = .ok (.iaload, 1) := by decide +kernel
theorem dL_act_397 : decode cL_act 397 = .ok (.invokevirtual 52, 3) := by decide +kernel
theorem dL_act_400 : decode cL_act 400 = .ok (.iload 10, 2) := by decide +kernel
theorem dL_act_402 : decode cL_act 402 = .ok (.if_icmp .ne 7, 3) := by decide +kernel
theorem dL_act_405 : decode cL_act 405 = .ok (.iconst 1, 1) := by decide +kernel
theorem dL_act_406 : decode cL_act 406 = .ok (.goto 4, 3) := by decide +kernel
theorem dL_act_409 : decode cL_act 409 = .ok (.iconst 0, 1) := by decide +kernel
theorem dL_act_410 : decode cL_act 410 = .ok (.ireturn, 1) := by decide +kernel
theorem dL_act_411 : decode cL_act 411 = .ok (.aload 6, 2) := by decide +kernel
theorem dL_act_413 : decode cL_act 413 = .ok (.getfield 24, 3) := by decide +kernel
theorem dL_act_416 : decode cL_act 416 = .ok (.istore 11, 2) := by decide +kernel
theorem dL_act_418 : decode cL_act 418 = .ok (.aload 6, 2) := by decide +kernel
theorem dL_act_420 : decode cL_act 420 = .ok (.iload_n 2, 1) := by decide +kernel
theorem dL_act_421 : decode cL_act 421 = .ok (.iconst 3, 1) := by decide +kernel
theorem dL_act_422 : decode cL_act 422 = .ok (.ishr, 1) := by decide +kernel
theorem dL_act_423 : decode cL_act 423 = .ok (.bipush 91, 2) := by decide +kernel
theorem dL_act_425 : decode cL_act 425 = .ok (.invokestatic 15, 3) := by decide +kernel
theorem dL_act_428 : decode cL_act 428 = .ok (.putfield 24, 3) := by decide +kernel
theorem dL_act_431 : decode cL_act 431 = .ok (.aload 6, 2) := by decide +kernel
theorem dL_act_433 : decode cL_act 433 = .ok (.invokevirtual 42, 3) := by decide +kernel
theorem dL_act_436 : decode cL_act 436 = .ok (.aload_n 0, 1) := by decide +kernel
theorem dL_act_437 : decode cL_act 437 = .ok (.iload 5, 2) := by decide +kernel
theorem dL_act_439 : decode cL_act 439 = .ok (.aload 6, 2) := by decide +kernel
theorem dL_act_441 : decode cL_act 441 = .ok (.getfield 24, 3) := by decide +kernel
theorem dL_act_444 : decode cL_act 444 = .ok (.invokevirtual 55, 3) := by decide +kernel
theorem dL_act_447 : decode cL_act 447 = .ok (.iload 11, 2) := by decide +kernel
theorem dL_act_449 : decode cL_act 449 = .ok (.if_icmp .ne 7, 3) := by decide +kernel
theorem dL_act_452 : decode cL_act 452 = .ok (.iconst 1, 1) := by decide +kernel
theorem dL_act_453 : decode cL_act 453 = .ok (.goto 4, 3) := by decide +kernel
theorem dL_act_456 : decode cL_act 456 = .ok (.iconst 0, 1) := by decide +kernel
theorem dL_act_457 : decode cL_act 457 = .ok (.ireturn, 1) := by decide +kernel
theorem dL_act_458 : decode cL_act 458 = .ok (.aload 6, 2) := by decide +kernel
theorem dL_act_460 : decode cL_act 460 = .ok (.getfield 58, 3) := by decide +kernel
theorem dL_act_463 : decode cL_act 463 = .ok (.istore 12, 2) := by decide +kernel
theorem dL_act_465 : decode cL_act 465 = .ok (.aload 6, 2) := by decide +kernel
theorem dL_act_467 : decode cL_act 467 = .ok (.iconst 0, 1) := by decide +kernel
theorem dL_act_468 : decode cL_act 468 = .ok (.putfield 58, 3) := by decide +kernel
theorem dL_act_471 : decode cL_act 471 = .ok (.aload_n 0, 1) := by decide +kernel
theorem dL_act_472 : decode cL_act 472 = .ok (.iload 5, 2) := by decide +kernel
theorem dL_act_474 : decode cL_act 474 = .ok (.invokevirtual 61, 3) := by decide +kernel
theorem dL_act_477 : decode cL_act 477 = .ok (.iload 12, 2) := by decide +kernel
theorem dL_act_479 : decode cL_act 479 = .ok (.if_icmp .ne 7, 3) := by decide +kernel
theorem dL_act_482 : decode cL_act 482 = .ok (.iconst 1, 1) := by decide +kernel
theorem dL_act_483 : decode cL_act 483 = .ok (.goto 4, 3) := by decide +kernel
theorem dL_act_486 : decode cL_act 486 = .ok (.iconst 0, 1) := by decide +kernel
theorem dL_act_487 : decode cL_act 487 = .ok (.ireturn, 1) := by decide +kernel
theorem dL_act_488 : decode cL_act 488 = .ok (.iload 8, 2) := by decide +kernel
theorem dL_act_490 : decode cL_act 490 = .ok (.iconst 5, 1) := by decide +kernel
theorem dL_act_491 : decode cL_act 491 = .ok (.if_icmp .ne 5, 3) := by decide +kernel
theorem dL_act_494 : decode cL_act 494 = .ok (.iconst 1, 1) := by decide +kernel
theorem dL_act_495 : decode cL_act 495 = .ok (.ireturn, 1) := by decide +kernel
theorem dL_act_496 : decode cL_act 496 = .ok (.iconst 5, 1) := by decide +kernel
theorem dL_act_497 : decode cL_act 497 = .ok (.newarray .int, 2) := by decide +kernel
theorem dL_act_499 : decode cL_act 499 = .ok (.dup, 1) := by decide +kernel
theorem dL_act_500 : decode cL_act 500 = .ok (.iconst 0, 1) := by decide +kernel
theorem dL_act_501 : decode cL_act 501 = .ok (.iload_n 2, 1) := by decide +kernel
theorem dL_act_502 : decode cL_act 502 = .ok (.iconst 2, 1) := by decide +kernel
theorem dL_act_503 : decode cL_act 503 = .ok (.ishr, 1) := by decide +kernel
theorem dL_act_504 : decode cL_act 504 = .ok (.iload_n 2, 1) := by decide +kernel
theorem dL_act_505 : decode cL_act 505 = .ok (.iconst 2, 1) := by decide +kernel
theorem dL_act_506 : decode cL_act 506 = .ok (.invokestatic 15, 3) := by decide +kernel
theorem dL_act_509 : decode cL_act 509 = .ok (.ifCond .ne 9, 3) := by decide +kernel
theorem dL_act_512 : decode cL_act 512 = .ok (.sipush 501, 3) := by decide +kernel
theorem dL_act_515 : decode cL_act 515 = .ok (.goto 5, 3) := by decide +kernel
theorem dL_act_518 : decode cL_act 518 = .ok (.bipush 60, 2) := by decide +kernel
theorem dL_act_520 : decode cL_act 520 = .ok (.invokestatic 15, 3) := by decide +kernel
theorem dL_act_523 : decode cL_act 523 = .ok (.iastore, 1) := by decide +kernel
theorem dL_act_524 : decode cL_act 524 = .ok (.dup, 1) := by decide +kernel
theorem dL_act_525 : decode cL_act 525 = .ok (.iconst 1, 1) := by decide +kernel
theorem dL_act_526 : decode cL_act 526 = .ok (.iconst 1, 1) := by decide +kernel
theorem dL_act_527 : decode cL_act 527 = .ok (.iload_n 2, 1) := by decide +kernel
theorem dL_act_528 : decode cL_act 528 = .ok (.iconst 3, 1) := by decide +kernel
theorem dL_act_529 : decode cL_act 529 = .ok (.ishr, 1) := by decide +kernel
theorem dL_act_530 : decode cL_act 530 = .ok (.sipush 1000, 3) := by decide +kernel
theorem dL_act_533 : decode cL_act 533 = .ok (.invokestatic 15, 3) := by decide +kernel
theorem dL_act_536 : decode cL_act 536 = .ok (.iadd, 1) := by decide +kernel
theorem dL_act_537 : decode cL_act 537 = .ok (.iastore, 1) := by decide +kernel
theorem dL_act_538 : decode cL_act 538 = .ok (.dup, 1) := by decide +kernel
theorem dL_act_539 : decode cL_act 539 = .ok (.iconst 2, 1) := by decide +kernel
theorem dL_act_540 : decode cL_act 540 = .ok (.iload_n 2, 1) := by decide +kernel
theorem dL_act_541 : decode cL_act 541 = .ok (.iconst 5, 1) := by decide +kernel
theorem dL_act_542 : decode cL_act 542 = .ok (.ishr, 1) := by decide +kernel
theorem dL_act_543 : decode cL_act 543 = .ok (.bipush 20, 2) := by decide +kernel
theorem dL_act_545 : decode cL_act 545 = .ok (.invokestatic 15, 3) := by decide +kernel
theorem dL_act_548 : decode cL_act 548 = .ok (.iastore, 1) := by decide +kernel
theorem dL_act_549 : decode cL_act 549 = .ok (.dup, 1) := by decide +kernel
theorem dL_act_550 : decode cL_act 550 = .ok (.iconst 3, 1) := by decide +kernel
theorem dL_act_551 : decode cL_act 551 = .ok (.iload_n 2, 1) := by decide +kernel
theorem dL_act_552 : decode cL_act 552 = .ok (.iconst 3, 1) := by decide +kernel
theorem dL_act_553 : decode cL_act 553 = .ok (.invokestatic 15, 3) := by decide +kernel
theorem dL_act_556 : decode cL_act 556 = .ok (.ifCond .ne 15, 3) := by decide +kernel
theorem dL_act_559 : decode cL_act 559 = .ok (.iload_n 2, 1) := by decide +kernel
theorem dL_act_560 : decode cL_act 560 = .ok (.iconst 4, 1) := by decide +kernel
theorem dL_act_561 : decode cL_act 561 = .ok (.ishr, 1) := by decide +kernel
theorem dL_act_562 : decode cL_act 562 = .ok (.sipush 3001, 3) := by decide +kernel
theorem dL_act_565 : decode cL_act 565 = .ok (.invokestatic 15, 3) := by decide +kernel
theorem dL_act_568 : decode cL_act 568 = .ok (.goto 16, 3) := by decide +kernel
theorem dL_act_571 : decode cL_act 571 = .ok (.sipush 3000, 3) := by decide +kernel
theorem dL_act_574 : decode cL_act 574 = .ok (.iload_n 2, 1) := by decide +kernel
theorem dL_act_575 : decode cL_act 575 = .ok (.iconst 4, 1) := by decide +kernel
theorem dL_act_576 : decode cL_act 576 = .ok (.ishr, 1) := by decide +kernel
theorem dL_act_577 : decode cL_act 577 = .ok (.sipush 900, 3) := by decide +kernel
theorem dL_act_580 : decode cL_act 580 = .ok (.invokestatic 15, 3) := by decide +kernel
theorem dL_act_583 : decode cL_act 583 = .ok (.isub, 1) := by decide +kernel
theorem dL_act_584 : decode cL_act 584 = .ok (.iastore, 1) := by decide +kernel
theorem dL_act_585 : decode cL_act 585 = .ok (.dup, 1) := by decide +kernel
theorem dL_act_586 : decode cL_act 586 = .ok (.iconst 4, 1) := by decide +kernel
theorem dL_act_587 : decode cL_act 587 = .ok (.iconst 1, 1) := by decide +kernel
theorem dL_act_588 : decode cL_act 588 = .ok (.iload_n 2, 1) := by decide +kernel
theorem dL_act_589 : decode cL_act 589 = .ok (.bipush 6, 2) := by decide +kernel
theorem dL_act_591 : decode cL_act 591 = .ok (.ishr, 1) := by decide +kernel
theorem dL_act_592 : decode cL_act 592 = .ok (.iload_n 2, 1) := by decide +kernel
theorem dL_act_593 : decode cL_act 593 = .ok (.iconst 2, 1) := by decide +kernel
theorem dL_act_594 : decode cL_act 594 = .ok (.invokestatic 15, 3) := by decide +kernel
theorem dL_act_597 : decode cL_act 597 = .ok (.ifCond .ne 8, 3) := by decide +kernel
theorem dL_act_600 : decode cL_act 600 = .ok (.bipush 100, 2) := by decide +kernel
theorem dL_act_602 : decode cL_act 602 = .ok (.goto 4, 3) := by decide +kernel
theorem dL_act_605 : decode cL_act 605 = .ok (.iconst 5, 1) := by decide +kernel
theorem dL_act_606 : decode cL_act 606 = .ok (.invokestatic 15, 3) := by decide +kernel
theorem dL_act_609 : decode cL_act 609 = .ok (.iadd, 1) := by decide +kernel
theorem dL_act_610 : decode cL_act 610 = .ok (.iastore, 1) := by decide +kernel
theorem dL_act_611 : decode cL_act 611 = .ok (.astore 13, 2) := by decide +kernel
theorem dL_act_613 : decode cL_act 613 = .ok (.aload_n 1, 1) := by decide +kernel
theorem dL_act_614 : decode cL_act 614 = .ok (.aload_n 1, 1) := by decide +kernel
theorem dL_act_615 : decode cL_act 615 = .ok (.getfield 49, 3) := by decide +kernel
theorem dL_act_618 : decode cL_act 618 = .ok (.aload 13, 2) := by decide +kernel
theorem dL_act_620 : decode cL_act 620 = .ok (.invokestatic 38, 3) := by decide +kernel
theorem dL_act_623 : decode cL_act 623 = .ok (.putfield 49, 3) := by decide +kernel
theorem dL_act_626 : decode cL_act 626 = .ok (.aload_n 0, 1) := by decide +kernel
theorem dL_act_627 : decode cL_act 627 = .ok (.aload 13, 2) := by decide +kernel
theorem dL_act_629 : decode cL_act 629 = .ok (.iconst 0, 1) := by decide +kernel
theorem dL_act_630 : decode cL_act 630 = .ok (.iaload, 1) := by decide +kernel
theorem dL_act_631 : decode cL_act 631 = .ok (.aload 13, 2) := by decide +kernel
theorem dL_act_633 : decode cL_act 633 = .ok (.iconst 1, 1) := by decide +kernel
theorem dL_act_634 : decode cL_act 634 = .ok (.iaload, 1) := by decide +kernel
theorem dL_act_635 : decode cL_act 635 = .ok (.aload 13, 2) := by decide +kernel
theorem dL_act_637 : decode cL_act 637 = .ok (.iconst 2, 1) := by decide +kernel
theorem dL_act_638 : decode cL_act 638 = .ok (.iaload, 1) := by decide +kernel
theorem dL_act_639 : decode cL_act 639 = .ok (.aload 13, 2) := by decide +kernel
theorem dL_act_641 : decode cL_act 641 = .ok (.iconst 3, 1) := by decide +kernel
theorem dL_act_642 : decode cL_act 642 = .ok (.iaload, 1) := by decide +kernel
theorem dL_act_643 : decode cL_act 643 = .ok (.aload 13, 2) := by decide +kernel
theorem dL_act_645 : decode cL_act 645 = .ok (.iconst 4, 1) := by decide +kernel
theorem dL_act_646 : decode cL_act 646 = .ok (.iaload, 1) := by decide +kernel
theorem dL_act_647 : decode cL_act 647 = .ok (.invokevirtual 64, 3) := by decide +kernel
theorem dL_act_650 : decode cL_act 650 = .ok (.iload 8, 2) := by decide +kernel
theorem dL_act_652 : decode cL_act 652 = .ok (.if_icmp .ne 7, 3) := by decide +kernel
theorem dL_act_655 : decode cL_act 655 = .ok (.iconst 1, 1) := by decide +kernel
theorem dL_act_656 : decode cL_act 656 = .ok (.goto 4, 3) := by decide +kernel
theorem dL_act_659 : decode cL_act 659 = .ok (.iconst 0, 1) := by decide +kernel
theorem dL_act_660 : decode cL_act 660 = .ok (.ireturn, 1) := by decide +kernel
theorem dL_act_661 : decode cL_act 661 = .ok (.iload 8, 2) := by decide +kernel
theorem dL_act_663 : decode cL_act 663 = .ok (.ifCond .ne 5, 3) := by decide +kernel
theorem dL_act_666 : decode cL_act 666 = .ok (.iconst 1, 1) := by decide +kernel
theorem dL_act_667 : decode cL_act 667 = .ok (.ireturn, 1) := by decide +kernel
theorem dL_act_668 : decode cL_act 668 = .ok (.iload_n 2, 1) := by decide +kernel
theorem dL_act_669 : decode cL_act 669 = .ok (.iconst 4, 1) := by decide +kernel
theorem dL_act_670 : decode cL_act 670 = .ok (.ishr, 1) := by decide +kernel
theorem dL_act_671 : decode cL_act 671 = .ok (.iload 8, 2) := by decide +kernel
theorem dL_act_673 : decode cL_act 673 = .ok (.invokestatic 15, 3) := by decide +kernel
theorem dL_act_676 : decode cL_act 676 = .ok (.istore 14, 2) := by decide +kernel
theorem dL_act_678 : decode cL_act 678 = .ok (.aload 6, 2) := by decide +kernel
theorem dL_act_680 : decode cL_act 680 = .ok (.aload_n 1, 1) := by decide +kernel
theorem dL_act_681 : decode cL_act 681 = .ok (.getfield 49, 3) := by decide +kernel
theorem dL_act_684 : decode cL_act 684 = .ok (.iload 14, 2) := by decide +kernel
theorem dL_act_686 : decode cL_act 686 = .ok (.aaload, 1) := by decide +kernel
theorem dL_act_687 : decode cL_act 687 = .ok (.aload 6, 2) := by decide +kernel
theorem dL_act_689 : decode cL_act 689 = .ok (.getfield 24, 3) := by decide +kernel
theorem dL_act_692 : decode cL_act 692 = .ok (.aload 6, 2) := by decide +kernel
theorem dL_act_694 : decode cL_act 694 = .ok (.getfield 58, 3) := by decide +kernel
theorem dL_act_697 : decode cL_act 697 = .ok (.invokevirtual 68, 3) := by decide +kernel
theorem dL_act_700 : decode cL_act 700 = .ok (.istore 15, 2) := by decide +kernel
theorem dL_act_702 : decode cL_act 702 = .ok (.aload_n 1, 1) := by decide +kernel
theorem dL_act_703 : decode cL_act 703 = .ok (.dup, 1) := by decide +kernel
theorem dL_act_704 : decode cL_act 704 = .ok (.getfield 72, 3) := by decide +kernel
theorem dL_act_707 : decode cL_act 707 = .ok (.iconst 1, 1) := by decide +kernel
theorem dL_act_708 : decode cL_act 708 = .ok (.iadd, 1) := by decide +kernel
theorem dL_act_709 : decode cL_act 709 = .ok (.putfield 72, 3) := by decide +kernel
theorem dL_act_712 : decode cL_act 712 = .ok (.iload 15, 2) := by decide +kernel
theorem dL_act_714 : decode cL_act 714 = .ok (.ifCond .eq 27, 3) := by decide +kernel
theorem dL_act_717 : decode cL_act 717 = .ok (.aload 6, 2) := by decide +kernel
theorem dL_act_719 : decode cL_act 719 = .ok (.iload 14, 2) := by decide +kernel
theorem dL_act_721 : decode cL_act 721 = .ok (.putfield 75, 3) := by decide +kernel
theorem dL_act_724 : decode cL_act 724 = .ok (.aload 6, 2) := by decide +kernel
theorem dL_act_726 : decode cL_act 726 = .ok (.aload_n 1, 1) := by decide +kernel
theorem dL_act_727 : decode cL_act 727 = .ok (.getfield 49, 3) := by decide +kernel
theorem dL_act_730 : decode cL_act 730 = .ok (.iload 14, 2) := by decide +kernel
theorem dL_act_732 : decode cL_act 732 = .ok (.aaload, 1) := by decide +kernel
theorem dL_act_733 : decode cL_act 733 = .ok (.iconst 4, 1) := by decide +kernel
theorem dL_act_734 : decode cL_act 734 = .ok (.iaload, 1) := by decide +kernel
theorem dL_act_735 : decode cL_act 735 = .ok (.putfield 78, 3) := by decide +kernel
theorem dL_act_738 : decode cL_act 738 = .ok (.goto 18, 3) := by decide +kernel
theorem dL_act_741 : decode cL_act 741 = .ok (.aload 6, 2) := by decide +kernel
theorem dL_act_743 : decode cL_act 743 = .ok (.getfield 75, 3) := by decide +kernel
theorem dL_act_746 : decode cL_act 746 = .ok (.iload 14, 2) := by decide +kernel
theorem dL_act_748 : decode cL_act 748 = .ok (.if_icmp .ne 8, 3) := by decide +kernel
theorem dL_act_751 : decode cL_act 751 = .ok (.aload 6, 2) := by decide +kernel
theorem dL_act_753 : decode cL_act 753 = .ok (.invokevirtual 42, 3) := by decide +kernel
theorem dL_act_756 : decode cL_act 756 = .ok (.aload_n 0, 1) := by decide +kernel
theorem dL_act_757 : decode cL_act 757 = .ok (.iload 5, 2) := by decide +kernel
theorem dL_act_759 : decode cL_act 759 = .ok (.iload 14, 2) := by decide +kernel
theorem dL_act_761 : decode cL_act 761 = .ok (.invokevirtual 81, 3) := by decide +kernel
theorem dL_act_764 : decode cL_act 764 = .ok (.iload 15, 2) := by decide +kernel
theorem dL_act_766 : decode cL_act 766 = .ok (.if_icmp .ne 7, 3) := by decide +kernel
theorem dL_act_769 : decode cL_act 769 = .ok (.iconst 1, 1) := by decide +kernel
theorem dL_act_770 : decode cL_act 770 = .ok (.goto 4, 3) := by decide +kernel
theorem dL_act_773 : decode cL_act 773 = .ok (.iconst 0, 1) := by decide +kernel
theorem dL_act_774 : decode cL_act 774 = .ok (.ireturn, 1) := by decide +kernel
theorem dL_act_775 : decode cL_act 775 = .ok (.aload 6, 2) := by decide +kernel
theorem dL_act_777 : decode cL_act 777 = .ok (.getfield 75, 3) := by decide +kernel
theorem dL_act_780 : decode cL_act 780 = .ok (.ifCond .lt 11, 3) := by decide +kernel
theorem dL_act_783 : decode cL_act 783 = .ok (.iload_n 2, 1) := by decide +kernel
theorem dL_act_784 : decode cL_act 784 = .ok (.iconst 3, 1) := by decide +kernel
theorem dL_act_785 : decode cL_act 785 = .ok (.invokestatic 15, 3) := by decide +kernel
theorem dL_act_788 : decode cL_act 788 = .ok (.ifCond .le 5, 3) := by decide +kernel
theorem dL_act_791 : decode cL_act 791 = .ok (.iconst 1, 1) := by decide +kernel
theorem dL_act_792 : decode cL_act 792 = .ok (.ireturn, 1) := by decide +kernel
theorem dL_act_793 : decode cL_act 793 = .ok (.aload 6, 2) := by decide +kernel
theorem dL_act_795 : decode cL_act 795 = .ok (.getfield 78, 3) := by decide +kernel
theorem dL_act_798 : decode cL_act 798 = .ok (.istore 16, 2) := by decide +kernel
theorem dL_act_800 : decode cL_act 800 = .ok (.aload 6, 2) := by decide +kernel
theorem dL_act_802 : decode cL_act 802 = .ok (.invokevirtual 42, 3) := by decide +kernel
theorem dL_act_805 : decode cL_act 805 = .ok (.aload_n 0, 1) := by decide +kernel
theorem dL_act_806 : decode cL_act 806 = .ok (.iload 5, 2) := by decide +kernel
theorem dL_act_808 : decode cL_act 808 = .ok (.invokevirtual 85, 3) := by decide +kernel
theorem dL_act_811 : decode cL_act 811 = .ok (.iload 16, 2) := by decide +kernel
theorem dL_act_813 : decode cL_act 813 = .ok (.if_icmp .ne 7, 3) := by decide +kernel
theorem dL_act_816 : decode cL_act 816 = .ok (.iconst 1, 1) := by decide +kernel
theorem dL_act_817 : decode cL_act 817 = .ok (.goto 4, 3) := by decide +kernel
theorem dL_act_820 : decode cL_act 820 = .ok (.iconst 0, 1) := by decide +kernel
theorem dL_act_821 : decode cL_act 821 = .ok (.ireturn, 1) := by decide +kernel
theorem dL_act_822 : decode cL_act 822 = .ok (.iconst 1, 1) := by decide +kernel
theorem dL_act_823 : decode cL_act 823 = .ok (.iload_n 2, 1) := by decide +kernel
theorem dL_act_824 : decode cL_act 824 = .ok (.iconst 2, 1) := by decide +kernel
theorem dL_act_825 : decode cL_act 825 = .ok (.ishr, 1) := by decide +kernel
theorem dL_act_826 : decode cL_act 826 = .ok (.iload_n 2, 1) := by decide +kernel
theorem dL_act_827 : decode cL_act 827 = .ok (.iconst 4, 1) := by decide +kernel
theorem dL_act_828 : decode cL_act 828 = .ok (.invokestatic 15, 3) := by decide +kernel
theorem dL_act_831 : decode cL_act 831 = .ok (.ifCond .ne 8, 3) := by decide +kernel
theorem dL_act_834 : decode cL_act 834 = .ok (.bipush 100, 2) := by decide +kernel
theorem dL_act_836 : decode cL_act 836 = .ok (.goto 4, 3) := by decide +kernel
theorem dL_act_839 : decode cL_act 839 = .ok (.iconst 4, 1) := by decide +kernel
theorem dL_act_840 : decode cL_act 840 = .ok (.invokestatic 15, 3) := by decide +kernel
theorem dL_act_843 : decode cL_act 843 = .ok (.iadd, 1) := by decide +kernel
theorem dL_act_844 : decode cL_act 844 = .ok (.istore 17, 2) := by decide +kernel
theorem dL_act_846 : decode cL_act 846 = .ok (.iconst 0, 1) := by decide +kernel
theorem dL_act_847 : decode cL_act 847 = .ok (.istore 18, 2) := by decide +kernel
theorem dL_act_849 : decode cL_act 849 = .ok (.iload 18, 2) := by decide +kernel
theorem dL_act_851 : decode cL_act 851 = .ok (.iload 17, 2) := by decide +kernel
theorem dL_act_853 : decode cL_act 853 = .ok (.if_icmp .ge 13, 3) := by decide +kernel
theorem dL_act_856 : decode cL_act 856 = .ok (.aload_n 1, 1) := by decide +kernel
theorem dL_act_857 : decode cL_act 857 = .ok (.invokevirtual 88, 3) := by decide +kernel
theorem dL_act_860 : decode cL_act 860 = .ok (.iinc 18 1, 3) := by decide +kernel
theorem dL_act_863 : decode cL_act 863 = .ok (.goto (-14), 3) := by decide +kernel
theorem dL_act_866 : decode cL_act 866 = .ok (.aload_n 0, 1) := by decide +kernel
theorem dL_act_867 : decode cL_act 867 = .ok (.iload 17, 2) := by decide +kernel
theorem dL_act_869 : decode cL_act 869 = .ok (.invokevirtual 91, 3) := by decide +kernel
theorem dL_act_872 : decode cL_act 872 = .ok (.aload_n 1, 1) := by decide +kernel
theorem dL_act_873 : decode cL_act 873 = .ok (.invokevirtual 94, 3) := by decide +kernel
theorem dL_act_876 : decode cL_act 876 = .ok (.if_icmp .ne 7, 3) := by decide +kernel
theorem dL_act_879 : decode cL_act 879 = .ok (.iconst 1, 1) := by decide +kernel
theorem dL_act_880 : decode cL_act 880 = .ok (.goto 4, 3) := by decide +kernel
theorem dL_act_883 : decode cL_act 883 = .ok (.iconst 0, 1) := by decide +kernel
theorem dL_act_884 : decode cL_act 884 = .ok (.ireturn, 1) := by decide +kernel
theorem dL_build_0 : decode cL_build 0 = .ok (.new 10, 3) := by decide +kernel
theorem dL_build_3 : decode cL_build 3 = .ok (.dup, 1) := by decide +kernel
theorem dL_build_4 : decode cL_build 4 = .ok (.invokespecial 98, 3) := by decide +kernel
theorem dL_build_7 : decode cL_build 7 = .ok (.astore_n 2, 1) := by decide +kernel
theorem dL_build_8 : decode cL_build 8 = .ok (.bipush 20, 2) := by decide +kernel
theorem dL_build_10 : decode cL_build 10 = .ok (.aload_n 1, 1) := by decide +kernel
theorem dL_build_11 : decode cL_build 11 = .ok (.iconst 0, 1) := by decide +kernel
theorem dL_build_12 : decode cL_build 12 = .ok (.invokestatic 99, 3) := by decide +kernel
theorem dL_build_15 : decode cL_build 15 = .ok (.bipush 40, 2) := by decide +kernel
theorem dL_build_17 : decode cL_build 17 = .ok (.invokestatic 15, 3) := by decide +kernel
theorem dL_build_20 : decode cL_build 20 = .ok (.iadd, 1) := by decide +kernel
theorem dL_build_21 : decode cL_build 21 = .ok (.istore_n 3, 1) := by decide +kernel
theorem dL_build_22 : decode cL_build 22 = .ok (.iconst 0, 1) := by decide +kernel
theorem dL_build_23 : decode cL_build 23 = .ok (.istore 4, 2) := by decide +kernel
theorem dL_build_25 : decode cL_build 25 = .ok (.iload 4, 2) := by decide +kernel
theorem dL_build_27 : decode cL_build 27 = .ok (.iload_n 3, 1) := by decide +kernel
theorem dL_build_28 : decode cL_build 28 = .ok (.if_icmp .ge 43, 3) := by decide +kernel
theorem dL_build_31 : decode cL_build 31 = .ok (.aload_n 0, 1) := by decide +kernel
theorem dL_build_32 : decode cL_build 32 = .ok (.aload_n 2, 1) := by decide +kernel
theorem dL_build_33 : decode cL_build 33 = .ok (.aload_n 1, 1) := by decide +kernel
theorem dL_build_34 : decode cL_build 34 = .ok (.iload 4, 2) := by decide +kernel
theorem dL_build_36 : decode cL_build 36 = .ok (.bipush 16, 2) := by decide +kernel
theorem dL_build_38 : decode cL_build 38 = .ok (.irem, 1) := by decide +kernel
theorem dL_build_39 : decode cL_build 39 = .ok (.invokestatic 99, 3) := by decide +kernel
theorem dL_build_42 : decode cL_build 42 = .ok (.iload 4, 2) := by decide +kernel
theorem dL_build_44 : decode cL_build 44 = .ok (.bipush 16, 2) := by decide +kernel
theorem dL_build_46 : decode cL_build 46 = .ok (.idiv, 1) := by decide +kernel
theorem dL_build_47 : decode cL_build 47 = .ok (.iconst 3, 1) := by decide +kernel
theorem dL_build_48 : decode cL_build 48 = .ok (.imul, 1) := by decide +kernel
theorem dL_build_49 : decode cL_build 49 = .ok (.ishr, 1) := by decide +kernel
theorem dL_build_50 : decode cL_build 50 = .ok (.sipush 521, 3) := by decide +kernel
theorem dL_build_53 : decode cL_build 53 = .ok (.iload 4, 2) := by decide +kernel
theorem dL_build_55 : decode cL_build 55 = .ok (.imul, 1) := by decide +kernel
theorem dL_build_56 : decode cL_build 56 = .ok (.iadd, 1) := by decide +kernel
theorem dL_build_57 : decode cL_build 57 = .ok (.invokestatic 103, 3) := by decide +kernel
theorem dL_build_60 : decode cL_build 60 = .ok (.ifCond .ne 5, 3) := by decide +kernel
theorem dL_build_63 : decode cL_build 63 = .ok (.aconst_null, 1) := by decide +kernel
theorem dL_build_64 : decode cL_build 64 = .ok (.areturn, 1) := by decide +kernel
theorem dL_build_65 : decode cL_build 65 = .ok (.iinc 4 1, 3) := by decide +kernel
theorem dL_build_68 : decode cL_build 68 = .ok (.goto (-43), 3) := by decide +kernel
theorem dL_build_71 : decode cL_build 71 = .ok (.aload_n 2, 1) := by decide +kernel
theorem dL_build_72 : decode cL_build 72 = .ok (.areturn, 1) := by decide +kernel
theorem dL_law_0 : decode cL_law 0 = .ok (.new 29, 3) := by decide +kernel
theorem dL_law_3 : decode cL_law 3 = .ok (.dup, 1) := by decide +kernel
theorem dL_law_4 : decode cL_law 4 = .ok (.invokespecial 107, 3) := by decide +kernel
theorem dL_law_7 : decode cL_law 7 = .ok (.astore_n 1, 1) := by decide +kernel
theorem dL_law_8 : decode cL_law 8 = .ok (.aload_n 1, 1) := by decide +kernel
theorem dL_law_9 : decode cL_law 9 = .ok (.aload_n 0, 1) := by decide +kernel
theorem dL_law_10 : decode cL_law 10 = .ok (.invokestatic 108, 3) := by decide +kernel
theorem dL_law_13 : decode cL_law 13 = .ok (.astore_n 2, 1) := by decide +kernel
theorem dL_law_14 : decode cL_law 14 = .ok (.aload_n 2, 1) := by decide +kernel
theorem dL_law_15 : decode cL_law 15 = .ok (.ifnonnull 5, 3) := by decide +kernel
theorem dL_law_18 : decode cL_law 18 = .ok (.iconst 0, 1) := by decide +kernel
theorem dL_law_19 : decode cL_law 19 = .ok (.ireturn, 1) := by decide +kernel
theorem dL_law_20 : decode cL_law 20 = .ok (.iconst 0, 1) := by decide +kernel
theorem dL_law_21 : decode cL_law 21 = .ok (.istore_n 3, 1) := by decide +kernel
theorem dL_law_22 : decode cL_law 22 = .ok (.iload_n 3, 1) := by decide +kernel
theorem dL_law_23 : decode cL_law 23 = .ok (.bipush 8, 2) := by decide +kernel
theorem dL_law_25 : decode cL_law 25 = .ok (.if_icmp .ge 811, 3) := by decide +kernel
theorem dL_law_28 : decode cL_law 28 = .ok (.aload_n 0, 1) := by decide +kernel
theorem dL_law_29 : decode cL_law 29 = .ok (.iload_n 3, 1) := by decide +kernel
theorem dL_law_30 : decode cL_law 30 = .ok (.invokestatic 99, 3) := by decide +kernel
theorem dL_law_33 : decode cL_law 33 = .ok (.sipush 521, 3) := by decide +kernel
theorem dL_law_36 : decode cL_law 36 = .ok (.iload_n 3, 1) := by decide +kernel
theorem dL_law_37 : decode cL_law 37 = .ok (.imul, 1) := by decide +kernel
theorem dL_law_38 : decode cL_law 38 = .ok (.iadd, 1) := by decide +kernel
theorem dL_law_39 : decode cL_law 39 = .ok (.istore 4, 2) := by decide +kernel
theorem dL_law_41 : decode cL_law 41 = .ok (.iconst 0, 1) := by decide +kernel
theorem dL_law_42 : decode cL_law 42 = .ok (.istore 5, 2) := by decide +kernel
theorem dL_law_44 : decode cL_law 44 = .ok (.iload 5, 2) := by decide +kernel
theorem dL_law_46 : decode cL_law 46 = .ok (.iconst 2, 1) := by decide +kernel
theorem dL_law_47 : decode cL_law 47 = .ok (.if_icmp .ge 33, 3) := by decide +kernel
theorem dL_law_50 : decode cL_law 50 = .ok (.aload_n 1, 1) := by decide +kernel
theorem dL_law_51 : decode cL_law 51 = .ok (.aload_n 2, 1) := by decide +kernel
theorem dL_law_52 : decode cL_law 52 = .ok (.iload 4, 2) := by decide +kernel
theorem dL_law_54 : decode cL_law 54 = .ok (.iconst 2, 1) := by decide +kernel
theorem dL_law_55 : decode cL_law 55 = .ok (.iload 5, 2) := by decide +kernel
theorem dL_law_57 : decode cL_law 57 = .ok (.imul, 1) := by decide +kernel
theorem dL_law_58 : decode cL_law 58 = .ok (.ishr, 1) := by decide +kernel
theorem dL_law_59 : decode cL_law 59 = .ok (.sipush 401, 3) := by decide +kernel
theorem dL_law_62 : decode cL_law 62 = .ok (.iload 5, 2) := by decide +kernel
theorem dL_law_64 : decode cL_law 64 = .ok (.imul, 1) := by decide +kernel
theorem dL_law_65 : decode cL_law 65 = .ok (.iadd, 1) := by decide +kernel
theorem dL_law_66 : decode cL_law 66 = .ok (.invokestatic 103, 3) := by decide +kernel
theorem dL_law_69 : decode cL_law 69 = .ok (.ifCond .ne 5, 3) := by decide +kernel
theorem dL_law_72 : decode cL_law 72 = .ok (.iconst 0, 1) := by decide +kernel
theorem dL_law_73 : decode cL_law 73 = .ok (.ireturn, 1) := by decide +kernel
theorem dL_law_74 : decode cL_law 74 = .ok (.iinc 5 1, 3) := by decide +kernel
theorem dL_law_77 : decode cL_law 77 = .ok (.goto (-33), 3) := by decide +kernel
theorem dL_law_80 : decode cL_law 80 = .ok (.aload_n 1, 1) := by decide +kernel
theorem dL_law_81 : decode cL_law 81 = .ok (.invokevirtual 112, 3) := by decide +kernel
theorem dL_law_84 : decode cL_law 84 = .ok (.istore 5, 2) := by decide +kernel
theorem dL_law_86 : decode cL_law 86 = .ok (.iconst 0, 1) := by decide +kernel
theorem dL_law_87 : decode cL_law 87 = .ok (.istore 6, 2) := by decide +kernel
theorem dL_law_89 : decode cL_law 89 = .ok (.iconst 0, 1) := by decide +kernel
theorem dL_law_90 : decode cL_law 90 = .ok (.istore 7, 2) := by decide +kernel
theorem dL_law_92 : decode cL_law 92 = .ok (.iconst 0, 1) := by decide +kernel
theorem dL_law_93 : decode cL_law 93 = .ok (.istore 8, 2) := by decide +kernel
theorem dL_law_95 : decode cL_law 95 = .ok (.iload 8, 2) := by decide +kernel
theorem dL_law_97 : decode cL_law 97 = .ok (.iload 5, 2) := by decide +kernel
theorem dL_law_99 : decode cL_law 99 = .ok (.if_icmp .ge 586, 3) := by decide +kernel
theorem dL_law_102 : decode cL_law 102 = .ok (.iconst 1, 1) := by decide +kernel
theorem dL_law_103 : decode cL_law 103 = .ok (.iload 4, 2) := by decide +kernel
theorem dL_law_105 : decode cL_law 105 = .ok (.iconst 2, 1) := by decide +kernel
theorem dL_law_106 : decode cL_law 106 = .ok (.ishr, 1) := by decide +kernel
theorem dL_law_107 : decode cL_law 107 = .ok (.bipush 37, 2) := by decide +kernel
theorem dL_law_109 : decode cL_law 109 = .ok (.iload 8, 2) := by decide +kernel
theorem dL_law_111 : decode cL_law 111 = .ok (.imul, 1) := by decide +kernel
theorem dL_law_112 : decode cL_law 112 = .ok (.iadd, 1) := by decide +kernel
theorem dL_law_113 : decode cL_law 113 = .ok (.sipush 1000, 3) := by decide +kernel
theorem dL_law_116 : decode cL_law 116 = .ok (.invokestatic 15, 3) := by decide +kernel
theorem dL_law_119 : decode cL_law 119 = .ok (.iadd, 1) := by decide +kernel
theorem dL_law_120 : decode cL_law 120 = .ok (.istore 9, 2) := by decide +kernel
theorem dL_law_122 : decode cL_law 122 = .ok (.aload_n 1, 1) := by decide +kernel
theorem dL_law_123 : decode cL_law 123 = .ok (.iload 8, 2) := by decide +kernel
theorem dL_law_125 : decode cL_law 125 = .ok (.invokevirtual 114, 3) := by decide +kernel
theorem dL_law_128 : decode cL_law 128 = .ok (.istore 10, 2) := by decide +kernel
theorem dL_law_130 : decode cL_law 130 = .ok (.aload_n 1, 1) := by decide +kernel
theorem dL_law_131 : decode cL_law 131 = .ok (.iload 8, 2) := by decide +kernel
theorem dL_law_133 : decode cL_law 133 = .ok (.invokevirtual 117, 3) := by decide +kernel
theorem dL_law_136 : decode cL_law 136 = .ok (.istore 11, 2) := by decide +kernel
theorem dL_law_138 : decode cL_law 138 = .ok (.iload 10, 2) := by decide +kernel
theorem dL_law_140 : decode cL_law 140 = .ok (.ifCond .lt 67, 3) := by decide +kernel
theorem dL_law_143 : decode cL_law 143 = .ok (.iload 10, 2) := by decide +kernel
theorem dL_law_145 : decode cL_law 145 = .ok (.bipush 100, 2) := by decide +kernel
theorem dL_law_147 : decode cL_law 147 = .ok (.if_icmp .gt 60, 3) := by decide +kernel
theorem dL_law_150 : decode cL_law 150 = .ok (.iload 11, 2) := by decide +kernel
theorem dL_law_152 : decode cL_law 152 = .ok (.ifCond .lt 55, 3) := by decide +kernel
theorem dL_law_155 : decode cL_law 155 = .ok (.iload 11, 2) := by decide +kernel
theorem dL_law_157 : decode cL_law 157 = .ok (.bipush 90, 2) := by decide +kernel
theorem dL_law_159 : decode cL_law 159 = .ok (.if_icmp .gt 48, 3) := by decide +kernel
theorem dL_law_162 : decode cL_law 162 = .ok (.aload_n 1, 1) := by decide +kernel
theorem dL_law_163 : decode cL_law 163 = .ok (.iload 8, 2) := by decide +kernel
theorem dL_law_165 : decode cL_law 165 = .ok (.invokevirtual 120, 3) := by decide +kernel
theorem dL_law_168 : decode cL_law 168 = .ok (.bipush 6, 2) := by decide +kernel
theorem dL_law_170 : decode cL_law 170 = .ok (.if_icmp .gt 37, 3) := by decide +kernel
theorem dL_law_173 : decode cL_law 173 = .ok (.aload_n 1, 1) := by decide +kernel
theorem dL_law_174 : decode cL_law 174 = .ok (.iload 8, 2) := by decide +kernel
theorem dL_law_176 : decode cL_law 176 = .ok (.invokevirtual 123, 3) := by decide +kernel
theorem dL_law_179 : decode cL_law 179 = .ok (.aload_n 1, 1) := by decide +kernel
theorem dL_law_180 : decode cL_law 180 = .ok (.iload 8, 2) := by decide +kernel
theorem dL_law_182 : decode cL_law 182 = .ok (.invokevirtual 127, 3) := by decide +kernel
theorem dL_law_185 : decode cL_law 185 = .ok (.ifCond .le 7, 3) := by decide +kernel
theorem dL_law_188 : decode cL_law 188 = .ok (.iconst 1, 1) := by decide +kernel
theorem dL_law_189 : decode cL_law 189 = .ok (.goto 4, 3) := by decide +kernel
theorem dL_law_192 : decode cL_law 192 = .ok (.iconst 0, 1) := by decide +kernel
theorem dL_law_193 : decode cL_law 193 = .ok (.if_icmp .ne 14, 3) := by decide +kernel
theorem dL_law_196 : decode cL_law 196 = .ok (.aload_n 1, 1) := by decide +kernel
theorem dL_law_197 : decode cL_law 197 = .ok (.iload 8, 2) := by decide +kernel
theorem dL_law_199 : decode cL_law 199 = .ok (.invokevirtual 127, 3) := by decide +kernel
theorem dL_law_202 : decode cL_law 202 = .ok (.bipush 100, 2) := by decide +kernel
theorem dL_law_204 : decode cL_law 204 = .ok (.if_icmp .le 5, 3) := by decide +kernel
theorem dL_law_207 : decode cL_law 207 = .ok (.iconst 0, 1) := by decide +kernel
theorem dL_law_208 : decode cL_law 208 = .ok (.ireturn, 1) := by decide +kernel
theorem dL_law_209 : decode cL_law 209 = .ok (.iload 6, 2) := by decide +kernel
theorem dL_law_211 : decode cL_law 211 = .ok (.aload_n 1, 1) := by decide +kernel
theorem dL_law_212 : decode cL_law 212 = .ok (.iload 8, 2) := by decide +kernel
theorem dL_law_214 : decode cL_law 214 = .ok (.invokevirtual 123, 3) := by decide +kernel
theorem dL_law_217 : decode cL_law 217 = .ok (.ifCond .eq 7, 3) := by decide +kernel
theorem dL_law_220 : decode cL_law 220 = .ok (.iconst 1, 1) := by decide +kernel
theorem dL_law_221 : decode cL_law 221 = .ok (.goto 4, 3) := by decide +kernel
theorem dL_law_224 : decode cL_law 224 = .ok (.iconst 0, 1) := by decide +kernel
theorem dL_law_225 : decode cL_law 225 = .ok (.iadd, 1) := by decide +kernel
theorem dL_law_226 : decode cL_law 226 = .ok (.istore 6, 2) := by decide +kernel
theorem dL_law_228 : decode cL_law 228 = .ok (.iload 7, 2) := by decide +kernel
theorem dL_law_230 : decode cL_law 230 = .ok (.iload 11, 2) := by decide +kernel
theorem dL_law_232 : decode cL_law 232 = .ok (.iadd, 1) := by decide +kernel
theorem dL_law_233 : decode cL_law 233 = .ok (.istore 7, 2) := by decide +kernel
theorem dL_law_235 : decode cL_law 235 = .ok (.new 29, 3) := by decide +kernel
theorem dL_law_238 : decode cL_law 238 = .ok (.dup, 1) := by decide +kernel
theorem dL_law_239 : decode cL_law 239 = .ok (.invokespecial 107, 3) := by decide +kernel
theorem dL_law_242 : decode cL_law 242 = .ok (.astore 12, 2) := by decide +kernel
theorem dL_law_244 : decode cL_law 244 = .ok (.aload_n 1, 1) := by decide +kernel
theorem dL_law_245 : decode cL_law 245 = .ok (.iload 8, 2) := by decide +kernel
theorem dL_law_247 : decode cL_law 247 = .ok (.invokevirtual 120, 3) := by decide +kernel
theorem dL_law_250 : decode cL_law 250 = .ok (.istore 13, 2) := by decide +kernel
theorem dL_law_252 : decode cL_law 252 = .ok (.iconst 0, 1) := by decide +kernel
theorem dL_law_253 : decode cL_law 253 = .ok (.istore 14, 2) := by decide +kernel
theorem dL_law_255 : decode cL_law 255 = .ok (.iconst 0, 1) := by decide +kernel
theorem dL_law_256 : decode cL_law 256 = .ok (.istore 15, 2) := by decide +kernel
theorem dL_law_258 : decode cL_law 258 = .ok (.iconst (-1), 1) := by decide +kernel
theorem dL_law_259 : decode cL_law 259 = .ok (.istore 16, 2) := by decide +kernel
theorem dL_law_261 : decode cL_law 261 = .ok (.iconst (-1), 1) := by decide +kernel
theorem dL_law_262 : decode cL_law 262 = .ok (.istore 17, 2) := by decide +kernel
theorem dL_law_264 : decode cL_law 264 = .ok (.iconst 0, 1) := by decide +kernel
theorem dL_law_265 : decode cL_law 265 = .ok (.istore 18, 2) := by decide +kernel
theorem dL_law_267 : decode cL_law 267 = .ok (.bipush 6, 2) := by decide +kernel
theorem dL_law_269 : decode cL_law 269 = .ok (.iconst 1, 1) := by decide +kernel
theorem dL_law_270 : decode cL_law 270 = .ok (.iload 4, 2) := by decide +kernel
theorem dL_law_272 : decode cL_law 272 = .ok (.iconst 5, 1) := by decide +kernel
theorem dL_law_273 : decode cL_law 273 = .ok (.ishr, 1) := by decide +kernel
theorem dL_law_274 : decode cL_law 274 = .ok (.sipush 500, 3) := by decide +kernel
theorem dL_law_277 : decode cL_law 277 = .ok (.invokestatic 15, 3) := by decide +kernel
theorem dL_law_280 : decode cL_law 280 = .ok (.iadd, 1) := by decide +kernel
theorem dL_law_281 : decode cL_law 281 = .ok (.imul, 1) := by decide +kernel
theorem dL_law_282 : decode cL_law 282 = .ok (.istore 19, 2) := by decide +kernel
theorem dL_law_284 : decode cL_law 284 = .ok (.iload 19, 2) := by decide +kernel
theorem dL_law_286 : decode cL_law 286 = .ok (.sipush 3000, 3) := by decide +kernel
theorem dL_law_289 : decode cL_law 289 = .ok (.if_icmp .le 8, 3) := by decide +kernel
theorem dL_law_292 : decode cL_law 292 = .ok (.sipush 3000, 3) := by decide +kernel
theorem dL_law_295 : decode cL_law 295 = .ok (.istore 19, 2) := by decide +kernel
theorem dL_law_297 : decode cL_law 297 = .ok (.iconst 0, 1) := by decide +kernel
theorem dL_law_298 : decode cL_law 298 = .ok (.istore 20, 2) := by decide +kernel
theorem dL_law_300 : decode cL_law 300 = .ok (.iload 20, 2) := by decide +kernel
theorem dL_law_302 : decode cL_law 302 = .ok (.iload 13, 2) := by decide +kernel
theorem dL_law_304 : decode cL_law 304 = .ok (.if_icmp .ge 221, 3) := by decide +kernel
theorem dL_law_307 : decode cL_law 307 = .ok (.aload 12, 2) := by decide +kernel
theorem dL_law_309 : decode cL_law 309 = .ok (.iload 11, 2) := by decide +kernel
theorem dL_law_311 : decode cL_law 311 = .ok (.invokevirtual 28, 3) := by decide +kernel
theorem dL_law_314 : decode cL_law 314 = .ok (.pop, 1) := by decide +kernel
theorem dL_law_315 : decode cL_law 315 = .ok (.aload 12, 2) := by decide +kernel
theorem dL_law_317 : decode cL_law 317 = .ok (.iload 20, 2) := by decide +kernel
theorem dL_law_319 : decode cL_law 319 = .ok (.aload_n 1, 1) := by decide +kernel
theorem dL_law_320 : decode cL_law 320 = .ok (.iload 8, 2) := by decide +kernel
theorem dL_law_322 : decode cL_law 322 = .ok (.iload 20, 2) := by decide +kernel
theorem dL_law_324 : decode cL_law 324 = .ok (.invokevirtual 130, 3) := by decide +kernel
theorem dL_law_327 : decode cL_law 327 = .ok (.aload_n 1, 1) := by decide +kernel
theorem dL_law_328 : decode cL_law 328 = .ok (.iload 8, 2) := by decide +kernel
theorem dL_law_330 : decode cL_law 330 = .ok (.iload 20, 2) := by decide +kernel
theorem dL_law_332 : decode cL_law 332 = .ok (.invokevirtual 133, 3) := by decide +kernel
theorem dL_law_335 : decode cL_law 335 = .ok (.invokevirtual 45, 3) := by decide +kernel
theorem dL_law_338 : decode cL_law 338 = .ok (.ifCond .eq 5, 3) := by decide +kernel
theorem dL_law_341 : decode cL_law 341 = .ok (.iconst 0, 1) := by decide +kernel
theorem dL_law_342 : decode cL_law 342 = .ok (.ireturn, 1) := by decide +kernel
theorem dL_law_343 : decode cL_law 343 = .ok (.iload 14, 2) := by decide +kernel
theorem dL_law_345 : decode cL_law 345 = .ok (.aload 12, 2) := by decide +kernel
theorem dL_law_347 : decode cL_law 347 = .ok (.iload 20, 2) := by decide +kernel
theorem dL_law_349 : decode cL_law 349 = .ok (.iload 9, 2) := by decide +kernel
theorem dL_law_351 : decode cL_law 351 = .ok (.invokevirtual 136, 3) := by decide +kernel
theorem dL_law_354 : decode cL_law 354 = .ok (.iadd, 1) := by decide +kernel
theorem dL_law_355 : decode cL_law 355 = .ok (.istore 14, 2) := by decide +kernel
theorem dL_law_357 : decode cL_law 357 = .ok (.iload 15, 2) := by decide +kernel
theorem dL_law_359 : decode cL_law 359 = .ok (.aload 12, 2) := by decide +kernel
theorem dL_law_361 : decode cL_law 361 = .ok (.iload 20, 2) := by decide +kernel
theorem dL_law_363 : decode cL_law 363 = .ok (.iload 9, 2) := by decide +kernel
theorem dL_law_365 : decode cL_law 365 = .ok (.iconst 1, 1) := by decide +kernel
theorem dL_law_366 : decode cL_law 366 = .ok (.iload 9, 2) := by decide +kernel
theorem dL_law_368 : decode cL_law 368 = .ok (.iconst 2, 1) := by decide +kernel
theorem dL_law_369 : decode cL_law 369 = .ok (.idiv, 1) := by decide +kernel
theorem dL_law_370 : decode cL_law 370 = .ok (.iadd, 1) := by decide +kernel
theorem dL_law_371 : decode cL_law 371 = .ok (.invokevirtual 139, 3) := by decide +kernel
theorem dL_law_374 : decode cL_law 374 = .ok (.iadd, 1) := by decide +kernel
theorem dL_law_375 : decode cL_law 375 = .ok (.istore 15, 2) := by decide +kernel
theorem dL_law_377 : decode cL_law 377 = .ok (.iload 18, 2) := by decide +kernel
theorem dL_law_379 : decode cL_law 379 = .ok (.aload 12, 2) := by decide +kernel
theorem dL_law_381 : decode cL_law 381 = .ok (.iload 20, 2) := by decide +kernel
theorem dL_law_383 : decode cL_law 383 = .ok (.iload 9, 2) := by decide +kernel
theorem dL_law_385 : decode cL_law 385 = .ok (.iload 19, 2) := by decide +kernel
theorem dL_law_387 : decode cL_law 387 = .ok (.invokevirtual 142, 3) := by decide +kernel
theorem dL_law_390 : decode cL_law 390 = .ok (.iadd, 1) := by decide +kernel
theorem dL_law_391 : decode cL_law 391 = .ok (.istore 18, 2) := by decide +kernel
theorem dL_law_393 : decode cL_law 393 = .ok (.aload 12, 2) := by decide +kernel
theorem dL_law_395 : decode cL_law 395 = .ok (.iload 20, 2) := by decide +kernel
theorem dL_law_397 : decode cL_law 397 = .ok (.iload 9, 2) := by decide +kernel
theorem dL_law_399 : decode cL_law 399 = .ok (.invokevirtual 145, 3) := by decide +kernel
theorem dL_law_402 : decode cL_law 402 = .ok (.ifCond .lt 33, 3) := by decide +kernel
theorem dL_law_405 : decode cL_law 405 = .ok (.iload 16, 2) := by decide +kernel
theorem dL_law_407 : decode cL_law 407 = .ok (.ifCond .lt 17, 3) := by decide +kernel
theorem dL_law_410 : decode cL_law 410 = .ok (.aload 12, 2) := by decide +kernel
theorem dL_law_412 : decode cL_law 412 = .ok (.iload 20, 2) := by decide +kernel
theorem dL_law_414 : decode cL_law 414 = .ok (.iload 9, 2) := by decide +kernel
theorem dL_law_416 : decode cL_law 416 = .ok (.invokevirtual 145, 3) := by decide +kernel
theorem dL_law_419 : decode cL_law 419 = .ok (.iload 16, 2) := by decide +kernel
theorem dL_law_421 : decode cL_law 421 = .ok (.if_icmp .ge 14, 3) := by decide +kernel
theorem dL_law_424 : decode cL_law 424 = .ok (.aload 12, 2) := by decide +kernel
theorem dL_law_426 : decode cL_law 426 = .ok (.iload 20, 2) := by decide +kernel
theorem dL_law_428 : decode cL_law 428 = .ok (.iload 9, 2) := by decide +kernel
theorem dL_law_430 : decode cL_law 430 = .ok (.invokevirtual 145, 3) := by decide +kernel
theorem dL_law_433 : decode cL_law 433 = .ok (.istore 16, 2) := by decide +kernel
theorem dL_law_435 : decode cL_law 435 = .ok (.iload 17, 2) := by decide +kernel
theorem dL_law_437 : decode cL_law 437 = .ok (.aload 12, 2) := by decide +kernel
theorem dL_law_439 : decode cL_law 439 = .ok (.iload 20, 2) := by decide +kernel
theorem dL_law_441 : decode cL_law 441 = .ok (.iload 9, 2) := by decide +kernel
theorem dL_law_443 : decode cL_law 443 = .ok (.invokevirtual 148, 3) := by decide +kernel
theorem dL_law_446 : decode cL_law 446 = .ok (.invokestatic 151, 3) := by decide +kernel
theorem dL_law_449 : decode cL_law 449 = .ok (.istore 17, 2) := by decide +kernel
theorem dL_law_451 : decode cL_law 451 = .ok (.aload_n 1, 1) := by decide +kernel
theorem dL_law_452 : decode cL_law 452 = .ok (.iload 8, 2) := by decide +kernel
theorem dL_law_454 : decode cL_law 454 = .ok (.iload 20, 2) := by decide +kernel
theorem dL_law_456 : decode cL_law 456 = .ok (.invokevirtual 133, 3) := by decide +kernel
theorem dL_law_459 : decode cL_law 459 = .ok (.aload_n 2, 1) := by decide +kernel
theorem dL_law_460 : decode cL_law 460 = .ok (.getfield 9, 3) := by decide +kernel
theorem dL_law_463 : decode cL_law 463 = .ok (.iload 8, 2) := by decide +kernel
theorem dL_law_465 : decode cL_law 465 = .ok (.aaload, 1) := by decide +kernel
theorem dL_law_466 : decode cL_law 466 = .ok (.getfield 34, 3) := by decide +kernel
theorem dL_law_469 : decode cL_law 469 = .ok (.iload 20, 2) := by decide +kernel
theorem dL_law_471 : decode cL_law 471 = .ok (.aaload, 1) := by decide +kernel
theorem dL_law_472 : decode cL_law 472 = .ok (.iconst 1, 1) := by decide +kernel
theorem dL_law_473 : decode cL_law 473 = .ok (.iaload, 1) := by decide +kernel
theorem dL_law_474 : decode cL_law 474 = .ok (.if_icmp .gt 43, 3) := by decide +kernel
theorem dL_law_477 : decode cL_law 477 = .ok (.aload_n 1, 1) := by decide +kernel
theorem dL_law_478 : decode cL_law 478 = .ok (.iload 8, 2) := by decide +kernel
theorem dL_law_480 : decode cL_law 480 = .ok (.iload 20, 2) := by decide +kernel
theorem dL_law_482 : decode cL_law 482 = .ok (.invokevirtual 133, 3) := by decide +kernel
theorem dL_law_485 : decode cL_law 485 = .ok (.aload_n 2, 1) := by decide +kernel
theorem dL_law_486 : decode cL_law 486 = .ok (.getfield 9, 3) := by decide +kernel
theorem dL_law_489 : decode cL_law 489 = .ok (.iload 8, 2) := by decide +kernel
theorem dL_law_491 : decode cL_law 491 = .ok (.aaload, 1) := by decide +kernel
theorem dL_law_492 : decode cL_law 492 = .ok (.getfield 34, 3) := by decide +kernel
theorem dL_law_495 : decode cL_law 495 = .ok (.iload 20, 2) := by decide +kernel
theorem dL_law_497 : decode cL_law 497 = .ok (.aaload, 1) := by decide +kernel
theorem dL_law_498 : decode cL_law 498 = .ok (.iconst 1, 1) := by decide +kernel
theorem dL_law_499 : decode cL_law 499 = .ok (.iaload, 1) := by decide +kernel
theorem dL_law_500 : decode cL_law 500 = .ok (.bipush 20, 2) := by decide +kernel
theorem dL_law_502 : decode cL_law 502 = .ok (.isub, 1) := by decide +kernel
theorem dL_law_503 : decode cL_law 503 = .ok (.if_icmp .lt 14, 3) := by decide +kernel
theorem dL_law_506 : decode cL_law 506 = .ok (.aload_n 1, 1) := by decide +kernel
theorem dL_law_507 : decode cL_law 507 = .ok (.iload 8, 2) := by decide +kernel
theorem dL_law_509 : decode cL_law 509 = .ok (.iload 20, 2) := by decide +kernel
theorem dL_law_511 : decode cL_law 511 = .ok (.invokevirtual 133, 3) := by decide +kernel
theorem dL_law_514 : decode cL_law 514 = .ok (.ifCond .ge 5, 3) := by decide +kernel
theorem dL_law_517 : decode cL_law 517 = .ok (.iconst 0, 1) := by decide +kernel
theorem dL_law_518 : decode cL_law 518 = .ok (.ireturn, 1) := by decide +kernel
theorem dL_law_519 : decode cL_law 519 = .ok (.iinc 20 1, 3) := by decide +kernel
theorem dL_law_522 : decode cL_law 522 = .ok (.goto (-222), 3) := by decide +kernel
theorem dL_law_525 : decode cL_law 525 = .ok (.aload_n 1, 1) := by decide +kernel
theorem dL_law_526 : decode cL_law 526 = .ok (.iload 8, 2) := by decide +kernel
theorem dL_law_528 : decode cL_law 528 = .ok (.iload 9, 2) := by decide +kernel
theorem dL_law_530 : decode cL_law 530 = .ok (.invokevirtual 136, 3) := by decide +kernel
theorem dL_law_533 : decode cL_law 533 = .ok (.iload 14, 2) := by decide +kernel
theorem dL_law_535 : decode cL_law 535 = .ok (.if_icmp .ne 77, 3) := by decide +kernel
theorem dL_law_538 : decode cL_law 538 = .ok (.aload_n 1, 1) := by decide +kernel
theorem dL_law_539 : decode cL_law 539 = .ok (.iload 8, 2) := by decide +kernel
theorem dL_law_541 : decode cL_law 541 = .ok (.iload 9, 2) := by decide +kernel
theorem dL_law_543 : decode cL_law 543 = .ok (.iconst 1, 1) := by decide +kernel
theorem dL_law_544 : decode cL_law 544 = .ok (.iload 9, 2) := by decide +kernel
theorem dL_law_546 : decode cL_law 546 = .ok (.iconst 2, 1) := by decide +kernel
theorem dL_law_547 : decode cL_law 547 = .ok (.idiv, 1) := by decide +kernel
theorem dL_law_548 : decode cL_law 548 = .ok (.iadd, 1) := by decide +kernel
theorem dL_law_549 : decode cL_law 549 = .ok (.invokevirtual 139, 3) := by decide +kernel
theorem dL_law_552 : decode cL_law 552 = .ok (.iload 15, 2) := by decide +kernel
theorem dL_law_554 : decode cL_law 554 = .ok (.if_icmp .ne 58, 3) := by decide +kernel
theorem dL_law_557 : decode cL_law 557 = .ok (.aload_n 1, 1) := by decide +kernel
theorem dL_law_558 : decode cL_law 558 = .ok (.iload 8, 2) := by decide +kernel
theorem dL_law_560 : decode cL_law 560 = .ok (.iload 9, 2) := by decide +kernel
theorem dL_law_562 : decode cL_law 562 = .ok (.invokevirtual 145, 3) := by decide +kernel
theorem dL_law_565 : decode cL_law 565 = .ok (.iload 16, 2) := by decide +kernel
theorem dL_law_567 : decode cL_law 567 = .ok (.if_icmp .ne 45, 3) := by decide +kernel
theorem dL_law_570 : decode cL_law 570 = .ok (.aload_n 1, 1) := by decide +kernel
theorem dL_law_571 : decode cL_law 571 = .ok (.iload 8, 2) := by decide +kernel
theorem dL_law_573 : decode cL_law 573 = .ok (.iload 9, 2) := by decide +kernel
theorem dL_law_575 : decode cL_law 575 = .ok (.invokevirtual 148, 3) := by decide +kernel
theorem dL_law_578 : decode cL_law 578 = .ok (.iload 17, 2) := by decide +kernel
theorem dL_law_580 : decode cL_law 580 = .ok (.if_icmp .ne 32, 3) := by decide +kernel
theorem dL_law_583 : decode cL_law 583 = .ok (.aload_n 1, 1) := by decide +kernel
theorem dL_law_584 : decode cL_law 584 = .ok (.iload 8, 2) := by decide +kernel
theorem dL_law_586 : decode cL_law 586 = .ok (.iload 9, 2) := by decide +kernel
theorem dL_law_588 : decode cL_law 588 = .ok (.iload 19, 2) := by decide +kernel
theorem dL_law_590 : decode cL_law 590 = .ok (.invokevirtual 142, 3) := by decide +kernel
theorem dL_law_593 : decode cL_law 593 = .ok (.iload 18, 2) := by decide +kernel
theorem dL_law_595 : decode cL_law 595 = .ok (.if_icmp .ne 17, 3) := by decide +kernel
theorem dL_law_598 : decode cL_law 598 = .ok (.aload_n 1, 1) := by decide +kernel
theorem dL_law_599 : decode cL_law 599 = .ok (.iload 8, 2) := by decide +kernel
theorem dL_law_601 : decode cL_law 601 = .ok (.iload 9, 2) := by decide +kernel
theorem dL_law_603 : decode cL_law 603 = .ok (.iconst 1, 1) := by decide +kernel
theorem dL_law_604 : decode cL_law 604 = .ok (.invokevirtual 139, 3) := by decide +kernel
theorem dL_law_607 : decode cL_law 607 = .ok (.iload 14, 2) := by decide +kernel
theorem dL_law_609 : decode cL_law 609 = .ok (.if_icmp .eq 5, 3) := by decide +kernel
theorem dL_law_612 : decode cL_law 612 = .ok (.iconst 0, 1) := by decide +kernel
theorem dL_law_613 : decode cL_law 613 = .ok (.ireturn, 1) := by decide +kernel
theorem dL_law_614 : decode cL_law 614 = .ok (.aload_n 1, 1) := by decide +kernel
theorem dL_law_615 : decode cL_law 615 = .ok (.iload 8, 2) := by decide +kernel
theorem dL_law_617 : decode cL_law 617 = .ok (.iload 9, 2) := by decide +kernel
theorem dL_law_619 : decode cL_law 619 = .ok (.iconst 1, 1) := by decide +kernel
theorem dL_law_620 : decode cL_law 620 = .ok (.invokevirtual 139, 3) := by decide +kernel
theorem dL_law_623 : decode cL_law 623 = .ok (.istore 20, 2) := by decide +kernel
theorem dL_law_625 : decode cL_law 625 = .ok (.iconst 2, 1) := by decide +kernel
theorem dL_law_626 : decode cL_law 626 = .ok (.istore 21, 2) := by decide +kernel
theorem dL_law_628 : decode cL_law 628 = .ok (.iload 21, 2) := by decide +kernel
theorem dL_law_630 : decode cL_law 630 = .ok (.sipush 1000, 3) := by decide +kernel
theorem dL_law_633 : decode cL_law 633 = .ok (.if_icmp .gt 46, 3) := by decide +kernel
theorem dL_law_636 : decode cL_law 636 = .ok (.aload_n 1, 1) := by decide +kernel
theorem dL_law_637 : decode cL_law 637 = .ok (.iload 8, 2) := by decide +kernel
theorem dL_law_639 : decode cL_law 639 = .ok (.iload 9, 2) := by decide +kernel
theorem dL_law_641 : decode cL_law 641 = .ok (.iload 21, 2) := by decide +kernel
theorem dL_law_643 : decode cL_law 643 = .ok (.invokevirtual 139, 3) := by decide +kernel
theorem dL_law_646 : decode cL_law 646 = .ok (.istore 22, 2) := by decide +kernel
theorem dL_law_648 : decode cL_law 648 = .ok (.iload 22, 2) := by decide +kernel
theorem dL_law_650 : decode cL_law 650 = .ok (.iload 20, 2) := by decide +kernel
theorem dL_law_652 : decode cL_law 652 = .ok (.if_icmp .gt 15, 3) := by decide +kernel
theorem dL_law_655 : decode cL_law 655 = .ok (.iload 21, 2) := by decide +kernel
theorem dL_law_657 : decode cL_law 657 = .ok (.iload 9, 2) := by decide +kernel
theorem dL_law_659 : decode cL_law 659 = .ok (.if_icmp .le 10, 3) := by decide +kernel
theorem dL_law_662 : decode cL_law 662 = .ok (.iload 22, 2) := by decide +kernel
theorem dL_law_664 : decode cL_law 664 = .ok (.ifCond .le 5, 3) := by decide +kernel
theorem dL_law_667 : decode cL_law 667 = .ok (.iconst 0, 1) := by decide +kernel
theorem dL_law_668 : decode cL_law 668 = .ok (.ireturn, 1) := by decide +kernel
theorem dL_law_669 : decode cL_law 669 = .ok (.iload 22, 2) := by decide +kernel
theorem dL_law_671 : decode cL_law 671 = .ok (.istore 20, 2) := by decide +kernel
theorem dL_law_673 : decode cL_law 673 = .ok (.iinc 21 61, 3) := by decide +kernel
theorem dL_law_676 : decode cL_law 676 = .ok (.goto (-48), 3) := by decide +kernel
theorem dL_law_679 : decode cL_law 679 = .ok (.iinc 8 1, 3) := by decide +kernel
theorem dL_law_682 : decode cL_law 682 = .ok (.goto (-587), 3) := by decide +kernel
theorem dL_law_685 : decode cL_law 685 = .ok (.iload 6, 2) := by decide +kernel
theorem dL_law_687 : decode cL_law 687 = .ok (.aload_n 1, 1) := by decide +kernel
theorem dL_law_688 : decode cL_law 688 = .ok (.invokevirtual 156, 3) := by decide +kernel
theorem dL_law_691 : decode cL_law 691 = .ok (.if_icmp .ne 18, 3) := by decide +kernel
theorem dL_law_694 : decode cL_law 694 = .ok (.aload_n 1, 1) := by decide +kernel
theorem dL_law_695 : decode cL_law 695 = .ok (.invokevirtual 159, 3) := by decide +kernel
theorem dL_law_698 : decode cL_law 698 = .ok (.iload 7, 2) := by decide +kernel
theorem dL_law_700 : decode cL_law 700 = .ok (.i2d, 1) := by decide +kernel
theorem dL_law_701 : decode cL_law 701 = .ok (.iload 5, 2) := by decide +kernel
theorem dL_law_703 : decode cL_law 703 = .ok (.i2d, 1) := by decide +kernel
theorem dL_law_704 : decode cL_law 704 = .ok (.ddiv, 1) := by decide +kernel
theorem dL_law_705 : decode cL_law 705 = .ok (.dcmp .l, 1) := by decide +kernel
theorem dL_law_706 : decode cL_law 706 = .ok (.ifCond .eq 5, 3) := by decide +kernel
theorem dL_law_709 : decode cL_law 709 = .ok (.iconst 0, 1) := by decide +kernel
theorem dL_law_710 : decode cL_law 710 = .ok (.ireturn, 1) := by decide +kernel
theorem dL_law_711 : decode cL_law 711 = .ok (.iconst 0, 1) := by decide +kernel
theorem dL_law_712 : decode cL_law 712 = .ok (.istore 8, 2) := by decide +kernel
theorem dL_law_714 : decode cL_law 714 = .ok (.iload 8, 2) := by decide +kernel
theorem dL_law_716 : decode cL_law 716 = .ok (.aload_n 1, 1) := by decide +kernel
theorem dL_law_717 : decode cL_law 717 = .ok (.invokevirtual 163, 3) := by decide +kernel
theorem dL_law_720 : decode cL_law 720 = .ok (.if_icmp .ge 110, 3) := by decide +kernel
theorem dL_law_723 : decode cL_law 723 = .ok (.iconst 0, 1) := by decide +kernel
theorem dL_law_724 : decode cL_law 724 = .ok (.istore 9, 2) := by decide +kernel
theorem dL_law_726 : decode cL_law 726 = .ok (.iconst 0, 1) := by decide +kernel
theorem dL_law_727 : decode cL_law 727 = .ok (.istore 10, 2) := by decide +kernel
theorem dL_law_729 : decode cL_law 729 = .ok (.iload 10, 2) := by decide +kernel
theorem dL_law_731 : decode cL_law 731 = .ok (.iload 5, 2) := by decide +kernel
theorem dL_law_733 : decode cL_law 733 = .ok (.if_icmp .ge 78, 3) := by decide +kernel
theorem dL_law_736 : decode cL_law 736 = .ok (.aload_n 1, 1) := by decide +kernel
theorem dL_law_737 : decode cL_law 737 = .ok (.iload 10, 2) := by decide +kernel
theorem dL_law_739 : decode cL_law 739 = .ok (.iload 8, 2) := by decide +kernel
theorem dL_law_741 : decode cL_law 741 = .ok (.invokevirtual 166, 3) := by decide +kernel
theorem dL_law_744 : decode cL_law 744 = .ok (.istore 11, 2) := by decide +kernel
theorem dL_law_746 : decode cL_law 746 = .ok (.iload 9, 2) := by decide +kernel
theorem dL_law_748 : decode cL_law 748 = .ok (.iload 11, 2) := by decide +kernel
theorem dL_law_750 : decode cL_law 750 = .ok (.ifCond .eq 7, 3) := by decide +kernel
theorem dL_law_753 : decode cL_law 753 = .ok (.iconst 1, 1) := by decide +kernel
theorem dL_law_754 : decode cL_law 754 = .ok (.goto 4, 3) := by decide +kernel
theorem dL_law_757 : decode cL_law 757 = .ok (.iconst 0, 1) := by decide +kernel
theorem dL_law_758 : decode cL_law 758 = .ok (.iadd, 1) := by decide +kernel
theorem dL_law_759 : decode cL_law 759 = .ok (.istore 9, 2) := by decide +kernel
theorem dL_law_761 : decode cL_law 761 = .ok (.iload 11, 2) := by decide +kernel
theorem dL_law_763 : decode cL_law 763 = .ok (.ifCond .ne 6, 3) := by decide +kernel
theorem dL_law_766 : decode cL_law 766 = .ok (.goto 39, 3) := by decide +kernel
theorem dL_law_769 : decode cL_law 769 = .ok (.aload_n 1, 1) := by decide +kernel
theorem dL_law_770 : decode cL_law 770 = .ok (.iload 10, 2) := by decide +kernel
theorem dL_law_772 : decode cL_law 772 = .ok (.invokevirtual 117, 3) := by decide +kernel
theorem dL_law_775 : decode cL_law 775 = .ok (.istore 12, 2) := by decide +kernel
theorem dL_law_777 : decode cL_law 777 = .ok (.aload_n 1, 1) := by decide +kernel
theorem dL_law_778 : decode cL_law 778 = .ok (.iload 10, 2) := by decide +kernel
theorem dL_law_780 : decode cL_law 780 = .ok (.iload 8, 2) := by decide +kernel
theorem dL_law_782 : decode cL_law 782 = .ok (.iload 12, 2) := by decide +kernel
theorem dL_law_784 : decode cL_law 784 = .ok (.iload 4, 2) := by decide +kernel
theorem dL_law_786 : decode cL_law 786 = .ok (.iconst 3, 1) := by decide +kernel
theorem dL_law_787 : decode cL_law 787 = .ok (.ishr, 1) := by decide +kernel
theorem dL_law_788 : decode cL_law 788 = .ok (.bipush 91, 2) := by decide +kernel
theorem dL_law_790 : decode cL_law 790 = .ok (.iload 12, 2) := by decide +kernel
theorem dL_law_792 : decode cL_law 792 = .ok (.isub, 1) := by decide +kernel
theorem dL_law_793 : decode cL_law 793 = .ok (.invokestatic 15, 3) := by decide +kernel
theorem dL_law_796 : decode cL_law 796 = .ok (.iadd, 1) := by decide +kernel
theorem dL_law_797 : decode cL_law 797 = .ok (.invokevirtual 168, 3) := by decide +kernel
theorem dL_law_800 : decode cL_law 800 = .ok (.ifCond .ne 5, 3) := by decide +kernel
theorem dL_law_803 : decode cL_law 803 = .ok (.iconst 0, 1) := by decide +kernel
theorem dL_law_804 : decode cL_law 804 = .ok (.ireturn, 1) := by decide +kernel
theorem dL_law_805 : decode cL_law 805 = .ok (.iinc 10 1, 3) := by decide +kernel
theorem dL_law_808 : decode cL_law 808 = .ok (.goto (-79), 3) := by decide +kernel
theorem dL_law_811 : decode cL_law 811 = .ok (.iload 9, 2) := by decide +kernel
theorem dL_law_813 : decode cL_law 813 = .ok (.aload_n 1, 1) := by decide +kernel
theorem dL_law_814 : decode cL_law 814 = .ok (.iload 8, 2) := by decide +kernel
theorem dL_law_816 : decode cL_law 816 = .ok (.invokevirtual 172, 3) := by decide +kernel
theorem dL_law_819 : decode cL_law 819 = .ok (.if_icmp .eq 5, 3) := by decide +kernel
theorem dL_law_822 : decode cL_law 822 = .ok (.iconst 0, 1) := by decide +kernel
theorem dL_law_823 : decode cL_law 823 = .ok (.ireturn, 1) := by decide +kernel
theorem dL_law_824 : decode cL_law 824 = .ok (.iinc 8 1, 3) := by decide +kernel
theorem dL_law_827 : decode cL_law 827 = .ok (.goto (-113), 3) := by decide +kernel
theorem dL_law_830 : decode cL_law 830 = .ok (.iinc 3 1, 3) := by decide +kernel
theorem dL_law_833 : decode cL_law 833 = .ok (.goto (-811), 3) := by decide +kernel
theorem dL_law_836 : decode cL_law 836 = .ok (.aload_n 2, 1) := by decide +kernel
theorem dL_law_837 : decode cL_law 837 = .ok (.aload_n 1, 1) := by decide +kernel
theorem dL_law_838 : decode cL_law 838 = .ok (.sipush 1000, 3) := by decide +kernel
theorem dL_law_841 : decode cL_law 841 = .ok (.invokevirtual 175, 3) := by decide +kernel
theorem dL_law_844 : decode cL_law 844 = .ok (.ireturn, 1) := by decide +kernel
end
section
/-! ===== rows over small naturals ===== -/
section EN
variable {p : Program} {l : Launch} {e : Env} {s : State} {m : MethodId} {args : Array Value} {below : List Frame} {meth : Method} {c : Code} {D : va_G} {ba : Nat} {d mc ms : Nat} {Q : State → Prop} {nL : Nat} {ad : Adr} {w : Wd} {pc : Nat} {lv : List (Nat × Value)} {rest : List Value} {cells slots : Nat}
variable {own : String} {cc : ByteArray} {tb : List ExceptionTableEntry}
theorem V_iaddn (C : Cx p l s m args meth c D ba own cc nL tb d) {x y : Nat} (h : decode cc pc = .ok (.iadd, 1)) (k : V p l e s m args below meth c D ba d mc ms Q nL ad w (pc + 1) lv (.int (nI (x + y)) :: rest) cells slots) : V p l e s m args below meth c D ba d mc ms Q nL ad w pc lv (.int (nI y) :: .int (nI x) :: rest) cells slots := V_iadd C h (by rw [nI_add]; exact k)
theorem V_imuln (C : Cx p l s m args meth c D ba own cc nL tb d) {x y : Nat} (h : decode cc pc = .ok (.imul, 1)) (k : V p l e s m args below meth c D ba d mc ms Q nL ad w (pc + 1) lv (.int (nI (x * y)) :: rest) cells slots) : V p l e s m args below meth c D ba d mc ms Q nL ad w pc lv (.int (nI y) :: .int (nI x) :: rest) cells slots := V_imul C h (by rw [pk_mul]; exact k)
theorem V_isubn (C : Cx p l s m args meth c D ba own cc nL tb d) {x y : Nat} (h : decode cc pc = .ok (.isub, 1)) (hle : y ≤ x) (k : V p l e s m args below meth c D ba d mc ms Q nL ad w (pc + 1) lv (.int (nI (x - y)) :: rest) cells slots) : V p l e s m args below meth c D ba d mc ms Q nL ad w pc lv (.int (nI y) :: .int (nI x) :: rest) cells slots := V_isub C h (by rw [pk_sub hle]; exact k)
theorem V_idivn (C : Cx p l s m args meth c D ba own cc nL tb d) {x y : Nat} (h : decode cc pc = .ok (.idiv, 1)) (hx : x < 2 ^ 31) (h0 : 0 < y) (hy : y < 2 ^ 31) (k : V p l e s m args below meth c D ba d mc ms Q nL ad w (pc + 1) lv (.int (nI (x / y)) :: rest) cells slots) : V p l e s m args below meth c D ba d mc ms Q nL ad w pc lv (.int (nI y) :: .int (nI x) :: rest) cells slots := V_idiv C h (nI_ne0 h0 hy) (by rw [pk_div hx h0 hy]; exact k)
theorem V_iremn (C : Cx p l s m args meth c D ba own cc nL tb d) {x y : Nat} (h : decode cc pc = .ok (.irem, 1)) (hx : x < 2 ^ 31) (h0 : 0 < y) (hy : y < 2 ^ 31) (k : V p l e s m args below meth c D ba d mc ms Q nL ad w (pc + 1) lv (.int (nI (x % y)) :: rest) cells slots) : V p l e s m args below meth c D ba d mc ms Q nL ad w pc lv (.int (nI y) :: .int (nI x) :: rest) cells slots := V_irem C h (nI_ne0 h0 hy) (by rw [pk_rem hx h0 hy]; exact k)
theorem V_iincn (C : Cx p l s m args meth c D ba own cc nL tb d) {i : Nat} {x : Nat} (lv' : List (Nat × Value)) (h : decode cc pc = .ok (.iinc i 1, 3)) (j : Nat) (hj : lv[j]? = some (i, .int (nI x))) (hn : i < nL) (hq : (i, Value.int (nI (x + 1))) :: lv.filter (fun q => !(q.1 == i) && !(q.1 + 1 == i && q.2.category == 2)) = lv') (k : V p l e s m args below meth c D ba d mc ms Q nL ad w (pc + 3) lv' rest cells slots) : V p l e s m args below meth c D ba d mc ms Q nL ad w pc lv rest cells slots := V_iinc C lv' h j hj (nI_1 x) hn hq k
theorem V_icmpn_lt (C : Cx p l s m args meth c D ba own cc nL tb d) {x y : Nat} {off : Int} {tgt : Nat} (h : decode cc pc = .ok (.if_icmp .lt off, 3)) (ht : (pc : Int) + off = (tgt : Int)) (hx : x < 2 ^ 31) (hy : y < 2 ^ 31) (kt : x < y → V p l e s m args below meth c D ba d mc ms Q nL ad w tgt lv rest cells slots) (kf : y ≤ x → V p l e s m args below meth c D ba d mc ms Q nL ad w (pc + 3) lv rest cells slots) : V p l e s m args below meth c D ba d mc ms Q nL ad w pc lv (.int (nI y) :: .int (nI x) :: rest) cells slots := V_icmp_lt C h ht (fun q => kt ((nI_ltI hx hy).mp q)) (fun q => kf (Nat.not_lt.mp (fun z => q ((nI_ltI hx hy).mpr z))))
theorem V_icmpn_ge (C : Cx p l s m args meth c D ba own cc nL tb d) {x y : Nat} {off : Int} {tgt : Nat} (h : decode cc pc = .ok (.if_icmp .ge off, 3)) (ht : (pc : Int) + off = (tgt : Int)) (hx : x < 2 ^ 31) (hy : y < 2 ^ 31) (kt : y ≤ x → V p l e s m args below meth c D ba d mc ms Q nL ad w tgt lv rest cells slots) (kf : x < y → V p l e s m args below meth c D ba d mc ms Q nL ad w (pc + 3) lv rest cells slots) : V p l e s m args below meth c D ba d mc ms Q nL ad w pc lv (.int (nI y) :: .int (nI x) :: rest) cells slots := V_icmp_ge C h ht (fun q => kt ((nI_leI hy hx).mp q)) (fun q => kf (Nat.not_le.mp (fun z => q ((nI_leI hy hx).mpr z))))
theorem V_icmpn_gt (C : Cx p l s m args meth c D ba own cc nL tb d) {x y : Nat} {off : Int} {tgt : Nat} (h : decode cc pc = .ok (.if_icmp .gt off, 3)) (ht : (pc : Int) + off = (tgt : Int)) (hx : x < 2 ^ 31) (hy : y < 2 ^ 31) (kt : y < x → V p l e s m args below meth c D ba d mc ms Q nL ad w tgt lv rest cells slots) (kf : x ≤ y → V p l e s m args below meth c D ba d mc ms Q nL ad w (pc + 3) lv rest cells slots) : V p l e s m args below meth c D ba d mc ms Q nL ad w pc lv (.int (nI y) :: .int (nI x) :: rest) cells slots := V_icmp_gt C h ht (fun q => kt ((nI_ltI hy hx).mp q)) (fun q => kf (Nat.not_lt.mp (fun z => q ((nI_ltI hy hx).mpr z))))
theorem V_icmpn_le (C : Cx p l s m args meth c D ba own cc nL tb d) {x y : Nat} {off : Int} {tgt : Nat} (h : decode cc pc = .ok (.if_icmp .le off, 3)) (ht : (pc : Int) + off = (tgt : Int)) (hx : x < 2 ^ 31) (hy : y < 2 ^ 31) (kt : x ≤ y → V p l e s m args below meth c D ba d mc ms Q nL ad w tgt lv rest cells slots) (kf : y < x → V p l e s m args below meth c D ba d mc ms Q nL ad w (pc + 3) lv rest cells slots) : V p l e s m args below meth c D ba d mc ms Q nL ad w pc lv (.int (nI y) :: .int (nI x) :: rest) cells slots := V_icmp_le C h ht (fun q => kt ((nI_leI hx hy).mp q)) (fun q => kf (Nat.not_le.mp (fun z => q ((nI_leI hx hy).mpr z))))
theorem V_icmpn_eq (C : Cx p l s m args meth c D ba own cc nL tb d) {x y : Nat} {off : Int} {tgt : Nat} (h : decode cc pc = .ok (.if_icmp .eq off, 3)) (ht : (pc : Int) + off = (tgt : Int)) (hx : x < 2 ^ 31) (hy : y < 2 ^ 31) (kt : x = y → V p l e s m args below meth c D ba d mc ms Q nL ad w tgt lv rest cells slots) (kf : ¬ x = y → V p l e s m args below meth c D ba d mc ms Q nL ad w (pc + 3) lv rest cells slots) : V p l e s m args below meth c D ba d mc ms Q nL ad w pc lv (.int (nI y) :: .int (nI x) :: rest) cells slots := V_icmp_eq C h ht (fun q => kt ((nI_eq hx hy).mp q)) (fun q => kf (fun z => q (by rw [z])))
theorem V_icmpn_ne (C : Cx p l s m args meth c D ba own cc nL tb d) {x y : Nat} {off : Int} {tgt : Nat} (h : decode cc pc = .ok (.if_icmp .ne off, 3)) (ht : (pc : Int) + off = (tgt : Int)) (hx : x < 2 ^ 31) (hy : y < 2 ^ 31) (kt : ¬ x = y → V p l e s m args below meth c D ba d mc ms Q nL ad w tgt lv rest cells slots) (kf : x = y → V p l e s m args below meth c D ba d mc ms Q nL ad w (pc + 3) lv rest cells slots) : V p l e s m args below meth c D ba d mc ms Q nL ad w pc lv (.int (nI y) :: .int (nI x) :: rest) cells slots := V_icmp_ne C h ht (fun q => kt (fun z => q (by rw [z]))) (fun q => kf ((nI_eq hx hy).mp q))
theorem V_ifn_eq (C : Cx p l s m args meth c D ba own cc nL tb d) {x : Nat} {off : Int} {tgt : Nat} (h : decode cc pc = .ok (.ifCond .eq off, 3)) (ht : (pc : Int) + off = (tgt : Int)) (hx : x < 2 ^ 31) (kt : x = 0 → V p l e s m args below meth c D ba d mc ms Q nL ad w tgt lv rest cells slots) (kf : ¬ x = 0 → V p l e s m args below meth c D ba d mc ms Q nL ad w (pc + 3) lv rest cells slots) : V p l e s m args below meth c D ba d mc ms Q nL ad w pc lv (.int (nI x) :: rest) cells slots := V_if_eq C h ht (fun q => kt ((nI_eq hx (by decide)).mp q)) (fun q => kf (fun z => q (by rw [z]; rfl)))
theorem V_ifn_ne (C : Cx p l s m args meth c D ba own cc nL tb d) {x : Nat} {off : Int} {tgt : Nat} (h : decode cc pc = .ok (.ifCond .ne off, 3)) (ht : (pc : Int) + off = (tgt : Int)) (hx : x < 2 ^ 31) (kt : ¬ x = 0 → V p l e s m args below meth c D ba d mc ms Q nL ad w tgt lv rest cells slots) (kf : x = 0 → V p l e s m args below meth c D ba d mc ms Q nL ad w (pc + 3) lv rest cells slots) : V p l e s m args below meth c D ba d mc ms Q nL ad w pc lv (.int (nI x) :: rest) cells slots := V_if_ne C h ht (fun q => kt (fun z => q (by rw [z]; rfl))) (fun q => kf ((nI_eq hx (by decide)).mp q))
theorem V_ifn_lt (C : Cx p l s m args meth c D ba own cc nL tb d) {x : Nat} {off : Int} {tgt : Nat} (h : decode cc pc = .ok (.ifCond .lt off, 3)) (ht : (pc : Int) + off = (tgt : Int)) (hx : x < 2 ^ 31) (kf : V p l e s m args below meth c D ba d mc ms Q nL ad w (pc + 3) lv rest cells slots) : V p l e s m args below meth c D ba d mc ms Q nL ad w pc lv (.int (nI x) :: rest) cells slots := V_if_lt C h ht (fun q => absurd q (nI_pos hx)) (fun _ => kf)
theorem V_ifn_ge (C : Cx p l s m args meth c D ba own cc nL tb d) {x : Nat} {off : Int} {tgt : Nat} (h : decode cc pc = .ok (.ifCond .ge off, 3)) (ht : (pc : Int) + off = (tgt : Int)) (hx : x < 2 ^ 31) (kt : V p l e s m args below meth c D ba d mc ms Q nL ad w tgt lv rest cells slots) : V p l e s m args below meth c D ba d mc ms Q nL ad w pc lv (.int (nI x) :: rest) cells slots := V_if_ge C h ht (fun _ => kt) (fun q => absurd (nI_pos' hx) q)
theorem V_ifn_le (C : Cx p l s m args meth c D ba own cc nL tb d) {x : Nat} {off : Int} {tgt : Nat} (h : decode cc pc = .ok (.ifCond .le off, 3)) (ht : (pc : Int) + off = (tgt : Int)) (hx : x < 2 ^ 31) (kt : x = 0 → V p l e s m args below meth c D ba d mc ms Q nL ad w tgt lv rest cells slots) (kf : 0 < x → V p l e s m args below meth c D ba d mc ms Q nL ad w (pc + 3) lv rest cells slots) : V p l e s m args below meth c D ba d mc ms Q nL ad w pc lv (.int (nI x) :: rest) cells slots := V_if_le C h ht (fun q => kt (Nat.le_zero.mp ((nI_leI hx (by decide)).mp q))) (fun q => kf (Nat.pos_of_ne_zero (fun z => q (by rw [z]; exact nI_pos' (by decide)))))
theorem V_ifn_gt (C : Cx p l s m args meth c D ba own cc nL tb d) {x : Nat} {off : Int} {tgt : Nat} (h : decode cc pc = .ok (.ifCond .gt off, 3)) (ht : (pc : Int) + off = (tgt : Int)) (hx : x < 2 ^ 31) (kt : 0 < x → V p l e s m args below meth c D ba d mc ms Q nL ad w tgt lv rest cells slots) (kf : x = 0 → V p l e s m args below meth c D ba d mc ms Q nL ad w (pc + 3) lv rest cells slots) : V p l e s m args below meth c D ba d mc ms Q nL ad w pc lv (.int (nI x) :: rest) cells slots := V_if_gt C h ht (fun q => kt (Nat.pos_of_ne_zero (fun z => by rw [z] at q; exact absurd q (by decide)))) (fun q => kf (Nat.eq_zero_of_not_pos (fun z => q ((nI_ltI (by decide) hx).mpr z))))
theorem V_ialdn (C : Cx p l s m args meth c D ba own cc nL tb d) {n : Nat} {f : Nat → Int32} {L : Lab} {a i : Nat} {v : Int32} (h : decode cc pc = .ok (.iaload, 1)) (ha : a = ad L) (hw : w L = some (eI n f)) (hi : i < n) (hn : n < 2 ^ 31) (hv : f i = v) (kk : V p l e s m args below meth c D ba d mc ms Q nL ad w (pc + 1) lv (.int v :: rest) cells slots) : V p l e s m args below meth c D ba d mc ms Q nL ad w pc lv (.int (nI i) :: .ref a :: rest) cells slots := V_iald C h ha hw (vp_in_nI hi hn) (by rw [nI_clamp (Nat.lt_trans hi hn), hv]; exact kk)
theorem V_laldn (C : Cx p l s m args meth c D ba own cc nL tb d) {n : Nat} {f : Nat → Int64} {L : Lab} {a i : Nat} {v : Int64} (h : decode cc pc = .ok (.laload, 1)) (ha : a = ad L) (hw : w L = some (eJ n f)) (hi : i < n) (hn : n < 2 ^ 31) (hv : f i = v) (kk : V p l e s m args below meth c D ba d mc ms Q nL ad w (pc + 1) lv (.long v :: rest) cells slots) : V p l e s m args below meth c D ba d mc ms Q nL ad w pc lv (.int (nI i) :: .ref a :: rest) cells slots := V_lald C h ha hw (vp_in_nI hi hn) (by rw [nI_clamp (Nat.lt_trans hi hn), hv]; exact kk)
theorem V_aaldn (C : Cx p l s m args meth c D ba own cc nL tb d) {K : String} {n : Nat} {f : Nat → Option Nat} {L : Lab} {a i : Nat} {v : Value} (h : decode cc pc = .ok (.aaload, 1)) (ha : a = ad L) (hw : w L = some (eQ K n f)) (hi : i < n) (hn : n < 2 ^ 31) (hv : va_rf (f i) = v) (kk : V p l e s m args below meth c D ba d mc ms Q nL ad w (pc + 1) lv (v :: rest) cells slots) : V p l e s m args below meth c D ba d mc ms Q nL ad w pc lv (.int (nI i) :: .ref a :: rest) cells slots := V_aald C h ha hw (vp_in_nI hi hn) (by rw [nI_clamp (Nat.lt_trans hi hn)]; exact hv) kk
theorem V_iastn (C : Cx p l s m args meth c D ba own cc nL tb d) {n : Nat} {f : Nat → Int32} {L : Lab} {a i : Nat} {x : Int32} (h : decode cc pc = .ok (.iastore, 1)) (ha : a = ad L) (hw : w L = some (eI n f)) (hi : i < n) (hn : n < 2 ^ 31) (kk : V p l e s m args below meth c D ba d mc ms Q nL ad (wset w L (eI n (upd f i x))) (pc + 1) lv rest cells slots) : V p l e s m args below meth c D ba d mc ms Q nL ad w pc lv (.int x :: .int (nI i) :: .ref a :: rest) cells slots := V_iast C h ha hw (vp_in_nI hi hn) (by rw [nI_clamp (Nat.lt_trans hi hn)]; exact kk)
theorem V_lastn (C : Cx p l s m args meth c D ba own cc nL tb d) {n : Nat} {f : Nat → Int64} {L : Lab} {a i : Nat} {x : Int64} (h : decode cc pc = .ok (.lastore, 1)) (ha : a = ad L) (hw : w L = some (eJ n f)) (hi : i < n) (hn : n < 2 ^ 31) (kk : V p l e s m args below meth c D ba d mc ms Q nL ad (wset w L (eJ n (vp_updL f i x))) (pc + 1) lv rest cells slots) : V p l e s m args below meth c D ba d mc ms Q nL ad w pc lv (.long x :: .int (nI i) :: .ref a :: rest) cells slots := V_last C h ha hw (vp_in_nI hi hn) (by rw [nI_clamp (Nat.lt_trans hi hn)]; exact kk)
theorem V_aastn (C : Cx p l s m args meth c D ba own cc nL tb d) {r : vw_C} {n ci i : Nat} {f : Nat → Option Nat} {L Lv : Lab} {a b : Nat} {vs : List Value} (h : decode cc pc = .ok (.aastore, 1)) (ha : a = ad L) (hw : w L = some (eQ r.1 n f)) (hb : b = ad Lv) (hv : w Lv = some (.inr (ci, vs))) (hc : vwCl[ci]? = some r) (hi : i < n) (hn : n < 2 ^ 31) (kk : V p l e s m args below meth c D ba d mc ms Q nL ad (wset w L (eQ r.1 n (va_up f i (some b)))) (pc + 1) lv rest cells slots) : V p l e s m args below meth c D ba d mc ms Q nL ad w pc lv (.ref b :: .int (nI i) :: .ref a :: rest) cells slots := V_aast C h ha hw hb hv hc (vp_in_nI hi hn) (by rw [nI_clamp (Nat.lt_trans hi hn)]; exact kk)
/-- a call whose answer and world behind it are known -/
abbrev isR (v : Option Value) (ad : Adr) (w : Wd) : Option Value → Adr → Wd → Prop := fun v' ad' w' => v' = v ∧ ad' = ad ∧ w' = w
abbrev noX : String → Adr → Wd → Prop := fun _ _ _ => False
abbrev isX (E : String) (ad : Adr) (w : Wd) : String → Adr → Wd → Prop := fun E' ad' w' => E' = E ∧ ad' = ad ∧ w' = w
abbrev noR : Option Value → Adr → Wd → Prop := fun _ _ _ => False
theorem kr_is {v0 : Option Value} {ad0 : Adr} {w0 : Wd} {npc : Nat} (k : V p l e s m args below meth c D ba d mc ms Q nL ad0 w0 npc lv (v0.toList ++ rest) cells slots) : ∀ (v : Option Value) (ad' : Adr) (w' : Wd), isR v0 ad0 w0 v ad' w' → V p l e s m args below meth c D ba d mc ms Q nL ad' w' npc lv (v.toList ++ rest) cells slots := by
  rintro v ad' w' ⟨rfl, rfl, rfl⟩
  exact k
theorem kr_no {npc : Nat} : ∀ (v : Option Value) (ad' : Adr) (w' : Wd), noR v ad' w' → V p l e s m args below meth c D ba d mc ms Q nL ad' w' npc lv (v.toList ++ rest) cells slots := fun _ _ _ h => absurd h id
theorem kx_no : ∀ (E : String) (ad' : Adr) (w' : Wd), noX E ad' w' → VX p l e s m args below meth c D ba d mc ms Q nL E ad' w' pc lv rest cells slots := fun _ _ _ h => absurd h id
theorem kx_is {E0 : String} {ad0 : Adr} {w0 : Wd} (k : VX p l e s m args below meth c D ba d mc ms Q nL E0 ad0 w0 pc lv rest cells slots) : ∀ (E : String) (ad' : Adr) (w' : Wd), isX E0 ad0 w0 E ad' w' → VX p l e s m args below meth c D ba d mc ms Q nL E ad' w' pc lv rest cells slots := by
  rintro E ad' w' ⟨rfl, rfl, rfl⟩
  exact k
theorem V_lvE {lv' : List (Nat × Value)} (h : lv = lv') (k : V p l e s m args below meth c D ba d mc ms Q nL ad w pc lv' rest cells slots) : V p l e s m args below meth c D ba d mc ms Q nL ad w pc lv rest cells slots := h ▸ k
theorem kr_some {x : Value} {ad0 : Adr} {w0 : Wd} {npc : Nat} (k : V p l e s m args below meth c D ba d mc ms Q nL ad0 w0 npc lv (x :: rest) cells slots) : ∀ (v : Option Value) (ad' : Adr) (w' : Wd), isR (some x) ad0 w0 v ad' w' → V p l e s m args below meth c D ba d mc ms Q nL ad' w' npc lv (v.toList ++ rest) cells slots := by
  rintro v ad' w' ⟨rfl, rfl, rfl⟩
  exact k
theorem kr_none {ad0 : Adr} {w0 : Wd} {npc : Nat} (k : V p l e s m args below meth c D ba d mc ms Q nL ad0 w0 npc lv rest cells slots) : ∀ (v : Option Value) (ad' : Adr) (w' : Wd), isR none ad0 w0 v ad' w' → V p l e s m args below meth c D ba d mc ms Q nL ad' w' npc lv (v.toList ++ rest) cells slots := by
  rintro v ad' w' ⟨rfl, rfl, rfl⟩
  exact k
/-- a contract with a weaker end -/
theorem CT.mono {y : MethodName} {ws : List Cond} {as : List Value} {QR QR' : Option Value → Adr → Wd → Prop} {QX QX' : String → Adr → Wd → Prop} (h : CT l y ws d mc ms D ba as ad w QR QX) (h1 : ∀ v ad' w', QR v ad' w' → QR' v ad' w') (h2 : ∀ E ad' w', QX E ad' w' → QX' E ad' w') : CT l y ws d mc ms D ba as ad w QR' QX' := by
  intro p e ha hc hk s m args below hf happ hP hK
  obtain ⟨n, o, g1, g2, g3, hq⟩ := h p e ha hc hk s m args below hf happ hP hK
  refine ⟨n, o, g1, g2, g3, ?_⟩
  rcases hq with ⟨⟨v, ad', w', g1, g2, g3⟩, hL⟩ | ⟨q, g1, E, ce, L, ⟨ad', w', g2, g3⟩, g4⟩
  · exact Or.inl ⟨⟨v, ad', w', g1, h1 v ad' w' g2, g3⟩, hL⟩
  · exact Or.inr ⟨q, g1, E, ce, L, ⟨ad', w', h2 E ad' w' g2, g3⟩, g4⟩
end EN
end
section
theorem nI_min {a b : Nat} (ha : a < 2 ^ 31) (hb : b < 2 ^ 31) : (if nI b < nI a then nI b else nI a) = nI (min a b) := by
  by_cases h : b < a
  · rw [if_pos ((nI_ltI hb ha).mpr h), Nat.min_eq_right (Nat.le_of_lt h)]
  · rw [if_neg (fun z => h ((nI_ltI hb ha).mp z)), Nat.min_eq_left (Nat.not_lt.mp h)]
theorem nI_max {a b : Nat} (ha : a < 2 ^ 31) (hb : b < 2 ^ 31) : (if nI a < nI b then nI b else nI a) = nI (max a b) := by
  by_cases h : a < b
  · rw [if_pos ((nI_ltI ha hb).mpr h), Nat.max_eq_right (Nat.le_of_lt h)]
  · rw [if_neg (fun z => h ((nI_ltI ha hb).mp z)), Nat.max_eq_left (Nat.not_lt.mp h)]
theorem nI_sub0 {a b : Nat} (ha : a < 2 ^ 30) (hb : b < 2 ^ 30) : (if nI 0 < nI a - nI b then nI a - nI b else nI 0) = nI (a - b) := by
  by_cases h : b < a
  · rw [pk_sub (Nat.le_of_lt h), if_pos]
    exact (nI_ltI (a := 0) (by decide) (by omega)).mpr (by omega)
  · rw [show a - b = 0 by omega, if_neg]
    intro z
    rw [Int32.lt_iff_toInt_lt, pk_sub_toInt ha hb, nI_toInt (by decide)] at z
    omega
set_option maxHeartbeats 4000000 in
theorem c_hasCert {l : Launch} {D : va_G} {ba d : Nat} {ad : Adr} {w : Wd} (hl : l.stackTraces = false) (hd : 1 ≤ d) {LH : Lab} {sa sc dm du dy : Nat} {ce : Int32} (hH : w LH = some (.inr (0, [.ref sa, .int (nI sc), .int (nI dm), .int (nI du), .int ce, .int (nI dy)])))  : CT l yX0_hasCertificate (wsO yX0_hasCertificate cX0_hasCertificate 1 (some .boolean)) d 0 0 D ba [.ref (ad LH)] ad w (isR (some (.int (nI (if ce = -1 then 0 else 1)))) ad w) noX := by
  refine CT_of RX0 rfl (by decide +kernel) hl (Nat.le_of_ble_eq_true rfl) ?_
  intro p e s m args below meth c C hr hnm
  refine V_lvE (lv' := [(0, .ref (ad LH))]) rfl ?_
  refine V_aload_n C dX0_hasCertificate_0 0 rfl ?_
  refine V_get (ci := 0) (k := 4) C dX0_hasCertificate_1 RX0 RX0 TX0 6 fw_X0 rfl (by decide) tw_204 rfl rfl hH rfl ?_
  refine V_iconst (v := -1) C dX0_hasCertificate_4 (by decide) ?_
  refine V_icmp_eq (tgt := 12) C dX0_hasCertificate_5 (by decide) (fun hb1 => ?_) (fun hb1 => ?_)
  · skip
    refine V_iconst (v := nI 0) C dX0_hasCertificate_12 (by decide) ?_
    exact V_iret C .boolean dX0_hasCertificate_13 hr rfl ⟨by rw [if_pos hb1], rfl, rfl⟩ (by omega) (by omega)
  · skip
    refine V_iconst (v := nI 1) C dX0_hasCertificate_8 (by decide) ?_
    refine V_goto (tgt := 13) C dX0_hasCertificate_9 (by decide) ?_
    exact V_iret C .boolean dX0_hasCertificate_13 hr rfl ⟨by rw [if_neg hb1], rfl, rfl⟩ (by omega) (by omega)
set_option maxHeartbeats 4000000 in
theorem c_loseCert {l : Launch} {D : va_G} {ba d : Nat} {ad : Adr} {w : Wd} (hl : l.stackTraces = false) (hd : 1 ≤ d) {LH : Lab} {sa sc dm du dy : Nat} {ce : Int32} (hH : w LH = some (.inr (0, [.ref sa, .int (nI sc), .int (nI dm), .int (nI du), .int ce, .int (nI dy)])))  : CT l yX0_loseCertificate (wsO yX0_loseCertificate cX0_loseCertificate 1 none) d 0 0 D ba [.ref (ad LH)] ad w (isR none ad (wset w LH (.inr (0, [.ref sa, .int (nI sc), .int (nI dm), .int (nI du), .int (-1), .int (nI 0)])))) noX := by
  refine CT_of RX0 rfl (by decide +kernel) hl (Nat.le_of_ble_eq_true rfl) ?_
  intro p e s m args below meth c C hr hnm
  refine V_lvE (lv' := [(0, .ref (ad LH))]) rfl ?_
  refine V_aload_n C dX0_loseCertificate_0 0 rfl ?_
  refine V_iconst (v := -1) C dX0_loseCertificate_1 (by decide) ?_
  refine V_put (ci := 0) (k := 4) C dX0_loseCertificate_2 RX0 RX0 TX0 6 tyX0 tyX0_ok nmX0 fw_X0 rfl (by decide) tw_204 rfl (Or.inl rfl) rfl rfl rfl hH (Nat.le_of_ble_eq_true rfl) ?_
  refine V_wd (w' := wset w LH (.inr (0, [.ref sa, .int (nI sc), .int (nI dm), .int (nI du), .int (-1), .int (nI dy)]))) rfl ?_
  refine V_aload_n C dX0_loseCertificate_5 0 rfl ?_
  refine V_iconst (v := nI 0) C dX0_loseCertificate_6 (by decide) ?_
  refine V_put (ci := 0) (k := 5) C dX0_loseCertificate_7 RX0 RX0 TX0 6 tyX0 tyX0_ok nmX0 fw_X0 rfl (by decide) tw_206 rfl (Or.inl rfl) rfl rfl rfl wset_s (Nat.le_of_ble_eq_true rfl) ?_
  refine V_wd (w' := wset w LH (.inr (0, [.ref sa, .int (nI sc), .int (nI dm), .int (nI du), .int (-1), .int (nI 0)]))) wset_wset ?_
  exact V_vret C dX0_loseCertificate_10 hr ⟨rfl, rfl, rfl⟩ (by omega) (by omega)
set_option maxHeartbeats 4000000 in
theorem c_takeCert {l : Launch} {D : va_G} {ba d : Nat} {ad : Adr} {w : Wd} (hl : l.stackTraces = false) (hd : 1 ≤ d) {LH : Lab} {sa sc dm du dy : Nat} {ce : Int32} (hH : w LH = some (.inr (0, [.ref sa, .int (nI sc), .int (nI dm), .int (nI du), .int ce, .int (nI dy)]))) (q : Int32) (dys : Nat) : CT l yX0_takeCertificate (wsO yX0_takeCertificate cX0_takeCertificate 3 none) d 0 0 D ba [.ref (ad LH), .int q, .int (nI dys)] ad w (isR none ad (wset w LH (.inr (0, [.ref sa, .int (nI sc), .int (nI dm), .int (nI du), .int q, .int (nI dys)])))) noX := by
  refine CT_of RX0 rfl (by decide +kernel) hl (Nat.le_of_ble_eq_true rfl) ?_
  intro p e s m args below meth c C hr hnm
  refine V_lvE (lv' := [(0, .ref (ad LH)), (1, .int q), (2, .int (nI dys))]) rfl ?_
  refine V_aload_n C dX0_takeCertificate_0 0 rfl ?_
  refine V_iload_n C dX0_takeCertificate_1 1 rfl ?_
  refine V_put (ci := 0) (k := 4) C dX0_takeCertificate_2 RX0 RX0 TX0 6 tyX0 tyX0_ok nmX0 fw_X0 rfl (by decide) tw_204 rfl (Or.inl rfl) rfl rfl rfl hH (Nat.le_of_ble_eq_true rfl) ?_
  refine V_wd (w' := wset w LH (.inr (0, [.ref sa, .int (nI sc), .int (nI dm), .int (nI du), .int q, .int (nI dy)]))) rfl ?_
  refine V_aload_n C dX0_takeCertificate_5 0 rfl ?_
  refine V_iload_n C dX0_takeCertificate_6 2 rfl ?_
  refine V_put (ci := 0) (k := 5) C dX0_takeCertificate_7 RX0 RX0 TX0 6 tyX0 tyX0_ok nmX0 fw_X0 rfl (by decide) tw_206 rfl (Or.inl rfl) rfl rfl rfl wset_s (Nat.le_of_ble_eq_true rfl) ?_
  refine V_wd (w' := wset w LH (.inr (0, [.ref sa, .int (nI sc), .int (nI dm), .int (nI du), .int q, .int (nI dys)]))) wset_wset ?_
  exact V_vret C dX0_takeCertificate_10 hr ⟨rfl, rfl, rfl⟩ (by omega) (by omega)
set_option maxHeartbeats 4000000 in
theorem c_dustBehind {l : Launch} {D : va_G} {ba d : Nat} {ad : Adr} {w : Wd} (hl : l.stackTraces = false) (hd : 1 ≤ d) {LH : Lab} {sa sc dm du dy : Nat} {ce : Int32} (hH : w LH = some (.inr (0, [.ref sa, .int (nI sc), .int (nI dm), .int (nI du), .int ce, .int (nI dy)]))) (k : Nat) (hdu : du ≤ 100) (hk : k ≤ 100) : CT l yX0_dustBehind (wsO yX0_dustBehind cX0_dustBehind 2 (some .int)) d 0 0 D ba [.ref (ad LH), .int (nI k)] ad w (isR (some (.int (nI (min 100 (du + k))))) ad w) noX := by
  refine CT_of RX0 rfl (by decide +kernel) hl (Nat.le_of_ble_eq_true rfl) ?_
  intro p e s m args below meth c C hr hnm
  refine V_lvE (lv' := [(0, .ref (ad LH)), (1, .int (nI k))]) rfl ?_
  refine V_bipush (v := nI 100) C dX0_dustBehind_0 (by decide) ?_
  refine V_aload_n C dX0_dustBehind_2 0 rfl ?_
  refine V_get (ci := 0) (k := 3) C dX0_dustBehind_3 RX0 RX0 TX0 6 fw_X0 rfl (by decide) tw_203 rfl rfl hH rfl ?_
  refine V_iload_n C dX0_dustBehind_6 1 rfl ?_
  refine V_iaddn C dX0_dustBehind_7 ?_
  refine V_min C dX0_dustBehind_8 tw_631 tw_495 tw_15 tw_496 (by omega) (by simp [Value.category]; try omega) (by omega) (by omega) ?_
  rw [show (if (nI (du + k)) < (nI 100) then (nI (du + k)) else (nI 100)) = (nI (min 100 (du + k))) from nI_min (by omega) (by omega)]
  exact V_iret C .int dX0_dustBehind_11 hr rfl ⟨rfl, rfl, rfl⟩ (by omega) (by omega)
set_option maxHeartbeats 4000000 in
theorem c_growOlder {l : Launch} {D : va_G} {ba d : Nat} {ad : Adr} {w : Wd} (hl : l.stackTraces = false) (hd : 3 ≤ d) {LH : Lab} {sa sc dm du dy : Nat} {ce : Int32} (hH : w LH = some (.inr (0, [.ref sa, .int (nI sc), .int (nI dm), .int (nI du), .int ce, .int (nI dy)]))) (k : Nat) (hdu : du ≤ 100) (hk : k ≤ 100) (hdy : dy ≤ 100) : CT l yX0_growOlder (wsO yX0_growOlder cX0_growOlder 2 none) d 0 0 D ba [.ref (ad LH), .int (nI k)] ad w (isR none ad (wset w LH (.inr (0, [.ref sa, .int (nI sc), .int (nI dm), .int (nI (min 100 (du + k))), .int (if k < dy then ce else -1), .int (nI (dy - k))])))) noX := by
  refine CT_of RX0 rfl (by decide +kernel) hl (Nat.le_of_ble_eq_true rfl) ?_
  intro p e s m args below meth c C hr hnm
  refine V_lvE (lv' := [(0, .ref (ad LH)), (1, .int (nI k))]) rfl ?_
  refine V_aload_n C dX0_growOlder_0 0 rfl ?_
  refine V_aload_n C dX0_growOlder_1 0 rfl ?_
  refine V_iload_n C dX0_growOlder_2 1 rfl ?_
  refine V_callV (r := (RX0, TX0, 6)) C [.int (nI k)] dX0_growOlder_3 m_X0_dustBehind k_X0_dustBehind tw_627 rfl rfl rfl hH rfl rfl (Nat.le_of_ble_eq_true rfl) ⟨by omega, by omega, by omega, by omega⟩ (c_dustBehind hl (by omega) hH k hdu (by omega)) (kr_some (x := .int (nI (min 100 (du + k)))) ?_) kx_no
  refine V_put (ci := 0) (k := 3) C dX0_growOlder_6 RX0 RX0 TX0 6 tyX0 tyX0_ok nmX0 fw_X0 rfl (by decide) tw_203 rfl (Or.inl rfl) rfl rfl rfl hH (Nat.le_of_ble_eq_true rfl) ?_
  refine V_wd (w' := wset w LH (.inr (0, [.ref sa, .int (nI sc), .int (nI dm), .int (nI (min 100 (du + k))), .int ce, .int (nI dy)]))) rfl ?_
  refine V_aload_n C dX0_growOlder_9 0 rfl ?_
  refine V_get (ci := 0) (k := 5) C dX0_growOlder_10 RX0 RX0 TX0 6 fw_X0 rfl (by decide) tw_206 rfl rfl wset_s rfl ?_
  refine V_iload_n C dX0_growOlder_13 1 rfl ?_
  refine V_icmpn_le (tgt := 30) C dX0_growOlder_14 (by decide) (by omega) (by omega) (fun hb1 => ?_) (fun hb1 => ?_)
  · skip
    refine V_aload_n C dX0_growOlder_30 0 rfl ?_
    refine V_callV (r := (RX0, TX0, 6)) C [] dX0_growOlder_31 m_X0_loseCertificate k_X0_loseCertificate tw_632 rfl rfl rfl wset_s rfl rfl (Nat.le_of_ble_eq_true rfl) ⟨by omega, by omega, by omega, by omega⟩ (c_loseCert hl (by omega) wset_s) (kr_none ?_) kx_no
    refine V_wd (w' := wset w LH (.inr (0, [.ref sa, .int (nI sc), .int (nI dm), .int (nI (min 100 (du + k))), .int (-1), .int (nI 0)]))) wset_wset ?_
    exact V_vret C dX0_growOlder_34 hr ⟨rfl, rfl, by rw [if_neg (by omega), show dy - k = 0 by omega]⟩ (by omega) (by omega)
  · skip
    refine V_aload_n C dX0_growOlder_17 0 rfl ?_
    refine V_dup C dX0_growOlder_18 rfl ?_
    refine V_get (ci := 0) (k := 5) C dX0_growOlder_19 RX0 RX0 TX0 6 fw_X0 rfl (by decide) tw_206 rfl rfl wset_s rfl ?_
    refine V_iload_n C dX0_growOlder_22 1 rfl ?_
    refine V_isubn C dX0_growOlder_23 (by omega) ?_
    refine V_put (ci := 0) (k := 5) C dX0_growOlder_24 RX0 RX0 TX0 6 tyX0 tyX0_ok nmX0 fw_X0 rfl (by decide) tw_206 rfl (Or.inl rfl) rfl rfl rfl wset_s (Nat.le_of_ble_eq_true rfl) ?_
    refine V_wd (w' := wset w LH (.inr (0, [.ref sa, .int (nI sc), .int (nI dm), .int (nI (min 100 (du + k))), .int ce, .int (nI (dy - k))]))) wset_wset ?_
    refine V_goto (tgt := 34) C dX0_growOlder_27 (by decide) ?_
    exact V_vret C dX0_growOlder_34 hr ⟨rfl, rfl, by rw [if_pos (by omega)]⟩ (by omega) (by omega)
set_option maxHeartbeats 4000000 in
theorem c_isFull {l : Launch} {D : va_G} {ba d : Nat} {ad : Adr} {w : Wd} (hl : l.stackTraces = false) (hd : 1 ≤ d) {LH LS : Lab} {sc dm du dy : Nat} {ce : Int32} {fs : Nat → Option Nat} (hH : w LH = some (.inr (0, [.ref (ad LS), .int (nI sc), .int (nI dm), .int (nI du), .int ce, .int (nI dy)]))) (hS : w LS = some (eQ RX4 6 fs)) (hsc : sc ≤ 6) : CT l yX0_isFull (wsO yX0_isFull cX0_isFull 1 (some .boolean)) d 0 0 D ba [.ref (ad LH)] ad w (isR (some (.int (nI (if sc < 6 then 0 else 1)))) ad w) noX := by
  refine CT_of RX0 rfl (by decide +kernel) hl (Nat.le_of_ble_eq_true rfl) ?_
  intro p e s m args below meth c C hr hnm
  refine V_lvE (lv' := [(0, .ref (ad LH))]) rfl ?_
  refine V_aload_n C dX0_isFull_0 0 rfl ?_
  refine V_get (ci := 0) (k := 1) C dX0_isFull_1 RX0 RX0 TX0 6 fw_X0 rfl (by decide) tw_198 rfl rfl hH rfl ?_
  refine V_aload_n C dX0_isFull_4 0 rfl ?_
  refine V_get (ci := 0) (k := 0) C dX0_isFull_5 RX0 RX0 TX0 6 fw_X0 rfl (by decide) tw_196 rfl rfl hH rfl ?_
  refine V_alen (v := nI 6) C dX0_isFull_8 rfl hS rfl ?_
  refine V_icmpn_lt (tgt := 16) C dX0_isFull_9 (by decide) (by omega) (by decide) (fun hb1 => ?_) (fun hb1 => ?_)
  · skip
    refine V_iconst (v := nI 0) C dX0_isFull_16 (by decide) ?_
    exact V_iret C .boolean dX0_isFull_17 hr rfl ⟨by rw [if_pos (by omega)], rfl, rfl⟩ (by omega) (by omega)
  · skip
    refine V_iconst (v := nI 1) C dX0_isFull_12 (by decide) ?_
    refine V_goto (tgt := 17) C dX0_isFull_13 (by decide) ?_
    exact V_iret C .boolean dX0_isFull_17 hr rfl ⟨by rw [if_neg (by omega)], rfl, rfl⟩ (by omega) (by omega)
set_option maxHeartbeats 4000000 in
theorem c_build {l : Launch} {D : va_G} {ba d : Nat} {ad : Adr} {w : Wd} (hl : l.stackTraces = false) (hd : 1 ≤ d) {LH LS : Lab} {sc dm du dy : Nat} {ce : Int32} {fs : Nat → Option Nat} (hH : w LH = some (.inr (0, [.ref (ad LS), .int (nI sc), .int (nI dm), .int (nI du), .int ce, .int (nI dy)]))) (hS : w LS = some (eQ RX4 6 fs)) {Lu : Lab} {us : List Value} (hu : w Lu = some (.inr (3, us))) (hHS : LH ≠ LS) (huS : Lu ≠ LS) (huH : Lu ≠ LH) (hsc : sc < 6) : CT l yX0_build (wsO yX0_build cX0_build 3 (some .int)) d 0 0 D ba [.ref (ad LH), .ref (ad Lu)] ad w (isR (some (.int (nI sc))) ad (wset (wset w LS (eQ RX4 6 (va_up fs sc (some (ad Lu))))) LH (.inr (0, [.ref (ad LS), .int (nI (sc + 1)), .int (nI dm), .int (nI du), .int ce, .int (nI dy)])))) noX := by
  refine CT_of RX0 rfl (by decide +kernel) hl (Nat.le_of_ble_eq_true rfl) ?_
  intro p e s m args below meth c C hr hnm
  refine V_lvE (lv' := [(0, .ref (ad LH)), (1, .ref (ad Lu))]) rfl ?_
  refine V_aload_n C dX0_build_0 0 rfl ?_
  refine V_get (ci := 0) (k := 1) C dX0_build_1 RX0 RX0 TX0 6 fw_X0 rfl (by decide) tw_198 rfl rfl hH rfl ?_
  refine V_istore_n C [(2, .int (nI sc)), (0, .ref (ad LH)), (1, .ref (ad Lu))] dX0_build_4 (by decide) rfl ?_
  refine V_iload_n C dX0_build_5 0 rfl ?_
  refine V_ifn_lt (tgt := 35) C dX0_build_6 (by decide) (by omega) ?_
  refine V_iload_n C dX0_build_9 0 rfl ?_
  refine V_aload_n C dX0_build_10 1 rfl ?_
  refine V_get (ci := 0) (k := 0) C dX0_build_11 RX0 RX0 TX0 6 fw_X0 rfl (by decide) tw_196 rfl rfl hH rfl ?_
  refine V_alen (v := nI 6) C dX0_build_14 rfl hS rfl ?_
  refine V_icmpn_ge (tgt := 35) C dX0_build_15 (by decide) (by omega) (by decide) (fun hb2 => by exfalso; omega) (fun hb2 => ?_)
  refine V_aload_n C dX0_build_18 1 rfl ?_
  refine V_get (ci := 0) (k := 0) C dX0_build_19 RX0 RX0 TX0 6 fw_X0 rfl (by decide) tw_196 rfl rfl hH rfl ?_
  refine V_iload_n C dX0_build_22 0 rfl ?_
  refine V_aload_n C dX0_build_23 2 rfl ?_
  refine V_aastn (r := (RX4, TX4, 2)) C dX0_build_24 rfl hS rfl hu rfl (by omega) (by decide) ?_
  refine V_wd (w' := wset w LS (eQ RX4 6 (va_up fs sc (some (ad Lu))))) rfl ?_
  refine V_aload_n C dX0_build_25 1 rfl ?_
  refine V_dup C dX0_build_26 rfl ?_
  refine V_get (ci := 0) (k := 1) C dX0_build_27 RX0 RX0 TX0 6 fw_X0 rfl (by decide) tw_198 rfl rfl ((wset_n hHS).trans hH) rfl ?_
  refine V_iconst (v := nI 1) C dX0_build_30 (by decide) ?_
  refine V_iaddn C dX0_build_31 ?_
  refine V_put (ci := 0) (k := 1) C dX0_build_32 RX0 RX0 TX0 6 tyX0 tyX0_ok nmX0 fw_X0 rfl (by decide) tw_198 rfl (Or.inl rfl) rfl rfl rfl ((wset_n hHS).trans hH) (Nat.le_of_ble_eq_true rfl) ?_
  refine V_wd (w' := wset (wset w LS (eQ RX4 6 (va_up fs sc (some (ad Lu))))) LH (.inr (0, [.ref (ad LS), .int (nI (sc + 1)), .int (nI dm), .int (nI du), .int ce, .int (nI dy)]))) rfl ?_
  refine V_iload_n C dX0_build_35 0 rfl ?_
  exact V_iret C .int dX0_build_36 hr rfl ⟨rfl, rfl, rfl⟩ (by omega) (by omega)
set_option maxHeartbeats 4000000 in
theorem c_hardUnder {l : Launch} {D : va_G} {ba d : Nat} {ad : Adr} {w : Wd} (hl : l.stackTraces = false) (hd : 1 ≤ d) {LU : Lab} {hb ds : Nat} (hU : w LU = some (.inr (3, [.int (nI hb), .int (nI ds)]))) (du : Nat) (hhb : hb ≤ 99) (hdu : du ≤ 100) : CT l yX4_hardnessUnder (wsO yX4_hardnessUnder cX4_hardnessUnder 2 (some .int)) d 0 0 D ba [.ref (ad LU), .int (nI du)] ad w (isR (some (.int (nI (hb - du / 5)))) ad w) noX := by
  refine CT_of RX4 rfl (by decide +kernel) hl (Nat.le_of_ble_eq_true rfl) ?_
  intro p e s m args below meth c C hr hnm
  refine V_lvE (lv' := [(0, .ref (ad LU)), (1, .int (nI du))]) rfl ?_
  refine V_iconst (v := nI 0) C dX4_hardnessUnder_0 (by decide) ?_
  refine V_aload_n C dX4_hardnessUnder_1 0 rfl ?_
  refine V_get (ci := 3) (k := 0) C dX4_hardnessUnder_2 RX4 RX4 TX4 2 fw_X4 rfl (by decide) tw_266 rfl rfl hU rfl ?_
  refine V_iload_n C dX4_hardnessUnder_5 1 rfl ?_
  refine V_iconst (v := nI 5) C dX4_hardnessUnder_6 (by decide) ?_
  refine V_idivn C dX4_hardnessUnder_7 (by omega) (by omega) (by omega) ?_
  refine V_isub C dX4_hardnessUnder_8 ?_
  refine V_max C dX4_hardnessUnder_9 tw_299 tw_300 tw_15 tw_301 (by omega) (by simp [Value.category]; try omega) (by omega) (by omega) ?_
  rw [show (if (nI 0) < (nI hb - nI (du / 5)) then (nI hb - nI (du / 5)) else (nI 0)) = (nI (hb - du / 5)) from nI_sub0 (by omega) (by omega)]
  exact V_iret C .int dX4_hardnessUnder_12 hr rfl ⟨rfl, rfl, rfl⟩ (by omega) (by omega)
abbrev eT (li co lc fi la : Int32) : Ent := .inr (4, [.int li, .int co, .int lc, .int fi, .int la])
def tLo (l li lc : Int32) : Int32 := if l < li then lc else lc + nI 1
def tFi (m fi : Int32) : Int32 := if fi = -1 then m else if fi ≤ m then fi else m
def tLa (m la : Int32) : Int32 := if m ≤ la then la else m
def okS (ea mo lt : Nat) (co lc fi la : Int32) : Nat := if co = 0 then 1 else if fi < nI ea then 0 else if nI lt < la then 0 else if nI mo < lc then 0 else 1
set_option maxHeartbeats 4000000 in
theorem c_tBegin {l : Launch} {D : va_G} {ba d : Nat} {ad : Adr} {w : Wd} (hl : l.stackTraces = false) (hd : 1 ≤ d) {LT : Lab} {li co lc fi la : Int32} (hT : w LT = some (eT li co lc fi la)) (q : Int32) : CT l yX5_begin (wsO yX5_begin cX5_begin 2 none) d 0 0 D ba [.ref (ad LT), .int q] ad w (isR none ad (wset w LT (eT q (nI 0) (nI 0) (-1) (-1)))) noX := by
  refine CT_of RX5 rfl (by decide +kernel) hl (Nat.le_of_ble_eq_true rfl) ?_
  intro p e s m args below meth c C hr hnm
  refine V_lvE (lv' := [(0, .ref (ad LT)), (1, .int q)]) rfl ?_
  refine V_aload_n C dX5_begin_0 0 rfl ?_
  refine V_iload_n C dX5_begin_1 1 rfl ?_
  refine V_put (ci := 4) (k := 0) C dX5_begin_2 RX5 RX5 TX5 5 tyX5 tyX5_ok nmX5 fw_X5 rfl (by decide) tw_35 rfl (Or.inl rfl) rfl rfl rfl hT (Nat.le_of_ble_eq_true rfl) ?_
  refine V_wd (w' := wset w LT (.inr (4, [.int q, .int co, .int lc, .int fi, .int la]))) rfl ?_
  refine V_aload_n C dX5_begin_5 0 rfl ?_
  refine V_iconst (v := nI 0) C dX5_begin_6 (by decide) ?_
  refine V_put (ci := 4) (k := 1) C dX5_begin_7 RX5 RX5 TX5 5 tyX5 tyX5_ok nmX5 fw_X5 rfl (by decide) tw_37 rfl (Or.inl rfl) rfl rfl rfl wset_s (Nat.le_of_ble_eq_true rfl) ?_
  refine V_wd (w' := wset w LT (.inr (4, [.int q, .int (nI 0), .int lc, .int fi, .int la]))) wset_wset ?_
  refine V_aload_n C dX5_begin_10 0 rfl ?_
  refine V_iconst (v := nI 0) C dX5_begin_11 (by decide) ?_
  refine V_put (ci := 4) (k := 2) C dX5_begin_12 RX5 RX5 TX5 5 tyX5 tyX5_ok nmX5 fw_X5 rfl (by decide) tw_39 rfl (Or.inl rfl) rfl rfl rfl wset_s (Nat.le_of_ble_eq_true rfl) ?_
  refine V_wd (w' := wset w LT (.inr (4, [.int q, .int (nI 0), .int (nI 0), .int fi, .int la]))) wset_wset ?_
  refine V_aload_n C dX5_begin_15 0 rfl ?_
  refine V_iconst (v := -1) C dX5_begin_16 (by decide) ?_
  refine V_put (ci := 4) (k := 3) C dX5_begin_17 RX5 RX5 TX5 5 tyX5 tyX5_ok nmX5 fw_X5 rfl (by decide) tw_43 rfl (Or.inl rfl) rfl rfl rfl wset_s (Nat.le_of_ble_eq_true rfl) ?_
  refine V_wd (w' := wset w LT (.inr (4, [.int q, .int (nI 0), .int (nI 0), .int (-1), .int la]))) wset_wset ?_
  refine V_aload_n C dX5_begin_20 0 rfl ?_
  refine V_iconst (v := -1) C dX5_begin_21 (by decide) ?_
  refine V_put (ci := 4) (k := 4) C dX5_begin_22 RX5 RX5 TX5 5 tyX5 tyX5_ok nmX5 fw_X5 rfl (by decide) tw_46 rfl (Or.inl rfl) rfl rfl rfl wset_s (Nat.le_of_ble_eq_true rfl) ?_
  refine V_wd (w' := wset w LT (.inr (4, [.int q, .int (nI 0), .int (nI 0), .int (-1), .int (-1)]))) wset_wset ?_
  exact V_vret C dX5_begin_25 hr ⟨rfl, rfl, rfl⟩ (by omega) (by omega)
set_option maxHeartbeats 4000000 in
theorem c_tHear {l : Launch} {D : va_G} {ba d : Nat} {ad : Adr} {w : Wd} (hl : l.stackTraces = false) (hd : 1 ≤ d) {LT : Lab} {li co lc fi la : Int32} (hT : w LT = some (eT li co lc fi la)) (m1 l1 : Int32) : CT l yX5_hear (wsO yX5_hear cX5_hear 3 none) d 0 0 D ba [.ref (ad LT), .int m1, .int l1] ad w (isR none ad (wset w LT (eT li (co + nI 1) (tLo l1 li lc) (tFi m1 fi) (tLa m1 la)))) noX := by
  refine CT_of RX5 rfl (by decide +kernel) hl (Nat.le_of_ble_eq_true rfl) ?_
  intro p e s m args below meth c C hr hnm
  refine V_lvE (lv' := [(0, .ref (ad LT)), (1, .int m1), (2, .int l1)]) rfl ?_
  refine V_aload_n C dX5_hear_0 0 rfl ?_
  refine V_dup C dX5_hear_1 rfl ?_
  refine V_get (ci := 4) (k := 1) C dX5_hear_2 RX5 RX5 TX5 5 fw_X5 rfl (by decide) tw_37 rfl rfl hT rfl ?_
  refine V_iconst (v := nI 1) C dX5_hear_5 (by decide) ?_
  refine V_iadd C dX5_hear_6 ?_
  refine V_put (ci := 4) (k := 1) C dX5_hear_7 RX5 RX5 TX5 5 tyX5 tyX5_ok nmX5 fw_X5 rfl (by decide) tw_37 rfl (Or.inl rfl) rfl rfl rfl hT (Nat.le_of_ble_eq_true rfl) ?_
  refine V_wd (w' := wset w LT (.inr (4, [.int li, .int (co + (nI 1)), .int lc, .int fi, .int la]))) rfl ?_
  refine V_iload_n C dX5_hear_10 2 rfl ?_
  refine V_aload_n C dX5_hear_11 0 rfl ?_
  refine V_get (ci := 4) (k := 0) C dX5_hear_12 RX5 RX5 TX5 5 fw_X5 rfl (by decide) tw_35 rfl rfl wset_s rfl ?_
  refine V_icmp_lt (tgt := 28) C dX5_hear_15 (by decide) (fun hb1 => ?_) (fun hb1 => ?_)
  · skip
    refine V_aload_n C dX5_hear_28 0 rfl ?_
    refine V_get (ci := 4) (k := 3) C dX5_hear_29 RX5 RX5 TX5 5 fw_X5 rfl (by decide) tw_43 rfl rfl wset_s rfl ?_
    refine V_iconst (v := -1) C dX5_hear_32 (by decide) ?_
    refine V_icmp_eq (tgt := 44) C dX5_hear_33 (by decide) (fun hb2 => ?_) (fun hb2 => ?_)
    · skip
      refine V_aload_n C dX5_hear_44 0 rfl ?_
      refine V_iload_n C dX5_hear_45 1 rfl ?_
      refine V_put (ci := 4) (k := 3) C dX5_hear_46 RX5 RX5 TX5 5 tyX5 tyX5_ok nmX5 fw_X5 rfl (by decide) tw_43 rfl (Or.inl rfl) rfl rfl rfl wset_s (Nat.le_of_ble_eq_true rfl) ?_
      refine V_wd (w' := wset w LT (.inr (4, [.int li, .int (co + (nI 1)), .int lc, .int m1, .int la]))) wset_wset ?_
      refine V_iload_n C dX5_hear_49 1 rfl ?_
      refine V_aload_n C dX5_hear_50 0 rfl ?_
      refine V_get (ci := 4) (k := 4) C dX5_hear_51 RX5 RX5 TX5 5 fw_X5 rfl (by decide) tw_46 rfl rfl wset_s rfl ?_
      refine V_icmp_le (tgt := 62) C dX5_hear_54 (by decide) (fun hb3 => ?_) (fun hb3 => ?_)
      · skip
        exact V_vret C dX5_hear_62 hr ⟨rfl, rfl, by simp only [tLo, tFi, tLa]; rw [if_pos hb1, if_pos hb2, if_pos hb3]⟩ (by omega) (by omega)
      · skip
        refine V_aload_n C dX5_hear_57 0 rfl ?_
        refine V_iload_n C dX5_hear_58 1 rfl ?_
        refine V_put (ci := 4) (k := 4) C dX5_hear_59 RX5 RX5 TX5 5 tyX5 tyX5_ok nmX5 fw_X5 rfl (by decide) tw_46 rfl (Or.inl rfl) rfl rfl rfl wset_s (Nat.le_of_ble_eq_true rfl) ?_
        refine V_wd (w' := wset w LT (.inr (4, [.int li, .int (co + (nI 1)), .int lc, .int m1, .int m1]))) wset_wset ?_
        exact V_vret C dX5_hear_62 hr ⟨rfl, rfl, by simp only [tLo, tFi, tLa]; rw [if_pos hb1, if_pos hb2, if_neg hb3]⟩ (by omega) (by omega)
    · skip
      refine V_iload_n C dX5_hear_36 1 rfl ?_
      refine V_aload_n C dX5_hear_37 0 rfl ?_
      refine V_get (ci := 4) (k := 3) C dX5_hear_38 RX5 RX5 TX5 5 fw_X5 rfl (by decide) tw_43 rfl rfl wset_s rfl ?_
      refine V_icmp_ge (tgt := 49) C dX5_hear_41 (by decide) (fun hb4 => ?_) (fun hb4 => ?_)
      · skip
        refine V_iload_n C dX5_hear_49 1 rfl ?_
        refine V_aload_n C dX5_hear_50 0 rfl ?_
        refine V_get (ci := 4) (k := 4) C dX5_hear_51 RX5 RX5 TX5 5 fw_X5 rfl (by decide) tw_46 rfl rfl wset_s rfl ?_
        refine V_icmp_le (tgt := 62) C dX5_hear_54 (by decide) (fun hb5 => ?_) (fun hb5 => ?_)
        · skip
          exact V_vret C dX5_hear_62 hr ⟨rfl, rfl, by simp only [tLo, tFi, tLa]; rw [if_pos hb1, if_neg hb2, if_pos hb4, if_pos hb5]⟩ (by omega) (by omega)
        · skip
          refine V_aload_n C dX5_hear_57 0 rfl ?_
          refine V_iload_n C dX5_hear_58 1 rfl ?_
          refine V_put (ci := 4) (k := 4) C dX5_hear_59 RX5 RX5 TX5 5 tyX5 tyX5_ok nmX5 fw_X5 rfl (by decide) tw_46 rfl (Or.inl rfl) rfl rfl rfl wset_s (Nat.le_of_ble_eq_true rfl) ?_
          refine V_wd (w' := wset w LT (.inr (4, [.int li, .int (co + (nI 1)), .int lc, .int fi, .int m1]))) wset_wset ?_
          exact V_vret C dX5_hear_62 hr ⟨rfl, rfl, by simp only [tLo, tFi, tLa]; rw [if_pos hb1, if_neg hb2, if_pos hb4, if_neg hb5]⟩ (by omega) (by omega)
      · skip
        refine V_aload_n C dX5_hear_44 0 rfl ?_
        refine V_iload_n C dX5_hear_45 1 rfl ?_
        refine V_put (ci := 4) (k := 3) C dX5_hear_46 RX5 RX5 TX5 5 tyX5 tyX5_ok nmX5 fw_X5 rfl (by decide) tw_43 rfl (Or.inl rfl) rfl rfl rfl wset_s (Nat.le_of_ble_eq_true rfl) ?_
        refine V_wd (w' := wset w LT (.inr (4, [.int li, .int (co + (nI 1)), .int lc, .int m1, .int la]))) wset_wset ?_
        refine V_iload_n C dX5_hear_49 1 rfl ?_
        refine V_aload_n C dX5_hear_50 0 rfl ?_
        refine V_get (ci := 4) (k := 4) C dX5_hear_51 RX5 RX5 TX5 5 fw_X5 rfl (by decide) tw_46 rfl rfl wset_s rfl ?_
        refine V_icmp_le (tgt := 62) C dX5_hear_54 (by decide) (fun hb6 => ?_) (fun hb6 => ?_)
        · skip
          exact V_vret C dX5_hear_62 hr ⟨rfl, rfl, by simp only [tLo, tFi, tLa]; rw [if_pos hb1, if_neg hb2, if_neg hb4, if_pos hb6]⟩ (by omega) (by omega)
        · skip
          refine V_aload_n C dX5_hear_57 0 rfl ?_
          refine V_iload_n C dX5_hear_58 1 rfl ?_
          refine V_put (ci := 4) (k := 4) C dX5_hear_59 RX5 RX5 TX5 5 tyX5 tyX5_ok nmX5 fw_X5 rfl (by decide) tw_46 rfl (Or.inl rfl) rfl rfl rfl wset_s (Nat.le_of_ble_eq_true rfl) ?_
          refine V_wd (w' := wset w LT (.inr (4, [.int li, .int (co + (nI 1)), .int lc, .int m1, .int m1]))) wset_wset ?_
          exact V_vret C dX5_hear_62 hr ⟨rfl, rfl, by simp only [tLo, tFi, tLa]; rw [if_pos hb1, if_neg hb2, if_neg hb4, if_neg hb6]⟩ (by omega) (by omega)
  · skip
    refine V_aload_n C dX5_hear_18 0 rfl ?_
    refine V_dup C dX5_hear_19 rfl ?_
    refine V_get (ci := 4) (k := 2) C dX5_hear_20 RX5 RX5 TX5 5 fw_X5 rfl (by decide) tw_39 rfl rfl wset_s rfl ?_
    refine V_iconst (v := nI 1) C dX5_hear_23 (by decide) ?_
    refine V_iadd C dX5_hear_24 ?_
    refine V_put (ci := 4) (k := 2) C dX5_hear_25 RX5 RX5 TX5 5 tyX5 tyX5_ok nmX5 fw_X5 rfl (by decide) tw_39 rfl (Or.inl rfl) rfl rfl rfl wset_s (Nat.le_of_ble_eq_true rfl) ?_
    refine V_wd (w' := wset w LT (.inr (4, [.int li, .int (co + (nI 1)), .int (lc + (nI 1)), .int fi, .int la]))) wset_wset ?_
    refine V_aload_n C dX5_hear_28 0 rfl ?_
    refine V_get (ci := 4) (k := 3) C dX5_hear_29 RX5 RX5 TX5 5 fw_X5 rfl (by decide) tw_43 rfl rfl wset_s rfl ?_
    refine V_iconst (v := -1) C dX5_hear_32 (by decide) ?_
    refine V_icmp_eq (tgt := 44) C dX5_hear_33 (by decide) (fun hb7 => ?_) (fun hb7 => ?_)
    · skip
      refine V_aload_n C dX5_hear_44 0 rfl ?_
      refine V_iload_n C dX5_hear_45 1 rfl ?_
      refine V_put (ci := 4) (k := 3) C dX5_hear_46 RX5 RX5 TX5 5 tyX5 tyX5_ok nmX5 fw_X5 rfl (by decide) tw_43 rfl (Or.inl rfl) rfl rfl rfl wset_s (Nat.le_of_ble_eq_true rfl) ?_
      refine V_wd (w' := wset w LT (.inr (4, [.int li, .int (co + (nI 1)), .int (lc + (nI 1)), .int m1, .int la]))) wset_wset ?_
      refine V_iload_n C dX5_hear_49 1 rfl ?_
      refine V_aload_n C dX5_hear_50 0 rfl ?_
      refine V_get (ci := 4) (k := 4) C dX5_hear_51 RX5 RX5 TX5 5 fw_X5 rfl (by decide) tw_46 rfl rfl wset_s rfl ?_
      refine V_icmp_le (tgt := 62) C dX5_hear_54 (by decide) (fun hb8 => ?_) (fun hb8 => ?_)
      · skip
        exact V_vret C dX5_hear_62 hr ⟨rfl, rfl, by simp only [tLo, tFi, tLa]; rw [if_neg hb1, if_pos hb7, if_pos hb8]⟩ (by omega) (by omega)
      · skip
        refine V_aload_n C dX5_hear_57 0 rfl ?_
        refine V_iload_n C dX5_hear_58 1 rfl ?_
        refine V_put (ci := 4) (k := 4) C dX5_hear_59 RX5 RX5 TX5 5 tyX5 tyX5_ok nmX5 fw_X5 rfl (by decide) tw_46 rfl (Or.inl rfl) rfl rfl rfl wset_s (Nat.le_of_ble_eq_true rfl) ?_
        refine V_wd (w' := wset w LT (.inr (4, [.int li, .int (co + (nI 1)), .int (lc + (nI 1)), .int m1, .int m1]))) wset_wset ?_
        exact V_vret C dX5_hear_62 hr ⟨rfl, rfl, by simp only [tLo, tFi, tLa]; rw [if_neg hb1, if_pos hb7, if_neg hb8]⟩ (by omega) (by omega)
    · skip
      refine V_iload_n C dX5_hear_36 1 rfl ?_
      refine V_aload_n C dX5_hear_37 0 rfl ?_
      refine V_get (ci := 4) (k := 3) C dX5_hear_38 RX5 RX5 TX5 5 fw_X5 rfl (by decide) tw_43 rfl rfl wset_s rfl ?_
      refine V_icmp_ge (tgt := 49) C dX5_hear_41 (by decide) (fun hb9 => ?_) (fun hb9 => ?_)
      · skip
        refine V_iload_n C dX5_hear_49 1 rfl ?_
        refine V_aload_n C dX5_hear_50 0 rfl ?_
        refine V_get (ci := 4) (k := 4) C dX5_hear_51 RX5 RX5 TX5 5 fw_X5 rfl (by decide) tw_46 rfl rfl wset_s rfl ?_
        refine V_icmp_le (tgt := 62) C dX5_hear_54 (by decide) (fun hb10 => ?_) (fun hb10 => ?_)
        · skip
          exact V_vret C dX5_hear_62 hr ⟨rfl, rfl, by simp only [tLo, tFi, tLa]; rw [if_neg hb1, if_neg hb7, if_pos hb9, if_pos hb10]⟩ (by omega) (by omega)
        · skip
          refine V_aload_n C dX5_hear_57 0 rfl ?_
          refine V_iload_n C dX5_hear_58 1 rfl ?_
          refine V_put (ci := 4) (k := 4) C dX5_hear_59 RX5 RX5 TX5 5 tyX5 tyX5_ok nmX5 fw_X5 rfl (by decide) tw_46 rfl (Or.inl rfl) rfl rfl rfl wset_s (Nat.le_of_ble_eq_true rfl) ?_
          refine V_wd (w' := wset w LT (.inr (4, [.int li, .int (co + (nI 1)), .int (lc + (nI 1)), .int fi, .int m1]))) wset_wset ?_
          exact V_vret C dX5_hear_62 hr ⟨rfl, rfl, by simp only [tLo, tFi, tLa]; rw [if_neg hb1, if_neg hb7, if_pos hb9, if_neg hb10]⟩ (by omega) (by omega)
      · skip
        refine V_aload_n C dX5_hear_44 0 rfl ?_
        refine V_iload_n C dX5_hear_45 1 rfl ?_
        refine V_put (ci := 4) (k := 3) C dX5_hear_46 RX5 RX5 TX5 5 tyX5 tyX5_ok nmX5 fw_X5 rfl (by decide) tw_43 rfl (Or.inl rfl) rfl rfl rfl wset_s (Nat.le_of_ble_eq_true rfl) ?_
        refine V_wd (w' := wset w LT (.inr (4, [.int li, .int (co + (nI 1)), .int (lc + (nI 1)), .int m1, .int la]))) wset_wset ?_
        refine V_iload_n C dX5_hear_49 1 rfl ?_
        refine V_aload_n C dX5_hear_50 0 rfl ?_
        refine V_get (ci := 4) (k := 4) C dX5_hear_51 RX5 RX5 TX5 5 fw_X5 rfl (by decide) tw_46 rfl rfl wset_s rfl ?_
        refine V_icmp_le (tgt := 62) C dX5_hear_54 (by decide) (fun hb11 => ?_) (fun hb11 => ?_)
        · skip
          exact V_vret C dX5_hear_62 hr ⟨rfl, rfl, by simp only [tLo, tFi, tLa]; rw [if_neg hb1, if_neg hb7, if_neg hb9, if_pos hb11]⟩ (by omega) (by omega)
        · skip
          refine V_aload_n C dX5_hear_57 0 rfl ?_
          refine V_iload_n C dX5_hear_58 1 rfl ?_
          refine V_put (ci := 4) (k := 4) C dX5_hear_59 RX5 RX5 TX5 5 tyX5 tyX5_ok nmX5 fw_X5 rfl (by decide) tw_46 rfl (Or.inl rfl) rfl rfl rfl wset_s (Nat.le_of_ble_eq_true rfl) ?_
          refine V_wd (w' := wset w LT (.inr (4, [.int li, .int (co + (nI 1)), .int (lc + (nI 1)), .int m1, .int m1]))) wset_wset ?_
          exact V_vret C dX5_hear_62 hr ⟨rfl, rfl, by simp only [tLo, tFi, tLa]; rw [if_neg hb1, if_neg hb7, if_neg hb9, if_neg hb11]⟩ (by omega) (by omega)
set_option maxHeartbeats 4000000 in
theorem c_allows {l : Launch} {D : va_G} {ba d : Nat} {ad : Adr} {w : Wd} (hl : l.stackTraces = false) (hd : 1 ≤ d) {LT LD : Lab} {tl co lc fi la : Int32} {ea li mo lt dy : Nat} (hT : w LT = some (eT tl co lc fi la)) (hD : w LD = some (.inr (2, [.int (nI ea), .int (nI li), .int (nI mo), .int (nI lt), .int (nI dy)]))) : CT l yX3_allows (wsO yX3_allows cX3_allows 2 (some .boolean)) d 0 0 D ba [.ref (ad LD), .ref (ad LT)] ad w (isR (some (.int (nI (okS ea mo lt co lc fi la)))) ad w) noX := by
  refine CT_of RX3 rfl (by decide +kernel) hl (Nat.le_of_ble_eq_true rfl) ?_
  intro p e s m args below meth c C hr hnm
  refine V_lvE (lv' := [(0, .ref (ad LD)), (1, .ref (ad LT))]) rfl ?_
  refine V_aload_n C dX3_allows_0 1 rfl ?_
  refine V_getN (ci := 4) (k := 1) C dX3_allows_1 RX5 RX5 RX6 TX5 5 fw_X5 rfl (by decide) tw_36 rfl rfl hT rfl ?_
  refine V_if_ne (tgt := 9) C dX3_allows_4 (by decide) (fun hb1 => ?_) (fun hb1 => ?_)
  · skip
    refine V_aload_n C dX3_allows_9 1 rfl ?_
    refine V_getN (ci := 4) (k := 3) C dX3_allows_10 RX5 RX5 RX6 TX5 5 fw_X5 rfl (by decide) tw_42 rfl rfl hT rfl ?_
    refine V_aload_n C dX3_allows_13 0 rfl ?_
    refine V_get (ci := 2) (k := 0) C dX3_allows_14 RX3 RX3 TX3 5 fw_X3 rfl (by decide) tw_582 rfl rfl hD rfl ?_
    refine V_icmp_lt (tgt := 46) C dX3_allows_17 (by decide) (fun hb2 => ?_) (fun hb2 => ?_)
    · skip
      refine V_iconst (v := nI 0) C dX3_allows_46 (by decide) ?_
      exact V_iret C .boolean dX3_allows_47 hr rfl ⟨by rw [okS, if_neg hb1, if_pos hb2], rfl, rfl⟩ (by omega) (by omega)
    · skip
      refine V_aload_n C dX3_allows_20 1 rfl ?_
      refine V_getN (ci := 4) (k := 4) C dX3_allows_21 RX5 RX5 RX6 TX5 5 fw_X5 rfl (by decide) tw_45 rfl rfl hT rfl ?_
      refine V_aload_n C dX3_allows_24 0 rfl ?_
      refine V_get (ci := 2) (k := 3) C dX3_allows_25 RX3 RX3 TX3 5 fw_X3 rfl (by decide) tw_586 rfl rfl hD rfl ?_
      refine V_icmp_gt (tgt := 46) C dX3_allows_28 (by decide) (fun hb3 => ?_) (fun hb3 => ?_)
      · skip
        refine V_iconst (v := nI 0) C dX3_allows_46 (by decide) ?_
        exact V_iret C .boolean dX3_allows_47 hr rfl ⟨by rw [okS, if_neg hb1, if_neg hb2, if_pos hb3], rfl, rfl⟩ (by omega) (by omega)
      · skip
        refine V_aload_n C dX3_allows_31 1 rfl ?_
        refine V_getN (ci := 4) (k := 2) C dX3_allows_32 RX5 RX5 RX6 TX5 5 fw_X5 rfl (by decide) tw_40 rfl rfl hT rfl ?_
        refine V_aload_n C dX3_allows_35 0 rfl ?_
        refine V_get (ci := 2) (k := 2) C dX3_allows_36 RX3 RX3 TX3 5 fw_X3 rfl (by decide) tw_585 rfl rfl hD rfl ?_
        refine V_icmp_gt (tgt := 46) C dX3_allows_39 (by decide) (fun hb4 => ?_) (fun hb4 => ?_)
        · skip
          refine V_iconst (v := nI 0) C dX3_allows_46 (by decide) ?_
          exact V_iret C .boolean dX3_allows_47 hr rfl ⟨by rw [okS, if_neg hb1, if_neg hb2, if_neg hb3, if_pos hb4], rfl, rfl⟩ (by omega) (by omega)
        · skip
          refine V_iconst (v := nI 1) C dX3_allows_42 (by decide) ?_
          refine V_goto (tgt := 47) C dX3_allows_43 (by decide) ?_
          exact V_iret C .boolean dX3_allows_47 hr rfl ⟨by rw [okS, if_neg hb1, if_neg hb2, if_neg hb3, if_neg hb4], rfl, rfl⟩ (by omega) (by omega)
  · skip
    refine V_iconst (v := nI 1) C dX3_allows_7 (by decide) ?_
    exact V_iret C .boolean dX3_allows_8 hr rfl ⟨by rw [okS, if_pos hb1], rfl, rfl⟩ (by omega) (by omega)
def fillF (x : Int32) (f : Nat → Int32) (k : Nat) : Nat → Int32 := fun j => if j < k then x else f j
theorem fillF_0 {x : Int32} {f : Nat → Int32} : fillF x f 0 = f := by funext j; simp [fillF]
theorem fillF_s {x : Int32} {f : Nat → Int32} {k : Nat} : upd (fillF x f k) k x = fillF x f (k + 1) := by
  funext j
  by_cases h : j = k
  · subst h; simp [upd, fillF]
  · simp only [upd, if_neg h, fillF]
    by_cases h2 : j < k
    · rw [if_pos h2, if_pos (by omega)]
    · rw [if_neg h2, if_neg (by omega)]
theorem wset_id {w : Wd} {L : Lab} {e : Ent} (h : w L = some e) : wset w L e = w := by
  funext L'
  by_cases h' : L' = L
  · subst h'; rw [wset_s, h]
  · rw [wset_n h']
set_option maxHeartbeats 4000000 in
theorem lp_fill {p : Program} {l : Launch} {e : Env} {s : State} {m : MethodId} {args : Array Value} {below : List Frame} {meth : Method} {c : Code} {D : va_G} {ba d mc ms : Nat} {ad : Adr} {w : Wd} {QR : Option Value → Adr → Wd → Prop} {QX : String → Adr → Wd → Prop} (C : Cx p l s m args meth c D ba RJ7 cJ7_fill_53178 4 [] d) (hl : l.stackTraces = false) (hr : meth.sig.returnType = none) (hd : 1 ≤ d) {LF : Lab} {f : Nat → Int32} {x : Int32} {n0 : Nat} (h0 : n0 ≤ 100000) (hq : QR none ad (wset w LF (eI n0 (fillF x f n0)))) : ∀ (n : Nat) (k : Nat), k + n = n0 → V p l e s m args below meth c D ba d mc ms (MO D ba QR QX below args s mc ms) 4 ad (wset w LF (eI n0 (fillF x f k))) 5 [(3, .int (nI n0)), (2, .int (nI k)), (0, .ref (ad LF)), (1, .int x)] [] 0 0 := by
  intro n
  induction n with
  | zero =>
    intro k hk
    refine V_iload_n C dJ7_fill_53178_5 1 rfl ?_
    refine V_iload_n C dJ7_fill_53178_6 0 rfl ?_
    refine V_icmpn_ge (tgt := 20) C dJ7_fill_53178_7 (by decide) (by omega) (by omega) (fun hb1 => ?_) (fun hb1 => by exfalso; omega)
    exact V_vret C dJ7_fill_53178_20 hr (by rw [show k = n0 by omega]; exact hq) (by omega) (by omega)
  | succ n ih =>
    intro k hk
    refine V_iload_n C dJ7_fill_53178_5 1 rfl ?_
    refine V_iload_n C dJ7_fill_53178_6 0 rfl ?_
    refine V_icmpn_ge (tgt := 20) C dJ7_fill_53178_7 (by decide) (by omega) (by omega) (fun hb1 => by exfalso; omega) (fun hb1 => ?_)
    refine V_aload_n C dJ7_fill_53178_10 2 rfl ?_
    refine V_iload_n C dJ7_fill_53178_11 1 rfl ?_
    refine V_iload_n C dJ7_fill_53178_12 3 rfl ?_
    refine V_iastn C dJ7_fill_53178_13 rfl wset_s (by omega) (by omega) ?_
    refine V_wd (w' := wset (wset w LF (eI n0 (fillF x f k))) LF (eI n0 (upd (fillF x f k) k x))) rfl ?_
    refine V_iincn C [(2, .int (nI (k + 1))), (3, .int (nI n0)), (0, .ref (ad LF)), (1, .int x)] dJ7_fill_53178_14 1 rfl (by decide) rfl ?_
    refine V_goto (tgt := 5) C dJ7_fill_53178_17 (by decide) ?_
    refine V_wd (w' := wset w LF (eI n0 (fillF x f (k + 1)))) (by rw [wset_wset, fillF_s]) ?_
    refine V_lv [1, 0, 2, 3] rfl ?_
    exact ih (k + 1) (by omega)
set_option maxHeartbeats 4000000 in
theorem c_fill {l : Launch} {D : va_G} {ba d : Nat} {ad : Adr} {w : Wd} (hl : l.stackTraces = false) (hd : 1 ≤ d) {LF : Lab} {f : Nat → Int32} {n0 : Nat} (hF : w LF = some (eI n0 f)) (h0 : n0 ≤ 100000) (x : Int32) : CT l yJ7_fill_53178 (wsO yJ7_fill_53178 cJ7_fill_53178 4 none) d 0 0 D ba [.ref (ad LF), .int x] ad w (isR none ad (wset w LF (eI n0 (fillF x f n0)))) noX := by
  refine CT_of RJ7 rfl (by decide +kernel) hl (Nat.le_of_ble_eq_true rfl) ?_
  intro p e s m args below meth c C hr hnm
  refine V_lvE (lv' := [(0, .ref (ad LF)), (1, .int x)]) rfl ?_
  refine V_iconst (v := nI 0) C dJ7_fill_53178_0 (by decide) ?_
  refine V_istore_n C [(2, .int (nI 0)), (0, .ref (ad LF)), (1, .int x)] dJ7_fill_53178_1 (by decide) rfl ?_
  refine V_aload_n C dJ7_fill_53178_2 1 rfl ?_
  refine V_alen (v := nI n0) C dJ7_fill_53178_3 rfl hF rfl ?_
  refine V_istore_n C [(3, .int (nI n0)), (2, .int (nI 0)), (0, .ref (ad LF)), (1, .int x)] dJ7_fill_53178_4 (by decide) rfl ?_
  refine V_wd (w' := wset w LF (eI n0 (fillF x f 0))) (by rw [fillF_0, wset_id hF]) ?_
  refine V_lv [0, 1, 2, 3] rfl ?_
  exact lp_fill C hl hr (by omega) h0 ⟨rfl, rfl, rfl⟩ n0 0 (by omega)
set_option maxHeartbeats 4000000 in
theorem c_lBegin {l : Launch} {D : va_G} {ba d : Nat} {ad : Adr} {w : Wd} (hl : l.stackTraces = false) (hd : 2 ≤ d) {LL LA : Lab} {f : Nat → Int32} (hL : w LL = some (.inr (1, [.ref (ad LA)]))) (hA : w LA = some (eI 501 f))  : CT l yX2_begin (wsO yX2_begin cX2_begin 1 none) d 0 0 D ba [.ref (ad LL)] ad w (isR none ad (wset w LA (eI 501 (fillF (nI 0) f 501)))) noX := by
  refine CT_of RX2 rfl (by decide +kernel) hl (Nat.le_of_ble_eq_true rfl) ?_
  intro p e s m args below meth c C hr hnm
  refine V_lvE (lv' := [(0, .ref (ad LL))]) rfl ?_
  refine V_aload_n C dX2_begin_0 0 rfl ?_
  refine V_get (ci := 1) (k := 0) C dX2_begin_1 RX2 RX2 TX2 1 fw_X2 rfl (by decide) tw_65 rfl rfl hL rfl ?_
  refine V_iconst (v := nI 0) C dX2_begin_4 (by decide) ?_
  refine V_callS C [.ref (ad LA), .int (nI 0)] dX2_begin_5 m_J7_fill_53178 k_J7_fill_53178 tw_380 rfl rfl (Nat.le_of_ble_eq_true rfl) ⟨by omega, by omega, by omega, by omega⟩ (c_fill hl (by omega) hA (by decide) (nI 0)) (kr_none ?_) kx_no
  exact V_vret C dX2_begin_8 hr ⟨rfl, rfl, rfl⟩ (by omega) (by omega)
set_option maxHeartbeats 4000000 in
theorem c_lHear {l : Launch} {D : va_G} {ba d : Nat} {ad : Adr} {w : Wd} (hl : l.stackTraces = false) (hd : 1 ≤ d) {LL LA : Lab} {f : Nat → Int32} (hL : w LL = some (.inr (1, [.ref (ad LA)]))) (hA : w LA = some (eI 501 f)) (m1 : Nat) (l1 : Int32) (hm : m1 ≤ 3000) : CT l yX2_hear (wsO yX2_hear cX2_hear 4 none) d 0 0 D ba [.ref (ad LL), .int (nI m1), .int l1] ad w (isR none ad (wset w LA (eI 501 (upd f (m1 / 6) (f (m1 / 6) + l1))))) noX := by
  refine CT_of RX2 rfl (by decide +kernel) hl (Nat.le_of_ble_eq_true rfl) ?_
  intro p e s m args below meth c C hr hnm
  refine V_lvE (lv' := [(0, .ref (ad LL)), (1, .int (nI m1)), (2, .int l1)]) rfl ?_
  refine V_iload_n C dX2_hear_0 1 rfl ?_
  refine V_bipush (v := nI 6) C dX2_hear_1 (by decide) ?_
  refine V_idivn C dX2_hear_3 (by omega) (by omega) (by omega) ?_
  refine V_istore_n C [(3, .int (nI (m1 / 6))), (0, .ref (ad LL)), (1, .int (nI m1)), (2, .int l1)] dX2_hear_4 (by decide) rfl ?_
  refine V_iload_n C dX2_hear_5 0 rfl ?_
  refine V_ifn_lt (tgt := 28) C dX2_hear_6 (by decide) (by omega) ?_
  refine V_iload_n C dX2_hear_9 0 rfl ?_
  refine V_aload_n C dX2_hear_10 1 rfl ?_
  refine V_get (ci := 1) (k := 0) C dX2_hear_11 RX2 RX2 TX2 1 fw_X2 rfl (by decide) tw_65 rfl rfl hL rfl ?_
  refine V_alen (v := nI 501) C dX2_hear_14 rfl hA rfl ?_
  refine V_icmpn_ge (tgt := 28) C dX2_hear_15 (by decide) (by omega) (by decide) (fun hb2 => by exfalso; omega) (fun hb2 => ?_)
  refine V_aload_n C dX2_hear_18 1 rfl ?_
  refine V_get (ci := 1) (k := 0) C dX2_hear_19 RX2 RX2 TX2 1 fw_X2 rfl (by decide) tw_65 rfl rfl hL rfl ?_
  refine V_iload_n C dX2_hear_22 0 rfl ?_
  refine V_dup2 C dX2_hear_23 rfl rfl ?_
  refine V_ialdn (v := (f (m1 / 6))) C dX2_hear_24 rfl hA (by omega) (by decide) rfl ?_
  refine V_iload_n C dX2_hear_25 3 rfl ?_
  refine V_iadd C dX2_hear_26 ?_
  refine V_iastn C dX2_hear_27 rfl hA (by omega) (by decide) ?_
  refine V_wd (w' := wset w LA (eI 501 (upd f (m1 / 6) ((f (m1 / 6)) + l1)))) rfl ?_
  exact V_vret C dX2_hear_28 hr ⟨rfl, rfl, rfl⟩ (by omega) (by omega)
set_option maxHeartbeats 4000000 in
theorem c_addedAt {l : Launch} {D : va_G} {ba d : Nat} {ad : Adr} {w : Wd} (hl : l.stackTraces = false) (hd : 1 ≤ d) {LL LA : Lab} {f : Nat → Int32} (hL : w LL = some (.inr (1, [.ref (ad LA)]))) (hA : w LA = some (eI 501 f)) (m1 : Nat) (hm : m1 ≤ 3000) : CT l yX2_addedAt (wsO yX2_addedAt cX2_addedAt 4 (some .int)) d 0 0 D ba [.ref (ad LL), .int (nI m1)] ad w (isR (some (.int (if m1 % 6 = 0 then f (m1 / 6) else nI 0))) ad w) noX := by
  refine CT_of RX2 rfl (by decide +kernel) hl (Nat.le_of_ble_eq_true rfl) ?_
  intro p e s m args below meth c C hr hnm
  refine V_lvE (lv' := [(0, .ref (ad LL)), (1, .int (nI m1))]) rfl ?_
  refine V_iload_n C dX2_addedAt_0 1 rfl ?_
  refine V_bipush (v := nI 6) C dX2_addedAt_1 (by decide) ?_
  refine V_idivn C dX2_addedAt_3 (by omega) (by omega) (by omega) ?_
  refine V_istore_n C [(2, .int (nI (m1 / 6))), (0, .ref (ad LL)), (1, .int (nI m1))] dX2_addedAt_4 (by decide) rfl ?_
  refine V_iload_n C dX2_addedAt_5 2 rfl ?_
  refine V_bipush (v := nI 6) C dX2_addedAt_6 (by decide) ?_
  refine V_iremn C dX2_addedAt_8 (by omega) (by omega) (by omega) ?_
  refine V_ifn_ne (tgt := 29) C dX2_addedAt_9 (by decide) (by omega) (fun hb1 => ?_) (fun hb1 => ?_)
  · skip
    refine V_iconst (v := nI 0) C dX2_addedAt_29 (by decide) ?_
    refine V_istore_n C [(3, .int (nI 0)), (2, .int (nI (m1 / 6))), (0, .ref (ad LL)), (1, .int (nI m1))] dX2_addedAt_30 (by decide) rfl ?_
    refine V_iload_n C dX2_addedAt_31 0 rfl ?_
    refine V_ifn_eq (tgt := 44) C dX2_addedAt_32 (by decide) (by decide) (fun hb2 => ?_) (fun hb2 => by exfalso; omega)
    refine V_iconst (v := nI 0) C dX2_addedAt_44 (by decide) ?_
    exact V_iret C .int dX2_addedAt_45 hr rfl ⟨by rw [if_neg hb1], rfl, rfl⟩ (by omega) (by omega)
  · skip
    refine V_iload_n C dX2_addedAt_12 0 rfl ?_
    refine V_ifn_lt (tgt := 29) C dX2_addedAt_13 (by decide) (by omega) ?_
    refine V_iload_n C dX2_addedAt_16 0 rfl ?_
    refine V_aload_n C dX2_addedAt_17 1 rfl ?_
    refine V_get (ci := 1) (k := 0) C dX2_addedAt_18 RX2 RX2 TX2 1 fw_X2 rfl (by decide) tw_65 rfl rfl hL rfl ?_
    refine V_alen (v := nI 501) C dX2_addedAt_21 rfl hA rfl ?_
    refine V_icmpn_ge (tgt := 29) C dX2_addedAt_22 (by decide) (by omega) (by decide) (fun hb4 => by exfalso; omega) (fun hb4 => ?_)
    refine V_iconst (v := nI 1) C dX2_addedAt_25 (by decide) ?_
    refine V_goto (tgt := 30) C dX2_addedAt_26 (by decide) ?_
    refine V_istore_n C [(3, .int (nI 1)), (2, .int (nI (m1 / 6))), (0, .ref (ad LL)), (1, .int (nI m1))] dX2_addedAt_30 (by decide) rfl ?_
    refine V_iload_n C dX2_addedAt_31 0 rfl ?_
    refine V_ifn_eq (tgt := 44) C dX2_addedAt_32 (by decide) (by decide) (fun hb5 => by exfalso; omega) (fun hb5 => ?_)
    refine V_aload_n C dX2_addedAt_35 2 rfl ?_
    refine V_get (ci := 1) (k := 0) C dX2_addedAt_36 RX2 RX2 TX2 1 fw_X2 rfl (by decide) tw_65 rfl rfl hL rfl ?_
    refine V_iload_n C dX2_addedAt_39 1 rfl ?_
    refine V_ialdn (v := (f (m1 / 6))) C dX2_addedAt_40 rfl hA (by omega) (by decide) rfl ?_
    refine V_goto (tgt := 45) C dX2_addedAt_41 (by decide) ?_
    exact V_iret C .int dX2_addedAt_45 hr rfl ⟨by rw [if_pos hb1], rfl, rfl⟩ (by omega) (by omega)
def momF (f : Nat → Int32) : Nat → Nat → Int32 → Int32 → Int32
  | 0, _, _, mo => mo
  | n + 1, k, mx, mo => if f k ≤ mx then momF f n (k + 1) mx mo else momF f n (k + 1) (f k) (nI (k * 6))
def nx (hd dm l : Nat) : Nat := l * hd / 100 * (100 - dm) / 100
theorem nx_b {hd dm l : Nat} (h1 : hd ≤ 99) (h2 : l ≤ 1000) : l * hd ≤ 99000 ∧ l * hd / 100 * (100 - dm) ≤ 99000 ∧ nx hd dm l ≤ 990 := by
  have a1 : l * hd ≤ 1000 * 99 := Nat.mul_le_mul h2 h1
  have a2 : l * hd / 100 ≤ 990 := by omega
  have a3 : l * hd / 100 * (100 - dm) ≤ 990 * 100 := Nat.mul_le_mul a2 (by omega)
  refine ⟨by omega, by omega, ?_⟩
  unfold nx
  omega
def rowE (hd dm ds : Nat) : Nat → Nat → Nat → List (Nat × Nat)
  | 0, _, _ => []
  | n + 1, k, l => if nx hd dm l = 0 then [] else if k * 6 * ds ≤ 3000 then (k * 6 * ds, nx hd dm l) :: rowE hd dm ds n (k + 1) (nx hd dm l) else []
abbrev TT : Type := Int32 × Int32 × Int32 × Int32
abbrev ET (li : Int32) (t : TT) : Ent := eT li t.1 t.2.1 t.2.2.1 t.2.2.2
def hearT (li : Int32) (t : TT) (q : Nat × Nat) : TT := (t.1 + nI 1, tLo (nI q.2) li t.2.1, tFi (nI q.1) t.2.2.1, tLa (nI q.1) t.2.2.2)
def hearL (f : Nat → Int32) (q : Nat × Nat) : Nat → Int32 := upd f (q.1 / 6) (f (q.1 / 6) + nI q.2)
set_option maxHeartbeats 4000000 in
theorem lp_rowT {p : Program} {l : Launch} {e : Env} {s : State} {m : MethodId} {args : Array Value} {below : List Frame} {meth : Method} {c : Code} {D : va_G} {ba d mc ms : Nat} {ad : Adr} {w : Wd} {QR : Option Value → Adr → Wd → Prop} {QX : String → Adr → Wd → Prop} (C : Cx p l s m args meth c D ba RX4 cX4_throwRow 9 [] d) (hl : l.stackTraces = false) (hr : meth.sig.returnType = none) (hd : 3 ≤ d) {LU : Lab} {hb ds : Nat} (hU : w LU = some (.inr (3, [.int (nI hb), .int (nI ds)]))) {LT : Lab} {li : Int32} (hne : LU ≠ LT) {hd0 dm : Nat} (hd9 : hd0 ≤ 99) (hds1 : 1 ≤ ds) (hds : ds ≤ 60) (hdm : dm ≤ 90) : ∀ (n : Nat) (k l1 : Nat) (t : TT), k + n = 501 → 1 ≤ k → l1 ≤ 1000 → QR none ad (wset w LT (ET li (List.foldl (hearT li) t (rowE hd0 dm ds n k l1)))) → V p l e s m args below meth c D ba d mc ms (MO D ba QR QX below args s mc ms) 9 ad (wset w LT (ET li t)) 13 [(7, .int (nI k)), (6, .int (nI l1)), (5, .int (nI hd0)), (0, .ref (ad LU)), (2, .int (nI dm)), (4, .ref (ad LT))] [] 0 0 := by
  intro n
  induction n with
  | zero =>
    intro k l1 t hk hk1 hl1 hq
    refine V_iload C dX4_throwRow_13 0 rfl ?_
    refine V_sipush (v := nI 500) C dX4_throwRow_15 (by decide) ?_
    refine V_icmpn_gt (tgt := 82) C dX4_throwRow_18 (by decide) (by omega) (by decide) (fun hb1 => ?_) (fun hb1 => by exfalso; omega)
    exact V_vret C dX4_throwRow_82 hr hq (by omega) (by omega)
  | succ n ih =>
    intro k l1 t hk hk1 hl1 hq
    have hmul : k * 6 * ds ≤ 3000 * 60 := Nat.mul_le_mul (by omega) hds
    have hnx := nx_b (dm := dm) hd9 hl1
    refine V_iload C dX4_throwRow_13 0 rfl ?_
    refine V_sipush (v := nI 500) C dX4_throwRow_15 (by decide) ?_
    refine V_icmpn_gt (tgt := 82) C dX4_throwRow_18 (by decide) (by omega) (by decide) (fun hb1 => by exfalso; omega) (fun hb1 => ?_)
    refine V_iload C dX4_throwRow_21 0 rfl ?_
    refine V_bipush (v := nI 6) C dX4_throwRow_23 (by decide) ?_
    refine V_imuln C dX4_throwRow_25 ?_
    refine V_aload_n C dX4_throwRow_26 3 rfl ?_
    refine V_get (ci := 3) (k := 1) C dX4_throwRow_27 RX4 RX4 TX4 2 fw_X4 rfl (by decide) tw_267 rfl rfl ((wset_n hne).trans hU) rfl ?_
    refine V_imuln C dX4_throwRow_30 ?_
    refine V_istore C [(8, .int (nI ((k * 6) * ds))), (7, .int (nI k)), (6, .int (nI l1)), (5, .int (nI hd0)), (0, .ref (ad LU)), (2, .int (nI dm)), (4, .ref (ad LT))] dX4_throwRow_31 (by decide) rfl ?_
    refine V_iload C dX4_throwRow_33 2 rfl ?_
    refine V_iload C dX4_throwRow_35 3 rfl ?_
    refine V_imuln C dX4_throwRow_37 ?_
    refine V_bipush (v := nI 100) C dX4_throwRow_38 (by decide) ?_
    refine V_idivn C dX4_throwRow_40 (by have := nx_b (dm := dm) hd9 hl1; omega) (by decide) (by decide) ?_
    refine V_bipush (v := nI 100) C dX4_throwRow_41 (by decide) ?_
    refine V_iload_n C dX4_throwRow_43 5 rfl ?_
    refine V_isubn C dX4_throwRow_44 (by omega) ?_
    refine V_imuln C dX4_throwRow_45 ?_
    refine V_bipush (v := nI 100) C dX4_throwRow_46 (by decide) ?_
    refine V_idivn C dX4_throwRow_48 (by have := nx_b (dm := dm) hd9 hl1; omega) (by decide) (by decide) ?_
    rw [show l1 * hd0 / 100 * (100 - dm) / 100 = nx hd0 dm l1 from rfl]
    refine V_istore C [(6, .int (nI (nx hd0 dm l1))), (8, .int (nI ((k * 6) * ds))), (7, .int (nI k)), (5, .int (nI hd0)), (0, .ref (ad LU)), (2, .int (nI dm)), (4, .ref (ad LT))] dX4_throwRow_49 (by decide) rfl ?_
    refine V_iload C dX4_throwRow_51 0 rfl ?_
    refine V_ifn_le (tgt := 64) C dX4_throwRow_53 (by decide) (by omega) (fun hb2 => ?_) (fun hb2 => ?_)
    · skip
      exact V_vret C dX4_throwRow_64 hr (by rw [rowE, if_pos (by omega)] at hq; exact hq) (by omega) (by omega)
    · skip
      refine V_iload C dX4_throwRow_56 1 rfl ?_
      refine V_sipush (v := nI 3000) C dX4_throwRow_58 (by decide) ?_
      refine V_icmpn_le (tgt := 65) C dX4_throwRow_61 (by decide) (by omega) (by decide) (fun hb3 => ?_) (fun hb3 => ?_)
      · skip
        refine V_aload C dX4_throwRow_65 6 rfl ?_
        refine V_iload C dX4_throwRow_67 1 rfl ?_
        refine V_iload C dX4_throwRow_69 0 rfl ?_
        refine V_callF (r := (RX5, TX5, 5)) C [.int (nI ((k * 6) * ds)), .int (nI (nx hd0 dm l1))] dX4_throwRow_71 m_X5_hear k_X5_hear tw_340 (by decide +kernel) (by decide +kernel) rfl rfl rfl wset_s rfl rfl (Nat.le_of_ble_eq_true rfl) ⟨by omega, by omega, by omega, by omega⟩ (c_tHear hl (by omega) wset_s (nI (k * 6 * ds)) (nI (nx hd0 dm l1))) (kr_none ?_) kx_no
        refine V_wd (w' := wset w LT (ET li (hearT li t (k * 6 * ds, nx hd0 dm l1)))) wset_wset ?_
        refine V_iincn C [(7, .int (nI (k + 1))), (6, .int (nI (nx hd0 dm l1))), (8, .int (nI ((k * 6) * ds))), (5, .int (nI hd0)), (0, .ref (ad LU)), (2, .int (nI dm)), (4, .ref (ad LT))] dX4_throwRow_76 2 rfl (by decide) rfl ?_
        refine V_goto (tgt := 13) C dX4_throwRow_79 (by decide) ?_
        refine V_lv [0, 1, 3, 4, 5, 6] rfl ?_
        exact ih (k + 1) (nx hd0 dm l1) (hearT li t (k * 6 * ds, nx hd0 dm l1)) (by omega) (by omega) (by have := nx_b (dm := dm) hd9 hl1; omega) (by rw [rowE, if_neg (by omega), if_pos (by omega)] at hq; exact hq)
      · skip
        exact V_vret C dX4_throwRow_64 hr (by rw [rowE, if_neg (by omega), if_neg (by omega)] at hq; exact hq) (by omega) (by omega)
set_option maxHeartbeats 4000000 in
theorem c_rowT {l : Launch} {D : va_G} {ba d : Nat} {ad : Adr} {w : Wd} (hl : l.stackTraces = false) (hd : 4 ≤ d) {LU : Lab} {hb ds : Nat} (hU : w LU = some (.inr (3, [.int (nI hb), .int (nI ds)]))) {LT : Lab} {li : Int32} (hne : LU ≠ LT) {t : TT} {click dm du : Nat} (hT : w LT = some (ET li t)) (hhb : hb ≤ 99) (hds1 : 1 ≤ ds) (hds : ds ≤ 60) (hdm : dm ≤ 90) (hdu : du ≤ 100) (hcl : click ≤ 1000) : CT l yX4_throwRow (wsO yX4_throwRow cX4_throwRow 9 none) d 0 0 D ba [.ref (ad LU), .int (nI click), .int (nI dm), .int (nI du), .ref (ad LT)] ad w (isR none ad (wset w LT (ET li (List.foldl (hearT li) t (rowE (hb - du / 5) dm ds 500 1 click))))) noX := by
  refine CT_of RX4 rfl (by decide +kernel) hl (Nat.le_of_ble_eq_true rfl) ?_
  intro p e s m args below meth c C hr hnm
  refine V_lvE (lv' := [(0, .ref (ad LU)), (1, .int (nI click)), (2, .int (nI dm)), (3, .int (nI du)), (4, .ref (ad LT))]) rfl ?_
  refine V_aload_n C dX4_throwRow_0 0 rfl ?_
  refine V_iload_n C dX4_throwRow_1 3 rfl ?_
  refine V_callV (r := (RX4, TX4, 2)) C [.int (nI du)] dX4_throwRow_2 m_X4_hardnessUnder k_X4_hardnessUnder tw_338 rfl rfl rfl hU rfl rfl (Nat.le_of_ble_eq_true rfl) ⟨by omega, by omega, by omega, by omega⟩ (c_hardUnder hl (by omega) hU du hhb hdu) (kr_some (x := .int (nI (hb - du / 5))) ?_) kx_no
  refine V_istore C [(5, .int (nI (hb - du / 5))), (0, .ref (ad LU)), (1, .int (nI click)), (2, .int (nI dm)), (3, .int (nI du)), (4, .ref (ad LT))] dX4_throwRow_5 (by decide) rfl ?_
  refine V_iload_n C dX4_throwRow_7 2 rfl ?_
  refine V_istore C [(6, .int (nI click)), (5, .int (nI (hb - du / 5))), (0, .ref (ad LU)), (1, .int (nI click)), (2, .int (nI dm)), (3, .int (nI du)), (4, .ref (ad LT))] dX4_throwRow_8 (by decide) rfl ?_
  refine V_iconst (v := nI 1) C dX4_throwRow_10 (by decide) ?_
  refine V_istore C [(7, .int (nI 1)), (6, .int (nI click)), (5, .int (nI (hb - du / 5))), (0, .ref (ad LU)), (1, .int (nI click)), (2, .int (nI dm)), (3, .int (nI du)), (4, .ref (ad LT))] dX4_throwRow_11 (by decide) rfl ?_
  refine V_wd (w' := wset w LT (ET li t)) (wset_id hT).symm ?_
  refine V_lv [0, 1, 2, 3, 5, 7] rfl ?_
  exact lp_rowT C hl hr (by omega) hU hne (hd0 := hb - du / 5) (by omega) hds1 hds hdm 500 1 click _ (by omega) (by omega) hcl ⟨rfl, rfl, rfl⟩
set_option maxHeartbeats 4000000 in
theorem lp_rowL {p : Program} {l : Launch} {e : Env} {s : State} {m : MethodId} {args : Array Value} {below : List Frame} {meth : Method} {c : Code} {D : va_G} {ba d mc ms : Nat} {ad : Adr} {w : Wd} {QR : Option Value → Adr → Wd → Prop} {QX : String → Adr → Wd → Prop} (C : Cx p l s m args meth c D ba RX4 cX4_throwRow 9 [] d) (hl : l.stackTraces = false) (hr : meth.sig.returnType = none) (hd : 3 ≤ d) {LU : Lab} {hb ds : Nat} (hU : w LU = some (.inr (3, [.int (nI hb), .int (nI ds)]))) {LL LA : Lab} (hL : w LL = some (.inr (1, [.ref (ad LA)]))) (hne2 : LL ≠ LA) (hne : LU ≠ LA) {hd0 dm : Nat} (hd9 : hd0 ≤ 99) (hds1 : 1 ≤ ds) (hds : ds ≤ 60) (hdm : dm ≤ 90) : ∀ (n : Nat) (k l1 : Nat) (f : Nat → Int32), k + n = 501 → 1 ≤ k → l1 ≤ 1000 → QR none ad (wset w LA (eI 501 (List.foldl hearL f (rowE hd0 dm ds n k l1)))) → V p l e s m args below meth c D ba d mc ms (MO D ba QR QX below args s mc ms) 9 ad (wset w LA (eI 501 f)) 13 [(7, .int (nI k)), (6, .int (nI l1)), (5, .int (nI hd0)), (0, .ref (ad LU)), (2, .int (nI dm)), (4, .ref (ad LL))] [] 0 0 := by
  intro n
  induction n with
  | zero =>
    intro k l1 f hk hk1 hl1 hq
    refine V_iload C dX4_throwRow_13 0 rfl ?_
    refine V_sipush (v := nI 500) C dX4_throwRow_15 (by decide) ?_
    refine V_icmpn_gt (tgt := 82) C dX4_throwRow_18 (by decide) (by omega) (by decide) (fun hb1 => ?_) (fun hb1 => by exfalso; omega)
    exact V_vret C dX4_throwRow_82 hr hq (by omega) (by omega)
  | succ n ih =>
    intro k l1 f hk hk1 hl1 hq
    have hmul : k * 6 * ds ≤ 3000 * 60 := Nat.mul_le_mul (by omega) hds
    have hnx := nx_b (dm := dm) hd9 hl1
    refine V_iload C dX4_throwRow_13 0 rfl ?_
    refine V_sipush (v := nI 500) C dX4_throwRow_15 (by decide) ?_
    refine V_icmpn_gt (tgt := 82) C dX4_throwRow_18 (by decide) (by omega) (by decide) (fun hb1 => by exfalso; omega) (fun hb1 => ?_)
    refine V_iload C dX4_throwRow_21 0 rfl ?_
    refine V_bipush (v := nI 6) C dX4_throwRow_23 (by decide) ?_
    refine V_imuln C dX4_throwRow_25 ?_
    refine V_aload_n C dX4_throwRow_26 3 rfl ?_
    refine V_get (ci := 3) (k := 1) C dX4_throwRow_27 RX4 RX4 TX4 2 fw_X4 rfl (by decide) tw_267 rfl rfl ((wset_n hne).trans hU) rfl ?_
    refine V_imuln C dX4_throwRow_30 ?_
    refine V_istore C [(8, .int (nI ((k * 6) * ds))), (7, .int (nI k)), (6, .int (nI l1)), (5, .int (nI hd0)), (0, .ref (ad LU)), (2, .int (nI dm)), (4, .ref (ad LL))] dX4_throwRow_31 (by decide) rfl ?_
    refine V_iload C dX4_throwRow_33 2 rfl ?_
    refine V_iload C dX4_throwRow_35 3 rfl ?_
    refine V_imuln C dX4_throwRow_37 ?_
    refine V_bipush (v := nI 100) C dX4_throwRow_38 (by decide) ?_
    refine V_idivn C dX4_throwRow_40 (by have := nx_b (dm := dm) hd9 hl1; omega) (by decide) (by decide) ?_
    refine V_bipush (v := nI 100) C dX4_throwRow_41 (by decide) ?_
    refine V_iload_n C dX4_throwRow_43 5 rfl ?_
    refine V_isubn C dX4_throwRow_44 (by omega) ?_
    refine V_imuln C dX4_throwRow_45 ?_
    refine V_bipush (v := nI 100) C dX4_throwRow_46 (by decide) ?_
    refine V_idivn C dX4_throwRow_48 (by have := nx_b (dm := dm) hd9 hl1; omega) (by decide) (by decide) ?_
    rw [show l1 * hd0 / 100 * (100 - dm) / 100 = nx hd0 dm l1 from rfl]
    refine V_istore C [(6, .int (nI (nx hd0 dm l1))), (8, .int (nI ((k * 6) * ds))), (7, .int (nI k)), (5, .int (nI hd0)), (0, .ref (ad LU)), (2, .int (nI dm)), (4, .ref (ad LL))] dX4_throwRow_49 (by decide) rfl ?_
    refine V_iload C dX4_throwRow_51 0 rfl ?_
    refine V_ifn_le (tgt := 64) C dX4_throwRow_53 (by decide) (by omega) (fun hb2 => ?_) (fun hb2 => ?_)
    · skip
      exact V_vret C dX4_throwRow_64 hr (by rw [rowE, if_pos (by omega)] at hq; exact hq) (by omega) (by omega)
    · skip
      refine V_iload C dX4_throwRow_56 1 rfl ?_
      refine V_sipush (v := nI 3000) C dX4_throwRow_58 (by decide) ?_
      refine V_icmpn_le (tgt := 65) C dX4_throwRow_61 (by decide) (by omega) (by decide) (fun hb3 => ?_) (fun hb3 => ?_)
      · skip
        refine V_aload C dX4_throwRow_65 6 rfl ?_
        refine V_iload C dX4_throwRow_67 1 rfl ?_
        refine V_iload C dX4_throwRow_69 0 rfl ?_
        refine V_callF (r := (RX2, TX2, 1)) C [.int (nI ((k * 6) * ds)), .int (nI (nx hd0 dm l1))] dX4_throwRow_71 m_X2_hear k_X2_hear tw_340 (by decide +kernel) (by decide +kernel) rfl rfl rfl ((wset_n hne2).trans hL) rfl rfl (Nat.le_of_ble_eq_true rfl) ⟨by omega, by omega, by omega, by omega⟩ (c_lHear hl (by omega) ((wset_n hne2).trans hL) wset_s (k * 6 * ds) (nI (nx hd0 dm l1)) (by omega)) (kr_none ?_) kx_no
        refine V_wd (w' := wset w LA (eI 501 (hearL f (k * 6 * ds, nx hd0 dm l1)))) wset_wset ?_
        refine V_iincn C [(7, .int (nI (k + 1))), (6, .int (nI (nx hd0 dm l1))), (8, .int (nI ((k * 6) * ds))), (5, .int (nI hd0)), (0, .ref (ad LU)), (2, .int (nI dm)), (4, .ref (ad LL))] dX4_throwRow_76 2 rfl (by decide) rfl ?_
        refine V_goto (tgt := 13) C dX4_throwRow_79 (by decide) ?_
        refine V_lv [0, 1, 3, 4, 5, 6] rfl ?_
        exact ih (k + 1) (nx hd0 dm l1) (hearL f (k * 6 * ds, nx hd0 dm l1)) (by omega) (by omega) (by have := nx_b (dm := dm) hd9 hl1; omega) (by rw [rowE, if_neg (by omega), if_pos (by omega)] at hq; exact hq)
      · skip
        exact V_vret C dX4_throwRow_64 hr (by rw [rowE, if_neg (by omega), if_neg (by omega)] at hq; exact hq) (by omega) (by omega)
set_option maxHeartbeats 4000000 in
theorem c_rowL {l : Launch} {D : va_G} {ba d : Nat} {ad : Adr} {w : Wd} (hl : l.stackTraces = false) (hd : 4 ≤ d) {LU : Lab} {hb ds : Nat} (hU : w LU = some (.inr (3, [.int (nI hb), .int (nI ds)]))) {LL LA : Lab} (hL : w LL = some (.inr (1, [.ref (ad LA)]))) (hne2 : LL ≠ LA) (hne : LU ≠ LA) {f : Nat → Int32} {click dm du : Nat} (hT : w LA = some (eI 501 f)) (hhb : hb ≤ 99) (hds1 : 1 ≤ ds) (hds : ds ≤ 60) (hdm : dm ≤ 90) (hdu : du ≤ 100) (hcl : click ≤ 1000) : CT l yX4_throwRow (wsO yX4_throwRow cX4_throwRow 9 none) d 0 0 D ba [.ref (ad LU), .int (nI click), .int (nI dm), .int (nI du), .ref (ad LL)] ad w (isR none ad (wset w LA (eI 501 (List.foldl hearL f (rowE (hb - du / 5) dm ds 500 1 click))))) noX := by
  refine CT_of RX4 rfl (by decide +kernel) hl (Nat.le_of_ble_eq_true rfl) ?_
  intro p e s m args below meth c C hr hnm
  refine V_lvE (lv' := [(0, .ref (ad LU)), (1, .int (nI click)), (2, .int (nI dm)), (3, .int (nI du)), (4, .ref (ad LL))]) rfl ?_
  refine V_aload_n C dX4_throwRow_0 0 rfl ?_
  refine V_iload_n C dX4_throwRow_1 3 rfl ?_
  refine V_callV (r := (RX4, TX4, 2)) C [.int (nI du)] dX4_throwRow_2 m_X4_hardnessUnder k_X4_hardnessUnder tw_338 rfl rfl rfl hU rfl rfl (Nat.le_of_ble_eq_true rfl) ⟨by omega, by omega, by omega, by omega⟩ (c_hardUnder hl (by omega) hU du hhb hdu) (kr_some (x := .int (nI (hb - du / 5))) ?_) kx_no
  refine V_istore C [(5, .int (nI (hb - du / 5))), (0, .ref (ad LU)), (1, .int (nI click)), (2, .int (nI dm)), (3, .int (nI du)), (4, .ref (ad LL))] dX4_throwRow_5 (by decide) rfl ?_
  refine V_iload_n C dX4_throwRow_7 2 rfl ?_
  refine V_istore C [(6, .int (nI click)), (5, .int (nI (hb - du / 5))), (0, .ref (ad LU)), (1, .int (nI click)), (2, .int (nI dm)), (3, .int (nI du)), (4, .ref (ad LL))] dX4_throwRow_8 (by decide) rfl ?_
  refine V_iconst (v := nI 1) C dX4_throwRow_10 (by decide) ?_
  refine V_istore C [(7, .int (nI 1)), (6, .int (nI click)), (5, .int (nI (hb - du / 5))), (0, .ref (ad LU)), (1, .int (nI click)), (2, .int (nI dm)), (3, .int (nI du)), (4, .ref (ad LL))] dX4_throwRow_11 (by decide) rfl ?_
  refine V_wd (w' := wset w LA (eI 501 f)) (wset_id hT).symm ?_
  refine V_lv [0, 1, 2, 3, 5, 7] rfl ?_
  exact lp_rowL C hl hr (by omega) hU hL hne2 hne (hd0 := hb - du / 5) (by omega) hds1 hds hdm 500 1 click _ (by omega) (by omega) hcl ⟨rfl, rfl, rfl⟩
end
section

set_option maxHeartbeats 4000000 in
theorem c_tInit {l : Launch} {D : va_G} {ba d : Nat} {ad : Adr} {w : Wd} (hl : l.stackTraces = false) (hd : 1 ≤ d) (a : Nat) : CT l yX5_init (wsO yX5_init cX5_init 1 none) d 0 0 D ba [.ref a] ad w (isR none ad w) noX := by
  refine CT_of RX5 rfl (by decide +kernel) hl (Nat.le_of_ble_eq_true rfl) ?_
  intro p e s m args below meth c C hr hnm
  refine V_lvE (lv' := [(0, .ref a)]) rfl ?_
  refine V_aload_n C dX5_init_0 0 rfl ?_
  refine V_obj C dX5_init_1 tw_34 tw_23 tw_24 (by omega) (by simp [Value.category]; try omega) ?_
  exact V_vret C dX5_init_4 hr ⟨rfl, rfl, rfl⟩ (by omega) (by omega)
set_option maxHeartbeats 4000000 in
theorem c_sInit {l : Launch} {D : va_G} {ba d : Nat} {ad : Adr} {w : Wd} (hl : l.stackTraces = false) (hd : 1 ≤ d) {LU : Lab} (hU : w LU = some (.inr (3, [.int 0, .int 0]))) (ds hb : Nat) : CT l yX4_init (wsO yX4_init cX4_init 3 none) d 0 0 D ba [.ref (ad LU), .int (nI ds), .int (nI hb)] ad w (isR none ad (wset w LU (.inr (3, [.int (nI hb), .int (nI ds)])))) noX := by
  refine CT_of RX4 rfl (by decide +kernel) hl (Nat.le_of_ble_eq_true rfl) ?_
  intro p e s m args below meth c C hr hnm
  refine V_lvE (lv' := [(0, .ref (ad LU)), (1, .int (nI ds)), (2, .int (nI hb))]) rfl ?_
  refine V_aload_n C dX4_init_0 0 rfl ?_
  refine V_obj C dX4_init_1 tw_265 tw_23 tw_24 (by omega) (by simp [Value.category]; try omega) ?_
  refine V_aload_n C dX4_init_4 0 rfl ?_
  refine V_iload_n C dX4_init_5 1 rfl ?_
  refine V_put (ci := 3) (k := 1) C dX4_init_6 RX4 RX4 TX4 2 tyX4 tyX4_ok nmX4 fw_X4 rfl (by decide) tw_267 rfl (Or.inl rfl) rfl rfl rfl hU (Nat.le_of_ble_eq_true rfl) ?_
  refine V_wd (w' := wset w LU (.inr (3, [.int 0, .int (nI ds)]))) rfl ?_
  refine V_aload_n C dX4_init_9 0 rfl ?_
  refine V_iload_n C dX4_init_10 2 rfl ?_
  refine V_put (ci := 3) (k := 0) C dX4_init_11 RX4 RX4 TX4 2 tyX4 tyX4_ok nmX4 fw_X4 rfl (by decide) tw_266 rfl (Or.inr ⟨rfl, hnm, rfl⟩) rfl rfl rfl wset_s (Nat.le_of_ble_eq_true rfl) ?_
  refine V_wd (w' := wset w LU (.inr (3, [.int (nI hb), .int (nI ds)]))) wset_wset ?_
  exact V_vret C dX4_init_14 hr ⟨rfl, rfl, rfl⟩ (by omega) (by omega)
set_option maxHeartbeats 4000000 in
theorem c_dInit {l : Launch} {D : va_G} {ba d : Nat} {ad : Adr} {w : Wd} (hl : l.stackTraces = false) (hd : 1 ≤ d) {LD : Lab} (hD : w LD = some (.inr (2, [.int 0, .int 0, .int 0, .int 0, .int 0]))) (ea li mo lt dy : Nat) : CT l yX3_init (wsO yX3_init cX3_init 6 none) d 0 0 D ba [.ref (ad LD), .int (nI ea), .int (nI li), .int (nI mo), .int (nI lt), .int (nI dy)] ad w (isR none ad (wset w LD (.inr (2, [.int (nI ea), .int (nI li), .int (nI mo), .int (nI lt), .int (nI dy)])))) noX := by
  refine CT_of RX3 rfl (by decide +kernel) hl (Nat.le_of_ble_eq_true rfl) ?_
  intro p e s m args below meth c C hr hnm
  refine V_lvE (lv' := [(0, .ref (ad LD)), (1, .int (nI ea)), (2, .int (nI li)), (3, .int (nI mo)), (4, .int (nI lt)), (5, .int (nI dy))]) rfl ?_
  refine V_aload_n C dX3_init_0 0 rfl ?_
  refine V_obj C dX3_init_1 tw_581 tw_23 tw_24 (by omega) (by simp [Value.category]; try omega) ?_
  refine V_aload_n C dX3_init_4 0 rfl ?_
  refine V_iload_n C dX3_init_5 1 rfl ?_
  refine V_put (ci := 2) (k := 0) C dX3_init_6 RX3 RX3 TX3 5 tyX3 tyX3_ok nmX3 fw_X3 rfl (by decide) tw_582 rfl (Or.inr ⟨rfl, hnm, rfl⟩) rfl rfl rfl hD (Nat.le_of_ble_eq_true rfl) ?_
  refine V_wd (w' := wset w LD (.inr (2, [.int (nI ea), .int 0, .int 0, .int 0, .int 0]))) rfl ?_
  refine V_aload_n C dX3_init_9 0 rfl ?_
  refine V_iload_n C dX3_init_10 2 rfl ?_
  refine V_put (ci := 2) (k := 1) C dX3_init_11 RX3 RX3 TX3 5 tyX3 tyX3_ok nmX3 fw_X3 rfl (by decide) tw_583 rfl (Or.inr ⟨rfl, hnm, rfl⟩) rfl rfl rfl wset_s (Nat.le_of_ble_eq_true rfl) ?_
  refine V_wd (w' := wset w LD (.inr (2, [.int (nI ea), .int (nI li), .int 0, .int 0, .int 0]))) wset_wset ?_
  refine V_aload_n C dX3_init_14 0 rfl ?_
  refine V_iload_n C dX3_init_15 3 rfl ?_
  refine V_put (ci := 2) (k := 2) C dX3_init_16 RX3 RX3 TX3 5 tyX3 tyX3_ok nmX3 fw_X3 rfl (by decide) tw_585 rfl (Or.inr ⟨rfl, hnm, rfl⟩) rfl rfl rfl wset_s (Nat.le_of_ble_eq_true rfl) ?_
  refine V_wd (w' := wset w LD (.inr (2, [.int (nI ea), .int (nI li), .int (nI mo), .int 0, .int 0]))) wset_wset ?_
  refine V_aload_n C dX3_init_19 0 rfl ?_
  refine V_iload C dX3_init_20 4 rfl ?_
  refine V_put (ci := 2) (k := 3) C dX3_init_22 RX3 RX3 TX3 5 tyX3 tyX3_ok nmX3 fw_X3 rfl (by decide) tw_586 rfl (Or.inr ⟨rfl, hnm, rfl⟩) rfl rfl rfl wset_s (Nat.le_of_ble_eq_true rfl) ?_
  refine V_wd (w' := wset w LD (.inr (2, [.int (nI ea), .int (nI li), .int (nI mo), .int (nI lt), .int 0]))) wset_wset ?_
  refine V_aload_n C dX3_init_25 0 rfl ?_
  refine V_iload C dX3_init_26 5 rfl ?_
  refine V_put (ci := 2) (k := 4) C dX3_init_28 RX3 RX3 TX3 5 tyX3 tyX3_ok nmX3 fw_X3 rfl (by decide) tw_587 rfl (Or.inr ⟨rfl, hnm, rfl⟩) rfl rfl rfl wset_s (Nat.le_of_ble_eq_true rfl) ?_
  refine V_wd (w' := wset w LD (.inr (2, [.int (nI ea), .int (nI li), .int (nI mo), .int (nI lt), .int (nI dy)]))) wset_wset ?_
  exact V_vret C dX3_init_31 hr ⟨rfl, rfl, rfl⟩ (by omega) (by omega)
set_option maxHeartbeats 4000000 in
theorem c_hInit {l : Launch} {D : va_G} {ba d : Nat} {ad : Adr} {w : Wd} (hl : l.stackTraces = false) (hd : 1 ≤ d) {LH LS : Lab} (hH : w LH = some (.inr (0, [.null, .int 0, .int 0, .int 0, .int 0, .int 0]))) (hS : w LS = none) (hHS : LH ≠ LS) (dm : Nat) : CT l yX0_init (wsO yX0_init cX0_init 2 none) d 1 6 D ba [.ref (ad LH), .int (nI dm)] ad w (fun v ad' w' => v = none ∧ ∃ q, ad' = aset ad LS q ∧ w' = wset (wset w LS (eQ RX4 6 (fun _ => none))) LH (.inr (0, [.ref q, .int 0, .int (nI dm), .int 0, .int (-1), .int 0]))) noX := by
  refine CT_of RX0 rfl (by decide +kernel) hl (Nat.le_of_ble_eq_true rfl) ?_
  intro p e s m args below meth c C hr hnm
  refine V_lvE (lv' := [(0, .ref (ad LH)), (1, .int (nI dm))]) rfl ?_
  refine V_aload_n C dX0_init_0 0 rfl ?_
  refine V_obj C dX0_init_1 tw_193 tw_23 tw_24 (by omega) (by simp [Value.category]; try omega) ?_
  refine V_aload_n C dX0_init_4 0 rfl ?_
  refine V_bipush (v := nI 6) C dX0_init_5 (by decide) ?_
  refine V_newQ (N := 6) C LS RX4 dX0_init_7 tw_194 tw_195 (by decide) (by decide) (by decide) hS (by omega) (by omega) (fun q1 => ?_)
  refine V_put (ci := 0) (k := 0) C dX0_init_10 RX0 RX0 TX0 6 tyX0 tyX0_ok nmX0 fw_X0 rfl (by decide) tw_196 rfl (Or.inr ⟨rfl, hnm, rfl⟩) rfl rfl (aset_n hHS).symm ((wset_n hHS).trans hH) (Nat.le_of_ble_eq_true rfl) ?_
  refine V_wd (w' := wset (wset w LS (eQ RX4 6 (fun _ => none))) LH (.inr (0, [.ref q1, .int 0, .int 0, .int 0, .int 0, .int 0]))) rfl ?_
  refine V_aload_n C dX0_init_13 0 rfl ?_
  refine V_iconst (v := -1) C dX0_init_14 (by decide) ?_
  refine V_put (ci := 0) (k := 4) C dX0_init_15 RX0 RX0 TX0 6 tyX0 tyX0_ok nmX0 fw_X0 rfl (by decide) tw_204 rfl (Or.inl rfl) rfl rfl (aset_n hHS).symm wset_s (Nat.le_of_ble_eq_true rfl) ?_
  refine V_wd (w' := wset (wset w LS (eQ RX4 6 (fun _ => none))) LH (.inr (0, [.ref q1, .int 0, .int 0, .int 0, .int (-1), .int 0]))) wset_wset ?_
  refine V_aload_n C dX0_init_18 0 rfl ?_
  refine V_iload_n C dX0_init_19 1 rfl ?_
  refine V_put (ci := 0) (k := 2) C dX0_init_20 RX0 RX0 TX0 6 tyX0 tyX0_ok nmX0 fw_X0 rfl (by decide) tw_200 rfl (Or.inl rfl) rfl rfl (aset_n hHS).symm wset_s (Nat.le_of_ble_eq_true rfl) ?_
  refine V_wd (w' := wset (wset w LS (eQ RX4 6 (fun _ => none))) LH (.inr (0, [.ref q1, .int 0, .int (nI dm), .int 0, .int (-1), .int 0]))) wset_wset ?_
  exact V_vret C dX0_init_23 hr ⟨rfl, q1, rfl, rfl⟩ (by omega) (by omega)
set_option maxHeartbeats 4000000 in
theorem c_lInit {l : Launch} {D : va_G} {ba d : Nat} {ad : Adr} {w : Wd} (hl : l.stackTraces = false) (hd : 1 ≤ d) {LL LA : Lab} (hL : w LL = some (.inr (1, [.null]))) (hA : w LA = none) (hLA : LL ≠ LA) : CT l yX2_init (wsO yX2_init cX2_init 1 none) d 1 501 D ba [.ref (ad LL)] ad w (fun v ad' w' => v = none ∧ ∃ q, ad' = aset ad LA q ∧ w' = wset (wset w LA (eI 501 (fun _ => 0))) LL (.inr (1, [.ref q]))) noX := by
  refine CT_of RX2 rfl (by decide +kernel) hl (Nat.le_of_ble_eq_true rfl) ?_
  intro p e s m args below meth c C hr hnm
  refine V_lvE (lv' := [(0, .ref (ad LL))]) rfl ?_
  refine V_aload_n C dX2_init_0 0 rfl ?_
  refine V_obj C dX2_init_1 tw_64 tw_23 tw_24 (by omega) (by simp [Value.category]; try omega) ?_
  refine V_aload_n C dX2_init_4 0 rfl ?_
  refine V_sipush (v := nI 501) C dX2_init_5 (by decide) ?_
  refine V_newI (N := 501) C LA dX2_init_8 tw_69 (by decide) (by decide) (by decide) hA (by omega) (by omega) (fun q1 => ?_)
  refine V_put (ci := 1) (k := 0) C dX2_init_10 RX2 RX2 TX2 1 tyX2 tyX2_ok nmX2 fw_X2 rfl (by decide) tw_65 rfl (Or.inr ⟨rfl, hnm, rfl⟩) rfl rfl (aset_n hLA).symm ((wset_n hLA).trans hL) (Nat.le_of_ble_eq_true rfl) ?_
  refine V_wd (w' := wset (wset w LA (eI 501 (fun _ => 0))) LL (.inr (1, [.ref q1]))) rfl ?_
  exact V_vret C dX2_init_13 hr ⟨rfl, q1, rfl, rfl⟩ (by omega) (by omega)
def inR (v a b : Int32) : Nat := if v < a then 0 else if b < v then 0 else 1
theorem inR_le (v a b : Int32) : inR v a b ≤ 1 := by unfold inR; split <;> (try split) <;> omega
set_option maxHeartbeats 4000000 in
theorem c_isWithin {l : Launch} {D : va_G} {ba d : Nat} {ad : Adr} {w : Wd} (hl : l.stackTraces = false) (hd : 1 ≤ d) (v a b : Int32) : CT l yX6_isWithin (wsO yX6_isWithin cX6_isWithin 3 (some .boolean)) d 0 0 D ba [.int v, .int a, .int b] ad w (isR (some (.int (nI (inR v a b)))) ad w) noX := by
  refine CT_of RX6 rfl (by decide +kernel) hl (Nat.le_of_ble_eq_true rfl) ?_
  intro p e s m args below meth c C hr hnm
  refine V_lvE (lv' := [(0, .int v), (1, .int a), (2, .int b)]) rfl ?_
  refine V_iload_n C dX6_isWithin_0 0 rfl ?_
  refine V_iload_n C dX6_isWithin_1 1 rfl ?_
  refine V_icmp_lt (tgt := 14) C dX6_isWithin_2 (by decide) (fun hb1 => ?_) (fun hb1 => ?_)
  · skip
    refine V_iconst (v := nI 0) C dX6_isWithin_14 (by decide) ?_
    exact V_iret C .boolean dX6_isWithin_15 hr rfl ⟨by rw [inR, if_pos hb1], rfl, rfl⟩ (by omega) (by omega)
  · skip
    refine V_iload_n C dX6_isWithin_5 0 rfl ?_
    refine V_iload_n C dX6_isWithin_6 2 rfl ?_
    refine V_icmp_gt (tgt := 14) C dX6_isWithin_7 (by decide) (fun hb2 => ?_) (fun hb2 => ?_)
    · skip
      refine V_iconst (v := nI 0) C dX6_isWithin_14 (by decide) ?_
      exact V_iret C .boolean dX6_isWithin_15 hr rfl ⟨by rw [inR, if_neg hb1, if_pos hb2], rfl, rfl⟩ (by omega) (by omega)
    · skip
      refine V_iconst (v := nI 1) C dX6_isWithin_10 (by decide) ?_
      refine V_goto (tgt := 15) C dX6_isWithin_11 (by decide) ?_
      exact V_iret C .boolean dX6_isWithin_15 hr rfl ⟨by rw [inR, if_neg hb1, if_neg hb2], rfl, rfl⟩ (by omega) (by omega)
set_option maxHeartbeats 4000000 in
theorem c_ckDamp_ok {l : Launch} {D : va_G} {ba d : Nat} {ad : Adr} {w : Wd} (hl : l.stackTraces = false) (hd : 2 ≤ d) (x : Int32) (hx : ¬ inR x (nI 0) (nI 90) = 0) : CT l yX6_checkDamping (wsO yX6_checkDamping cX6_checkDamping 1 none) d 1 6 D ba [.int x] ad w (isR none ad w) noX := by
  refine CT_of RX6 rfl (by decide +kernel) hl (Nat.le_of_ble_eq_true rfl) ?_
  intro p e s m args below meth c C hr hnm
  refine V_lvE (lv' := [(0, .int x)]) rfl ?_
  refine V_iload_n C dX6_checkDamping_0 0 rfl ?_
  refine V_iconst (v := nI 0) C dX6_checkDamping_1 (by decide) ?_
  refine V_bipush (v := nI 90) C dX6_checkDamping_2 (by decide) ?_
  have hin4 := inR_le x (nI 0) (nI 90)
  refine V_callS C [.int x, .int (nI 0), .int (nI 90)] dX6_checkDamping_4 m_X6_isWithin k_X6_isWithin tw_102 rfl rfl (Nat.le_of_ble_eq_true rfl) ⟨by omega, by omega, by omega, by omega⟩ (c_isWithin hl (by omega) x (nI 0) (nI 90)) (kr_some (x := .int (nI (inR x (nI 0) (nI 90)))) ?_) kx_no
  refine V_ifn_ne (tgt := 20) C dX6_checkDamping_7 (by decide) (by omega) (fun hb1 => ?_) (fun hb1 => by exfalso; omega)
  exact V_vret C dX6_checkDamping_20 hr ⟨rfl, rfl, rfl⟩ (by omega) (by omega)
set_option maxHeartbeats 4000000 in
theorem c_ckDist_ok {l : Launch} {D : va_G} {ba d : Nat} {ad : Adr} {w : Wd} (hl : l.stackTraces = false) (hd : 2 ≤ d) (x : Int32) (hx : ¬ inR x (nI 1) (nI 60) = 0) : CT l yX6_checkDistance (wsO yX6_checkDistance cX6_checkDistance 1 none) d 1 6 D ba [.int x] ad w (isR none ad w) noX := by
  refine CT_of RX6 rfl (by decide +kernel) hl (Nat.le_of_ble_eq_true rfl) ?_
  intro p e s m args below meth c C hr hnm
  refine V_lvE (lv' := [(0, .int x)]) rfl ?_
  refine V_iload_n C dX6_checkDistance_0 0 rfl ?_
  refine V_iconst (v := nI 1) C dX6_checkDistance_1 (by decide) ?_
  refine V_bipush (v := nI 60) C dX6_checkDistance_2 (by decide) ?_
  have hin4 := inR_le x (nI 1) (nI 60)
  refine V_callS C [.int x, .int (nI 1), .int (nI 60)] dX6_checkDistance_4 m_X6_isWithin k_X6_isWithin tw_102 rfl rfl (Nat.le_of_ble_eq_true rfl) ⟨by omega, by omega, by omega, by omega⟩ (c_isWithin hl (by omega) x (nI 1) (nI 60)) (kr_some (x := .int (nI (inR x (nI 1) (nI 60)))) ?_) kx_no
  refine V_ifn_ne (tgt := 20) C dX6_checkDistance_7 (by decide) (by omega) (fun hb1 => ?_) (fun hb1 => by exfalso; omega)
  exact V_vret C dX6_checkDistance_20 hr ⟨rfl, rfl, rfl⟩ (by omega) (by omega)
set_option maxHeartbeats 4000000 in
theorem c_ckLoud_ok {l : Launch} {D : va_G} {ba d : Nat} {ad : Adr} {w : Wd} (hl : l.stackTraces = false) (hd : 2 ≤ d) (x : Int32) (hx : ¬ inR x (nI 1) (nI 1000) = 0) : CT l yX6_checkLoudness (wsO yX6_checkLoudness cX6_checkLoudness 1 none) d 1 6 D ba [.int x] ad w (isR none ad w) noX := by
  refine CT_of RX6 rfl (by decide +kernel) hl (Nat.le_of_ble_eq_true rfl) ?_
  intro p e s m args below meth c C hr hnm
  refine V_lvE (lv' := [(0, .int x)]) rfl ?_
  refine V_iload_n C dX6_checkLoudness_0 0 rfl ?_
  refine V_iconst (v := nI 1) C dX6_checkLoudness_1 (by decide) ?_
  refine V_sipush (v := nI 1000) C dX6_checkLoudness_2 (by decide) ?_
  have hin5 := inR_le x (nI 1) (nI 1000)
  refine V_callS C [.int x, .int (nI 1), .int (nI 1000)] dX6_checkLoudness_5 m_X6_isWithin k_X6_isWithin tw_102 rfl rfl (Nat.le_of_ble_eq_true rfl) ⟨by omega, by omega, by omega, by omega⟩ (c_isWithin hl (by omega) x (nI 1) (nI 1000)) (kr_some (x := .int (nI (inR x (nI 1) (nI 1000)))) ?_) kx_no
  refine V_ifn_ne (tgt := 21) C dX6_checkLoudness_8 (by decide) (by omega) (fun hb1 => ?_) (fun hb1 => by exfalso; omega)
  exact V_vret C dX6_checkLoudness_21 hr ⟨rfl, rfl, rfl⟩ (by omega) (by omega)
set_option maxHeartbeats 4000000 in
theorem c_ckCert_ok {l : Launch} {D : va_G} {ba d : Nat} {ad : Adr} {w : Wd} (hl : l.stackTraces = false) (hd : 2 ≤ d) {LH : Lab} {sa sc dm du dy : Nat} {ce : Int32} (hH : w LH = some (.inr (0, [.ref sa, .int (nI sc), .int (nI dm), .int (nI du), .int ce, .int (nI dy)]))) (hc : ¬ ce = -1) : CT l yX6_checkCertificate (wsO yX6_checkCertificate cX6_checkCertificate 1 none) d 1 6 D ba [.ref (ad LH)] ad w (isR none ad w) noX := by
  refine CT_of RX6 rfl (by decide +kernel) hl (Nat.le_of_ble_eq_true rfl) ?_
  intro p e s m args below meth c C hr hnm
  refine V_lvE (lv' := [(0, .ref (ad LH))]) rfl ?_
  have hs9 : (if ce = -1 then 0 else 1) ≤ 1 := by split <;> omega
  refine V_aload_n C dX6_checkCertificate_0 0 rfl ?_
  refine V_callVN (r := (RX0, TX0, 6)) C RX6 [] dX6_checkCertificate_1 m_X0_hasCertificate k_X0_hasCertificate tw_418 rfl rfl rfl hH rfl rfl (Nat.le_of_ble_eq_true rfl) ⟨by omega, by omega, by omega, by omega⟩ (c_hasCert hl (by omega) hH) (kr_some (x := .int (nI (if ce = -1 then 0 else 1))) ?_) kx_no
  refine V_ifn_ne (tgt := 17) C dX6_checkCertificate_4 (by decide) (by omega) (fun hb1 => ?_) (fun hb1 => by exfalso; rw [if_neg hc] at hb1; omega)
  exact V_vret C dX6_checkCertificate_17 hr ⟨rfl, rfl, rfl⟩ (by omega) (by omega)
end
section
/-! ===== the class's world ===== -/
def put (i : Nat) (f o : Wd) : Wd := fun L => match L with
  | [] => o []
  | j :: r => if j = i then f r else o (j :: r)
theorem put_s {i : Nat} {f o : Wd} {r : Lab} : put i f o (i :: r) = f r := if_pos rfl
theorem put_n {i j : Nat} {f o : Wd} {r : Lab} (h : j ≠ i) : put i f o (j :: r) = o (j :: r) := if_neg h
theorem put_wset {i : Nat} {f o : Wd} {r : Lab} {e : Ent} : wset (put i f o) (i :: r) e = put i (wset f r e) o := by
  funext L
  cases L with
  | nil => simp [wset, put]
  | cons j q =>
    by_cases hj : j = i
    · subst hj
      by_cases hq : q = r
      · subst hq; simp [wset, put]
      · simp [wset, put, hq]
    · simp [wset, put, hj]
theorem put_comm {i j : Nat} {f g o : Wd} (h : i ≠ j) : put i f (put j g o) = put j g (put i f o) := by
  funext L
  cases L with
  | nil => rfl
  | cons k q =>
    by_cases h1 : k = i
    · subst h1; simp [put, h]
    · by_cases h2 : k = j
      · subst h2; simp [put, h1]
      · simp [put, h1, h2]
/-- a hall: how many surfaces, damping, dust, certificate (-1: none), its days, its surfaces (hardness as built, distance) -/
abbrev HallS : Type := Nat × Nat × Nat × Int32 × Nat × (Nat → Nat × Nat)
abbrev hSc (h : HallS) : Nat := h.1
abbrev hDm (h : HallS) : Nat := h.2.1
abbrev hDu (h : HallS) : Nat := h.2.2.1
abbrev hCe (h : HallS) : Int32 := h.2.2.2.1
abbrev hDy (h : HallS) : Nat := h.2.2.2.2.1
abbrev hSu (h : HallS) : Nat → Nat × Nat := h.2.2.2.2.2
/-- a standard: earliest, limit, most, latest, days -/
abbrev StdS : Type := Nat × Nat × Nat × Nat × Nat
/-- a bureau: how many halls, how many standards, day, inspections, halls, standards -/
abbrev CS : Type := Nat × Nat × Int32 × Int32 × (Nat → HallS) × (Nat → StdS)
abbrev cN (σ : CS) : Nat := σ.1
abbrev cK (σ : CS) : Nat := σ.2.1
abbrev cDay (σ : CS) : Int32 := σ.2.2.1
abbrev cIns (σ : CS) : Int32 := σ.2.2.2.1
abbrev cH (σ : CS) : Nat → HallS := σ.2.2.2.2.1
abbrev cS (σ : CS) : Nat → StdS := σ.2.2.2.2.2
abbrev eHall (sa : Nat) (sc dm du : Nat) (ce : Int32) (dy : Nat) : Ent := .inr (0, [.ref sa, .int (nI sc), .int (nI dm), .int (nI du), .int ce, .int (nI dy)])
abbrev eSurf (hb ds : Nat) : Ent := .inr (3, [.int (nI hb), .int (nI ds)])
abbrev eStd (ea li mo lt dy : Nat) : Ent := .inr (2, [.int (nI ea), .int (nI li), .int (nI mo), .int (nI lt), .int (nI dy)])
abbrev eBur (a1 a2 : Nat) (n k : Nat) (day ins : Int32) (a3 a4 : Nat) : Ent := .inr (5, [.ref a1, .ref a2, .int (nI n), .int (nI k), .int day, .int ins, .ref a3, .ref a4])
def adN (n : Nat) (f : Nat → Nat) : Nat → Option Nat := fun j => if j < n then some (f j) else none
theorem adN_lt {n : Nat} {f : Nat → Nat} {j : Nat} (h : j < n) : adN n f j = some (f j) := if_pos h
theorem adN_ge {n : Nat} {f : Nat → Nat} {j : Nat} (h : ¬ j < n) : adN n f j = none := if_neg h
theorem adN_up {n : Nat} {f : Nat → Nat} {a : Nat} (h : a = f n) : va_up (adN n f) n (some a) = adN (n + 1) f := by
  funext j
  by_cases hj : j = n
  · subst hj; simp [va_up, adN, h]
  · by_cases h2 : j < n
    · simp [va_up, adN, hj, h2, Nat.lt_succ_of_lt h2]
    · have h3 : ¬ j < n + 1 := by omega
      simp [va_up, adN, hj, h2, h3]
theorem adN_congr {n : Nat} {f g : Nat → Nat} (h : ∀ j, j < n → f j = g j) : adN n f = adN n g := by
  funext j
  by_cases hj : j < n
  · simp [adN, hj, h j hj]
  · simp [adN, hj]
def WC (i : Nat) (ad : Adr) (σ : CS) (tl : Int32) (t : TT) (lo : Nat → Int32) : Wd := fun L => match L with
  | [] => some (eBur (ad [i, 1]) (ad [i, 2]) (cN σ) (cK σ) (cDay σ) (cIns σ) (ad [i, 3]) (ad [i, 4]))
  | [c] => if c = 1 then some (eQ RX0 8 (adN (cN σ) (fun j => ad [i, 6, j]))) else if c = 2 then some (eQ RX3 5 (adN (cK σ) (fun j => ad [i, 9, j]))) else if c = 3 then some (ET tl t) else if c = 4 then some (.inr (1, [.ref (ad [i, 5])])) else if c = 5 then some (eI 501 lo) else none
  | [c, j] => if c = 6 then (if j < cN σ then some (eHall (ad [i, 7, j]) (hSc (cH σ j)) (hDm (cH σ j)) (hDu (cH σ j)) (hCe (cH σ j)) (hDy (cH σ j))) else none) else if c = 7 then (if j < cN σ then some (eQ RX4 6 (adN (hSc (cH σ j)) (fun k => ad [i, 8, j, k]))) else none) else if c = 9 then (if j < cK σ then some (eStd (cS σ j).1 (cS σ j).2.1 (cS σ j).2.2.1 (cS σ j).2.2.2.1 (cS σ j).2.2.2.2) else none) else none
  | [c, j, k] => if c = 8 then (if j < cN σ ∧ k < hSc (cH σ j) then some (eSurf (hSu (cH σ j) k).1 (hSu (cH σ j) k).2) else none) else none
  | _ :: _ :: _ :: _ :: _ => none
abbrev PW (i : Nat) (ad : Adr) (σ : CS) (tl : Int32) (t : TT) (lo : Nat → Int32) (o : Wd) : Wd := put i (WC i ad σ tl t lo) o
section PWL
variable {i : Nat} {ad : Adr} {σ : CS} {tl : Int32} {t : TT} {lo : Nat → Int32} {o : Wd}
theorem PW_b : PW i ad σ tl t lo o [i] = some (eBur (ad [i, 1]) (ad [i, 2]) (cN σ) (cK σ) (cDay σ) (cIns σ) (ad [i, 3]) (ad [i, 4])) := put_s
theorem PW_hr : PW i ad σ tl t lo o [i, 1] = some (eQ RX0 8 (adN (cN σ) (fun j => ad [i, 6, j]))) := put_s
theorem PW_sr : PW i ad σ tl t lo o [i, 2] = some (eQ RX3 5 (adN (cK σ) (fun j => ad [i, 9, j]))) := put_s
theorem PW_t : PW i ad σ tl t lo o [i, 3] = some (ET tl t) := put_s
theorem PW_l : PW i ad σ tl t lo o [i, 4] = some (.inr (1, [.ref (ad [i, 5])])) := put_s
theorem PW_a : PW i ad σ tl t lo o [i, 5] = some (eI 501 lo) := put_s
theorem PW_h {j : Nat} (h : j < cN σ) : PW i ad σ tl t lo o [i, 6, j] = some (eHall (ad [i, 7, j]) (hSc (cH σ j)) (hDm (cH σ j)) (hDu (cH σ j)) (hCe (cH σ j)) (hDy (cH σ j))) := put_s.trans (by simp [WC, h])
theorem PW_hs {j : Nat} (h : j < cN σ) : PW i ad σ tl t lo o [i, 7, j] = some (eQ RX4 6 (adN (hSc (cH σ j)) (fun k => ad [i, 8, j, k]))) := put_s.trans (by simp [WC, h])
theorem PW_u {j k : Nat} (h : j < cN σ) (hk : k < hSc (cH σ j)) : PW i ad σ tl t lo o [i, 8, j, k] = some (eSurf (hSu (cH σ j) k).1 (hSu (cH σ j) k).2) := put_s.trans (by simp [WC, h, hk])
theorem PW_d {j : Nat} (h : j < cK σ) : PW i ad σ tl t lo o [i, 9, j] = some (eStd (cS σ j).1 (cS σ j).2.1 (cS σ j).2.2.1 (cS σ j).2.2.2.1 (cS σ j).2.2.2.2) := put_s.trans (by simp [WC, h])
theorem PW_ext {f g : Wd} {r : Lab} {e : Ent} (h1 : g r = some e) (h2 : ∀ q, q ≠ r → g q = f q) : wset (put i f o) (i :: r) e = put i g o := by
  rw [put_wset]
  congr 1
  funext q
  by_cases h : q = r
  · subst h; rw [wset_s, h1]
  · rw [wset_n h, h2 q h]
def fup {α : Type} (f : Nat → α) (j : Nat) (x : α) : Nat → α := fun k => if k = j then x else f k
theorem fup_s {α : Type} {f : Nat → α} {j : Nat} {x : α} : fup f j x j = x := if_pos rfl
theorem fup_n {α : Type} {f : Nat → α} {j k : Nat} {x : α} (h : k ≠ j) : fup f j x k = f k := if_neg h
abbrev setH (σ : CS) (j : Nat) (h : HallS) : CS := (cN σ, cK σ, cDay σ, cIns σ, fup (cH σ) j h, cS σ)
theorem PW_t' {tl' : Int32} {t' : TT} : wset (PW i ad σ tl t lo o) [i, 3] (ET tl' t') = PW i ad σ tl' t' lo o := by
  refine PW_ext (r := [3]) rfl (fun q hq => ?_)
  rcases q with _ | ⟨c, _ | ⟨j, _ | ⟨k, _ | ⟨x, y⟩⟩⟩⟩ <;> first | rfl | skip
  have hc : c ≠ 3 := fun z => hq (by rw [z])
  simp [WC, hc]
theorem PW_a' {lo' : Nat → Int32} : wset (PW i ad σ tl t lo o) [i, 5] (eI 501 lo') = PW i ad σ tl t lo' o := by
  refine PW_ext (r := [5]) rfl (fun q hq => ?_)
  rcases q with _ | ⟨c, _ | ⟨j, _ | ⟨k, _ | ⟨x, y⟩⟩⟩⟩ <;> first | rfl | skip
  have hc : c ≠ 5 := fun z => hq (by rw [z])
  simp [WC, hc]
theorem PW_b' {day ins : Int32} : wset (PW i ad σ tl t lo o) [i] (eBur (ad [i, 1]) (ad [i, 2]) (cN σ) (cK σ) day ins (ad [i, 3]) (ad [i, 4])) = PW i ad (cN σ, cK σ, day, ins, cH σ, cS σ) tl t lo o := by
  refine PW_ext (r := []) rfl (fun q hq => ?_)
  rcases q with _ | ⟨c, _ | ⟨j, _ | ⟨k, _ | ⟨x, y⟩⟩⟩⟩ <;> first | rfl | skip
  exact absurd rfl hq
/-- a hall's numbers change, not its surfaces -/
theorem PW_h' {j dm du dy : Nat} {ce : Int32} (hj : j < cN σ) : wset (PW i ad σ tl t lo o) [i, 6, j] (eHall (ad [i, 7, j]) (hSc (cH σ j)) dm du ce dy) = PW i ad (setH σ j (hSc (cH σ j), dm, du, ce, dy, hSu (cH σ j))) tl t lo o := by
  refine PW_ext (r := [6, j]) (by simp [WC, hj, fup, setH, cN, cK, cH, cS, hSc, hDm, hDu, hCe, hDy, hSu]) (fun q hq => ?_)
  rcases q with _ | ⟨c, _ | ⟨a, _ | ⟨k, _ | ⟨x, y⟩⟩⟩⟩ <;> first | rfl | skip
  · by_cases ha : a = j
    · subst ha
      have hc : c ≠ 6 := fun z => hq (by rw [z])
      simp [WC, hc, fup, setH, cN, cK, cH, cS, hSc, hDm, hDu, hCe, hDy, hSu]
    · simp [WC, fup, ha, setH, cN, cK, cH, cS, hSc, hDm, hDu, hCe, hDy, hSu]
  · by_cases ha : a = j
    · subst ha
      simp [WC, fup, setH, cN, cK, cH, cS, hSc, hDm, hDu, hCe, hDy, hSu]
    · simp [WC, fup, ha, setH, cN, cK, cH, cS, hSc, hDm, hDu, hCe, hDy, hSu]
/-- a surface's numbers change -/
theorem PW_u' {j k hb ds : Nat} (hj : j < cN σ) (hk : k < hSc (cH σ j)) : wset (PW i ad σ tl t lo o) [i, 8, j, k] (eSurf hb ds) = PW i ad (setH σ j (hSc (cH σ j), hDm (cH σ j), hDu (cH σ j), hCe (cH σ j), hDy (cH σ j), fup (hSu (cH σ j)) k (hb, ds))) tl t lo o := by
  refine PW_ext (r := [8, j, k]) (by simp [WC, hj, hk, fup, setH, cN, cK, cH, cS, hSc, hDm, hDu, hCe, hDy, hSu]) (fun q hq => ?_)
  rcases q with _ | ⟨c, _ | ⟨a, _ | ⟨b, _ | ⟨x, y⟩⟩⟩⟩ <;> first | rfl | skip
  · by_cases ha : a = j
    · subst ha
      simp [WC, fup, setH, cN, cK, cH, cS, hSc, hDm, hDu, hCe, hDy, hSu]
    · simp [WC, fup, ha, setH, cN, cK, cH, cS, hSc, hDm, hDu, hCe, hDy, hSu]
  · by_cases ha : a = j
    · subst ha
      by_cases hb2 : b = k
      · subst hb2
        have hc : c ≠ 8 := fun z => hq (by rw [z])
        simp [WC, hc, setH, cN, cK, cH, cS, hSc, hDm, hDu, hCe, hDy, hSu]
      · simp [WC, fup, hb2, setH, cN, cK, cH, cS, hSc, hDm, hDu, hCe, hDy, hSu]
    · simp [WC, fup, ha, setH, cN, cK, cH, cS, hSc, hDm, hDu, hCe, hDy, hSu]
end PWL
/-- what holds of every bureau -/
def hOK (h : HallS) : Prop := hSc h ≤ 6 ∧ hDm h ≤ 90 ∧ hDu h ≤ 100 ∧ hDy h ≤ 100 ∧ ∀ k, k < hSc h → (hSu h k).1 ≤ 99 ∧ 1 ≤ (hSu h k).2 ∧ (hSu h k).2 ≤ 60
def dOK (d : StdS) : Prop := d.1 ≤ 500 ∧ 1 ≤ d.2.1 ∧ d.2.1 ≤ 1000 ∧ d.2.2.1 ≤ 99 ∧ d.2.2.2.1 ≤ 3000 ∧ 1 ≤ d.2.2.2.2 ∧ d.2.2.2.2 ≤ 100
def cOK (σ : CS) : Prop := cN σ ≤ 8 ∧ cK σ ≤ 5 ∧ (∀ j, j < cN σ → hOK (cH σ j)) ∧ ∀ j, j < cK σ → dOK (cS σ j)
theorem cOK_set {σ : CS} {j : Nat} {h : HallS} (hσ : cOK σ) (hh : hOK h) : cOK (setH σ j h) := by
  refine ⟨hσ.1, hσ.2.1, fun a ha => ?_, hσ.2.2.2⟩
  show hOK (fup (cH σ) j h a)
  by_cases hj : a = j
  · subst hj; rw [fup_s]; exact hh
  · rw [fup_n hj]; exact hσ.2.2.1 a ha
end
section

def upF {α : Type} (g : Nat → α → α) : Nat → α → α
  | 0, x => x
  | m + 1, x => g m (upF g m x)
theorem upF_s {α : Type} {g : Nat → α → α} {k sc : Nat} {x : α} (h : k < sc) : upF g (min (k + 1) sc) x = g k (upF g (min k sc) x) := by
  rw [Nat.min_eq_left h, Nat.min_eq_left (Nat.le_of_lt h)]; rfl
theorem upF_e {α : Type} {g : Nat → α → α} {k sc : Nat} {x : α} (h : sc ≤ k) : upF g (min (k + 1) sc) x = upF g (min k sc) x := by
  rw [Nat.min_eq_right h, Nat.min_eq_right (by omega)]
theorem upF_x {α : Type} {g : Nat → α → α} {k sc : Nat} {x : α} (h : sc ≤ k) : upF g (min k sc) x = upF g sc x := by rw [Nat.min_eq_right h]
def rowsT (tl : Int32) (dm du click : Nat) (su : Nat → Nat × Nat) : Nat → TT → TT := fun k t => List.foldl (hearT tl) t (rowE ((su k).1 - du / 5) dm (su k).2 500 1 click)
def rowsL (dm du click : Nat) (su : Nat → Nat × Nat) : Nat → (Nat → Int32) → Nat → Int32 := fun k f => List.foldl hearL f (rowE ((su k).1 - du / 5) dm (su k).2 500 1 click)
set_option maxHeartbeats 4000000 in
theorem c_findHall {l : Launch} {D : va_G} {ba d : Nat} {ad : Adr} (hl : l.stackTraces = false) (hd : 7 ≤ d) {i : Nat} {σ : CS} {tl : Int32} {t : TT} {lo : Nat → Int32} {o : Wd} (hσ : cOK σ) {j : Nat} (hj : j < cN σ) : CT l yX6_findHall (wsO yX6_findHall cX6_findHall 3 (some (.object "EchoBureau$Hall"))) d 1 6 D ba [.ref (ad [i]), .int (nI j)] ad (PW i ad σ tl t lo o) (isR (some (.ref (ad [i, 6, j]))) ad (PW i ad σ tl t lo o)) noX := by
  refine CT_of RX6 rfl (by decide +kernel) hl (Nat.le_of_ble_eq_true rfl) ?_
  intro p e s m args below meth c C hr hnm
  refine V_lvE (lv' := [(0, .ref (ad [i])), (1, .int (nI j))]) rfl ?_
  have h8 := hσ.1
  refine V_iload_n C dX6_findHall_0 1 rfl ?_
  refine V_ifn_lt (tgt := 13) C dX6_findHall_1 (by decide) (by omega) ?_
  refine V_iload_n C dX6_findHall_4 1 rfl ?_
  refine V_aload_n C dX6_findHall_5 0 rfl ?_
  refine V_get (ci := 5) (k := 0) C dX6_findHall_6 RX6 RX6 TX6 8 fw_X6 rfl (by decide) tw_70 rfl rfl PW_b rfl ?_
  refine V_alen (v := nI 8) C dX6_findHall_9 rfl PW_hr rfl ?_
  refine V_icmpn_lt (tgt := 23) C dX6_findHall_10 (by decide) (by omega) (by decide) (fun hb2 => ?_) (fun hb2 => by exfalso; omega)
  refine V_aload_n C dX6_findHall_23 0 rfl ?_
  refine V_get (ci := 5) (k := 0) C dX6_findHall_24 RX6 RX6 TX6 8 fw_X6 rfl (by decide) tw_70 rfl rfl PW_b rfl ?_
  refine V_iload_n C dX6_findHall_27 1 rfl ?_
  refine V_aaldn (v := .ref (ad [i, 6, j])) C dX6_findHall_28 rfl PW_hr (by omega) (by decide) (by rw [adN_lt hj]; rfl) ?_
  refine V_astore_n C [(2, .ref (ad [i, 6, j])), (0, .ref (ad [i])), (1, .int (nI j))] dX6_findHall_29 (by decide) rfl ?_
  refine V_aload_n C dX6_findHall_30 0 rfl ?_
  refine V_ifnonnull (tgt := 44) C dX6_findHall_31 (by decide) ?_
  refine V_aload_n C dX6_findHall_44 0 rfl ?_
  exact V_aret C "EchoBureau$Hall" dX6_findHall_45 hr ⟨rfl, rfl, rfl⟩ (by omega) (by omega)

set_option maxHeartbeats 4000000 in
theorem c_findStd {l : Launch} {D : va_G} {ba d : Nat} {ad : Adr} (hl : l.stackTraces = false) (hd : 7 ≤ d) {i : Nat} {σ : CS} {tl : Int32} {t : TT} {lo : Nat → Int32} {o : Wd} (hσ : cOK σ) {q : Nat} (hq : q < cK σ) : CT l yX6_findStandard (wsO yX6_findStandard cX6_findStandard 3 (some (.object "EchoBureau$Standard"))) d 1 6 D ba [.ref (ad [i]), .int (nI q)] ad (PW i ad σ tl t lo o) (isR (some (.ref (ad [i, 9, q]))) ad (PW i ad σ tl t lo o)) noX := by
  refine CT_of RX6 rfl (by decide +kernel) hl (Nat.le_of_ble_eq_true rfl) ?_
  intro p e s m args below meth c C hr hnm
  refine V_lvE (lv' := [(0, .ref (ad [i])), (1, .int (nI q))]) rfl ?_
  have h8 := hσ.2.1
  refine V_iload_n C dX6_findStandard_0 1 rfl ?_
  refine V_ifn_lt (tgt := 13) C dX6_findStandard_1 (by decide) (by omega) ?_
  refine V_iload_n C dX6_findStandard_4 1 rfl ?_
  refine V_aload_n C dX6_findStandard_5 0 rfl ?_
  refine V_get (ci := 5) (k := 1) C dX6_findStandard_6 RX6 RX6 TX6 8 fw_X6 rfl (by decide) tw_71 rfl rfl PW_b rfl ?_
  refine V_alen (v := nI 5) C dX6_findStandard_9 rfl PW_sr rfl ?_
  refine V_icmpn_lt (tgt := 23) C dX6_findStandard_10 (by decide) (by omega) (by decide) (fun hb2 => ?_) (fun hb2 => by exfalso; omega)
  refine V_aload_n C dX6_findStandard_23 0 rfl ?_
  refine V_get (ci := 5) (k := 1) C dX6_findStandard_24 RX6 RX6 TX6 8 fw_X6 rfl (by decide) tw_71 rfl rfl PW_b rfl ?_
  refine V_iload_n C dX6_findStandard_27 1 rfl ?_
  refine V_aaldn (v := .ref (ad [i, 9, q])) C dX6_findStandard_28 rfl PW_sr (by omega) (by decide) (by rw [adN_lt hq]; rfl) ?_
  refine V_astore_n C [(2, .ref (ad [i, 9, q])), (0, .ref (ad [i])), (1, .int (nI q))] dX6_findStandard_29 (by decide) rfl ?_
  refine V_aload_n C dX6_findStandard_30 0 rfl ?_
  refine V_ifnonnull (tgt := 44) C dX6_findStandard_31 (by decide) ?_
  refine V_aload_n C dX6_findStandard_44 0 rfl ?_
  exact V_aret C "EchoBureau$Standard" dX6_findStandard_45 hr ⟨rfl, rfl, rfl⟩ (by omega) (by omega)

set_option maxHeartbeats 4000000 in
theorem c_findSurf {l : Launch} {D : va_G} {ba d : Nat} {ad : Adr} (hl : l.stackTraces = false) (hd : 7 ≤ d) {i : Nat} {σ : CS} {tl : Int32} {t : TT} {lo : Nat → Int32} {o : Wd} (hσ : cOK σ) {j k : Nat} (hj : j < cN σ) (hk : k < hSc (cH σ j)) : CT l yX6_findSurface (wsO yX6_findSurface cX6_findSurface 3 (some (.object "EchoBureau$Surface"))) d 1 6 D ba [.ref (ad [i, 6, j]), .int (nI k)] ad (PW i ad σ tl t lo o) (isR (some (.ref (ad [i, 8, j, k]))) ad (PW i ad σ tl t lo o)) noX := by
  refine CT_of RX6 rfl (by decide +kernel) hl (Nat.le_of_ble_eq_true rfl) ?_
  intro p e s m args below meth c C hr hnm
  refine V_lvE (lv' := [(0, .ref (ad [i, 6, j])), (1, .int (nI k))]) rfl ?_
  have h8 := (hσ.2.2.1 j hj).1
  refine V_iload_n C dX6_findSurface_0 1 rfl ?_
  refine V_ifn_lt (tgt := 13) C dX6_findSurface_1 (by decide) (by omega) ?_
  refine V_iload_n C dX6_findSurface_4 1 rfl ?_
  refine V_aload_n C dX6_findSurface_5 0 rfl ?_
  refine V_getN (ci := 0) (k := 0) C dX6_findSurface_6 RX0 RX0 RX6 TX0 6 fw_X0 rfl (by decide) tw_197 rfl rfl (PW_h hj) rfl ?_
  refine V_alen (v := nI 6) C dX6_findSurface_9 rfl (PW_hs hj) rfl ?_
  refine V_icmpn_lt (tgt := 23) C dX6_findSurface_10 (by decide) (by omega) (by decide) (fun hb2 => ?_) (fun hb2 => by exfalso; omega)
  refine V_aload_n C dX6_findSurface_23 0 rfl ?_
  refine V_getN (ci := 0) (k := 0) C dX6_findSurface_24 RX0 RX0 RX6 TX0 6 fw_X0 rfl (by decide) tw_197 rfl rfl (PW_h hj) rfl ?_
  refine V_iload_n C dX6_findSurface_27 1 rfl ?_
  refine V_aaldn (v := .ref (ad [i, 8, j, k])) C dX6_findSurface_28 rfl (PW_hs hj) (by omega) (by decide) (by rw [adN_lt hk]; rfl) ?_
  refine V_astore_n C [(2, .ref (ad [i, 8, j, k])), (0, .ref (ad [i, 6, j])), (1, .int (nI k))] dX6_findSurface_29 (by decide) rfl ?_
  refine V_aload_n C dX6_findSurface_30 0 rfl ?_
  refine V_ifnonnull (tgt := 44) C dX6_findSurface_31 (by decide) ?_
  refine V_aload_n C dX6_findSurface_44 0 rfl ?_
  exact V_aret C "EchoBureau$Surface" dX6_findSurface_45 hr ⟨rfl, rfl, rfl⟩ (by omega) (by omega)

set_option maxHeartbeats 4000000 in
theorem lp_throwT {p : Program} {l : Launch} {e : Env} {s : State} {m : MethodId} {args : Array Value} {below : List Frame} {meth : Method} {c : Code} {D : va_G} {ba d mc ms : Nat} {ad : Adr} {QR : Option Value → Adr → Wd → Prop} {QX : String → Adr → Wd → Prop} (C : Cx p l s m args meth c D ba RX0 cX0_throwBack 9 [] d) (hl : l.stackTraces = false) (hr : meth.sig.returnType = none) (hd : 5 ≤ d) {i : Nat} {σ : CS} {tl : Int32} {t : TT} {lo : Nat → Int32} {o : Wd} (hσ : cOK σ) {j : Nat} (hj : j < cN σ) {click dm du : Nat} (hdm : dm ≤ 90) (hdu : du ≤ 100) (hcl : click ≤ 1000) (hq : QR none ad (PW i ad σ tl (upF (rowsT tl dm du click (hSu (cH σ j))) (hSc (cH σ j)) t) lo o)) : ∀ (n : Nat) (k : Nat), k + n = 6 → V p l e s m args below meth c D ba d mc ms (MO D ba QR QX below args s mc ms) 9 ad (PW i ad σ tl (upF (rowsT tl dm du click (hSu (cH σ j))) (min k (hSc (cH σ j))) t) lo o) 14 [(7, .int (nI k)), (6, .int (nI 6)), (5, .ref (ad [i, 7, j])), (0, .ref (ad [i, 6, j])), (1, .int (nI click)), (2, .int (nI dm)), (3, .int (nI du)), (4, .ref (ad [i, 3]))] [] 0 0 := by
  intro n
  induction n with
  | zero =>
    intro k hk
    have hu := hσ.2.2.1 j hj
    have hu6 := hu.1
    refine V_iload C dX0_throwBack_14 0 rfl ?_
    refine V_iload C dX0_throwBack_16 1 rfl ?_
    refine V_icmpn_ge (tgt := 49) C dX0_throwBack_18 (by decide) (by omega) (by decide) (fun hb1 => ?_) (fun hb1 => by exfalso; omega)
    exact V_vret C dX0_throwBack_49 hr (by rw [upF_x (by omega)]; exact hq) (by omega) (by omega)
  | succ n ih =>
    intro k hk
    have hu := hσ.2.2.1 j hj
    have hu6 := hu.1
    refine V_iload C dX0_throwBack_14 0 rfl ?_
    refine V_iload C dX0_throwBack_16 1 rfl ?_
    refine V_icmpn_ge (tgt := 49) C dX0_throwBack_18 (by decide) (by omega) (by decide) (fun hb1 => by exfalso; omega) (fun hb1 => ?_)
    refine V_aload C dX0_throwBack_21 2 rfl ?_
    refine V_iload C dX0_throwBack_23 0 rfl ?_
    rcases Nat.lt_or_ge k (hSc (cH σ j)) with hks | hks
    · skip
      refine V_aaldn (v := .ref (ad [i, 8, j, k])) C dX0_throwBack_25 rfl (PW_hs hj) (by omega) (by decide) (by rw [adN_lt hks]; rfl) ?_
      refine V_astore C [(8, .ref (ad [i, 8, j, k])), (7, .int (nI k)), (6, .int (nI 6)), (5, .ref (ad [i, 7, j])), (0, .ref (ad [i, 6, j])), (1, .int (nI click)), (2, .int (nI dm)), (3, .int (nI du)), (4, .ref (ad [i, 3]))] dX0_throwBack_26 (by decide) rfl ?_
      refine V_aload C dX0_throwBack_28 0 rfl ?_
      refine V_ifnull C dX0_throwBack_30 ?_
      refine V_aload C dX0_throwBack_33 0 rfl ?_
      refine V_iload_n C dX0_throwBack_35 5 rfl ?_
      refine V_iload_n C dX0_throwBack_36 6 rfl ?_
      refine V_iload_n C dX0_throwBack_37 7 rfl ?_
      refine V_aload C dX0_throwBack_38 8 rfl ?_
      refine V_callVN (r := (RX4, TX4, 2)) C RX6 [.int (nI click), .int (nI dm), .int (nI du), .ref (ad [i, 3])] dX0_throwBack_40 m_X4_throwRow k_X4_throwRow tw_334 rfl rfl rfl (PW_u hj hks) rfl rfl (Nat.le_of_ble_eq_true rfl) ⟨by omega, by omega, by omega, by omega⟩ (c_rowT hl (by omega) (PW_u hj hks) (by simp) PW_t (hu.2.2.2.2 k hks).1 (hu.2.2.2.2 k hks).2.1 (hu.2.2.2.2 k hks).2.2 hdm hdu hcl) (kr_none ?_) kx_no
      refine V_wd (w' := PW i ad σ tl ((rowsT tl dm du click (hSu (cH σ j))) k (upF (rowsT tl dm du click (hSu (cH σ j))) (min k (hSc (cH σ j))) t)) lo o) PW_t' ?_
      refine V_iincn C [(7, .int (nI (k + 1))), (8, .ref (ad [i, 8, j, k])), (6, .int (nI 6)), (5, .ref (ad [i, 7, j])), (0, .ref (ad [i, 6, j])), (1, .int (nI click)), (2, .int (nI dm)), (3, .int (nI du)), (4, .ref (ad [i, 3]))] dX0_throwBack_43 1 rfl (by decide) rfl ?_
      refine V_goto (tgt := 14) C dX0_throwBack_46 (by decide) ?_
      refine V_wd (w' := PW i ad σ tl (upF (rowsT tl dm du click (hSu (cH σ j))) (min (k + 1) (hSc (cH σ j))) t) lo o) (by rw [upF_s hks]) ?_
      refine V_lv [0, 2, 3, 4, 5, 6, 7, 8] rfl ?_
      exact ih (k + 1) (by omega)
    · skip
      refine V_aaldn (v := .null) C dX0_throwBack_25 rfl (PW_hs hj) (by omega) (by decide) (by rw [adN_ge (Nat.not_lt.mpr hks)]; rfl) ?_
      refine V_astoreN C [(8, .null), (7, .int (nI k)), (6, .int (nI 6)), (5, .ref (ad [i, 7, j])), (0, .ref (ad [i, 6, j])), (1, .int (nI click)), (2, .int (nI dm)), (3, .int (nI du)), (4, .ref (ad [i, 3]))] dX0_throwBack_26 (by decide) rfl ?_
      refine V_aloadN C dX0_throwBack_28 0 rfl ?_
      refine V_ifnullN (tgt := 43) C dX0_throwBack_30 (by decide) ?_
      refine V_iincn C [(7, .int (nI (k + 1))), (8, .null), (6, .int (nI 6)), (5, .ref (ad [i, 7, j])), (0, .ref (ad [i, 6, j])), (1, .int (nI click)), (2, .int (nI dm)), (3, .int (nI du)), (4, .ref (ad [i, 3]))] dX0_throwBack_43 1 rfl (by decide) rfl ?_
      refine V_goto (tgt := 14) C dX0_throwBack_46 (by decide) ?_
      refine V_wd (w' := PW i ad σ tl (upF (rowsT tl dm du click (hSu (cH σ j))) (min (k + 1) (hSc (cH σ j))) t) lo o) (by rw [upF_e hks]) ?_
      refine V_lv [0, 2, 3, 4, 5, 6, 7, 8] rfl ?_
      exact ih (k + 1) (by omega)
set_option maxHeartbeats 4000000 in
theorem c_throwT {l : Launch} {D : va_G} {ba d : Nat} {ad : Adr} (hl : l.stackTraces = false) (hd : 5 ≤ d) {i : Nat} {σ : CS} {tl : Int32} {t : TT} {lo : Nat → Int32} {o : Wd} (hσ : cOK σ) {j : Nat} (hj : j < cN σ) {click dm du : Nat} (hdm : dm ≤ 90) (hdu : du ≤ 100) (hcl : click ≤ 1000)  : CT l yX0_throwBack (wsO yX0_throwBack cX0_throwBack 9 none) d 0 0 D ba [.ref (ad [i, 6, j]), .int (nI click), .int (nI dm), .int (nI du), .ref (ad [i, 3])] ad (PW i ad σ tl t lo o) (isR none ad (PW i ad σ tl (upF (rowsT tl dm du click (hSu (cH σ j))) (hSc (cH σ j)) t) lo o)) noX := by
  refine CT_of RX0 rfl (by decide +kernel) hl (Nat.le_of_ble_eq_true rfl) ?_
  intro p e s m args below meth c C hr hnm
  refine V_lvE (lv' := [(0, .ref (ad [i, 6, j])), (1, .int (nI click)), (2, .int (nI dm)), (3, .int (nI du)), (4, .ref (ad [i, 3]))]) rfl ?_
  have hu := hσ.2.2.1 j hj
  refine V_aload_n C dX0_throwBack_0 0 rfl ?_
  refine V_get (ci := 0) (k := 0) C dX0_throwBack_1 RX0 RX0 TX0 6 fw_X0 rfl (by decide) tw_196 rfl rfl (PW_h hj) rfl ?_
  refine V_astore C [(5, .ref (ad [i, 7, j])), (0, .ref (ad [i, 6, j])), (1, .int (nI click)), (2, .int (nI dm)), (3, .int (nI du)), (4, .ref (ad [i, 3]))] dX0_throwBack_4 (by decide) rfl ?_
  refine V_aload C dX0_throwBack_6 0 rfl ?_
  refine V_alen (v := nI 6) C dX0_throwBack_8 rfl (PW_hs hj) rfl ?_
  refine V_istore C [(6, .int (nI 6)), (5, .ref (ad [i, 7, j])), (0, .ref (ad [i, 6, j])), (1, .int (nI click)), (2, .int (nI dm)), (3, .int (nI du)), (4, .ref (ad [i, 3]))] dX0_throwBack_9 (by decide) rfl ?_
  refine V_iconst (v := nI 0) C dX0_throwBack_11 (by decide) ?_
  refine V_istore C [(7, .int (nI 0)), (6, .int (nI 6)), (5, .ref (ad [i, 7, j])), (0, .ref (ad [i, 6, j])), (1, .int (nI click)), (2, .int (nI dm)), (3, .int (nI du)), (4, .ref (ad [i, 3]))] dX0_throwBack_12 (by decide) rfl ?_
  refine V_wd (w' := PW i ad σ tl (upF (rowsT tl dm du click (hSu (cH σ j))) (min 0 (hSc (cH σ j))) t) lo o) (by rw [Nat.zero_min]; rfl) ?_
  refine V_lv [0, 1, 2, 3, 4, 5, 6, 7] rfl ?_
  exact lp_throwT C hl hr (by omega) hσ hj hdm hdu hcl ⟨rfl, rfl, rfl⟩ 6 0 (by omega)
set_option maxHeartbeats 4000000 in
theorem lp_throwL {p : Program} {l : Launch} {e : Env} {s : State} {m : MethodId} {args : Array Value} {below : List Frame} {meth : Method} {c : Code} {D : va_G} {ba d mc ms : Nat} {ad : Adr} {QR : Option Value → Adr → Wd → Prop} {QX : String → Adr → Wd → Prop} (C : Cx p l s m args meth c D ba RX0 cX0_throwBack 9 [] d) (hl : l.stackTraces = false) (hr : meth.sig.returnType = none) (hd : 5 ≤ d) {i : Nat} {σ : CS} {tl : Int32} {t : TT} {lo : Nat → Int32} {o : Wd} (hσ : cOK σ) {j : Nat} (hj : j < cN σ) {click dm du : Nat} (hdm : dm ≤ 90) (hdu : du ≤ 100) (hcl : click ≤ 1000) (hq : QR none ad (PW i ad σ tl t (upF (rowsL dm du click (hSu (cH σ j))) (hSc (cH σ j)) lo) o)) : ∀ (n : Nat) (k : Nat), k + n = 6 → V p l e s m args below meth c D ba d mc ms (MO D ba QR QX below args s mc ms) 9 ad (PW i ad σ tl t (upF (rowsL dm du click (hSu (cH σ j))) (min k (hSc (cH σ j))) lo) o) 14 [(7, .int (nI k)), (6, .int (nI 6)), (5, .ref (ad [i, 7, j])), (0, .ref (ad [i, 6, j])), (1, .int (nI click)), (2, .int (nI dm)), (3, .int (nI du)), (4, .ref (ad [i, 4]))] [] 0 0 := by
  intro n
  induction n with
  | zero =>
    intro k hk
    have hu := hσ.2.2.1 j hj
    have hu6 := hu.1
    refine V_iload C dX0_throwBack_14 0 rfl ?_
    refine V_iload C dX0_throwBack_16 1 rfl ?_
    refine V_icmpn_ge (tgt := 49) C dX0_throwBack_18 (by decide) (by omega) (by decide) (fun hb1 => ?_) (fun hb1 => by exfalso; omega)
    exact V_vret C dX0_throwBack_49 hr (by rw [upF_x (by omega)]; exact hq) (by omega) (by omega)
  | succ n ih =>
    intro k hk
    have hu := hσ.2.2.1 j hj
    have hu6 := hu.1
    refine V_iload C dX0_throwBack_14 0 rfl ?_
    refine V_iload C dX0_throwBack_16 1 rfl ?_
    refine V_icmpn_ge (tgt := 49) C dX0_throwBack_18 (by decide) (by omega) (by decide) (fun hb1 => by exfalso; omega) (fun hb1 => ?_)
    refine V_aload C dX0_throwBack_21 2 rfl ?_
    refine V_iload C dX0_throwBack_23 0 rfl ?_
    rcases Nat.lt_or_ge k (hSc (cH σ j)) with hks | hks
    · skip
      refine V_aaldn (v := .ref (ad [i, 8, j, k])) C dX0_throwBack_25 rfl (PW_hs hj) (by omega) (by decide) (by rw [adN_lt hks]; rfl) ?_
      refine V_astore C [(8, .ref (ad [i, 8, j, k])), (7, .int (nI k)), (6, .int (nI 6)), (5, .ref (ad [i, 7, j])), (0, .ref (ad [i, 6, j])), (1, .int (nI click)), (2, .int (nI dm)), (3, .int (nI du)), (4, .ref (ad [i, 4]))] dX0_throwBack_26 (by decide) rfl ?_
      refine V_aload C dX0_throwBack_28 0 rfl ?_
      refine V_ifnull C dX0_throwBack_30 ?_
      refine V_aload C dX0_throwBack_33 0 rfl ?_
      refine V_iload_n C dX0_throwBack_35 5 rfl ?_
      refine V_iload_n C dX0_throwBack_36 6 rfl ?_
      refine V_iload_n C dX0_throwBack_37 7 rfl ?_
      refine V_aload C dX0_throwBack_38 8 rfl ?_
      refine V_callVN (r := (RX4, TX4, 2)) C RX6 [.int (nI click), .int (nI dm), .int (nI du), .ref (ad [i, 4])] dX0_throwBack_40 m_X4_throwRow k_X4_throwRow tw_334 rfl rfl rfl (PW_u hj hks) rfl rfl (Nat.le_of_ble_eq_true rfl) ⟨by omega, by omega, by omega, by omega⟩ (c_rowL hl (by omega) (PW_u hj hks) PW_l (by simp) (by simp) PW_a (hu.2.2.2.2 k hks).1 (hu.2.2.2.2 k hks).2.1 (hu.2.2.2.2 k hks).2.2 hdm hdu hcl) (kr_none ?_) kx_no
      refine V_wd (w' := PW i ad σ tl t ((rowsL dm du click (hSu (cH σ j))) k (upF (rowsL dm du click (hSu (cH σ j))) (min k (hSc (cH σ j))) lo)) o) PW_a' ?_
      refine V_iincn C [(7, .int (nI (k + 1))), (8, .ref (ad [i, 8, j, k])), (6, .int (nI 6)), (5, .ref (ad [i, 7, j])), (0, .ref (ad [i, 6, j])), (1, .int (nI click)), (2, .int (nI dm)), (3, .int (nI du)), (4, .ref (ad [i, 4]))] dX0_throwBack_43 1 rfl (by decide) rfl ?_
      refine V_goto (tgt := 14) C dX0_throwBack_46 (by decide) ?_
      refine V_wd (w' := PW i ad σ tl t (upF (rowsL dm du click (hSu (cH σ j))) (min (k + 1) (hSc (cH σ j))) lo) o) (by rw [upF_s hks]) ?_
      refine V_lv [0, 2, 3, 4, 5, 6, 7, 8] rfl ?_
      exact ih (k + 1) (by omega)
    · skip
      refine V_aaldn (v := .null) C dX0_throwBack_25 rfl (PW_hs hj) (by omega) (by decide) (by rw [adN_ge (Nat.not_lt.mpr hks)]; rfl) ?_
      refine V_astoreN C [(8, .null), (7, .int (nI k)), (6, .int (nI 6)), (5, .ref (ad [i, 7, j])), (0, .ref (ad [i, 6, j])), (1, .int (nI click)), (2, .int (nI dm)), (3, .int (nI du)), (4, .ref (ad [i, 4]))] dX0_throwBack_26 (by decide) rfl ?_
      refine V_aloadN C dX0_throwBack_28 0 rfl ?_
      refine V_ifnullN (tgt := 43) C dX0_throwBack_30 (by decide) ?_
      refine V_iincn C [(7, .int (nI (k + 1))), (8, .null), (6, .int (nI 6)), (5, .ref (ad [i, 7, j])), (0, .ref (ad [i, 6, j])), (1, .int (nI click)), (2, .int (nI dm)), (3, .int (nI du)), (4, .ref (ad [i, 4]))] dX0_throwBack_43 1 rfl (by decide) rfl ?_
      refine V_goto (tgt := 14) C dX0_throwBack_46 (by decide) ?_
      refine V_wd (w' := PW i ad σ tl t (upF (rowsL dm du click (hSu (cH σ j))) (min (k + 1) (hSc (cH σ j))) lo) o) (by rw [upF_e hks]) ?_
      refine V_lv [0, 2, 3, 4, 5, 6, 7, 8] rfl ?_
      exact ih (k + 1) (by omega)
set_option maxHeartbeats 4000000 in
theorem c_throwL {l : Launch} {D : va_G} {ba d : Nat} {ad : Adr} (hl : l.stackTraces = false) (hd : 5 ≤ d) {i : Nat} {σ : CS} {tl : Int32} {t : TT} {lo : Nat → Int32} {o : Wd} (hσ : cOK σ) {j : Nat} (hj : j < cN σ) {click dm du : Nat} (hdm : dm ≤ 90) (hdu : du ≤ 100) (hcl : click ≤ 1000)  : CT l yX0_throwBack (wsO yX0_throwBack cX0_throwBack 9 none) d 0 0 D ba [.ref (ad [i, 6, j]), .int (nI click), .int (nI dm), .int (nI du), .ref (ad [i, 4])] ad (PW i ad σ tl t lo o) (isR none ad (PW i ad σ tl t (upF (rowsL dm du click (hSu (cH σ j))) (hSc (cH σ j)) lo) o)) noX := by
  refine CT_of RX0 rfl (by decide +kernel) hl (Nat.le_of_ble_eq_true rfl) ?_
  intro p e s m args below meth c C hr hnm
  refine V_lvE (lv' := [(0, .ref (ad [i, 6, j])), (1, .int (nI click)), (2, .int (nI dm)), (3, .int (nI du)), (4, .ref (ad [i, 4]))]) rfl ?_
  have hu := hσ.2.2.1 j hj
  refine V_aload_n C dX0_throwBack_0 0 rfl ?_
  refine V_get (ci := 0) (k := 0) C dX0_throwBack_1 RX0 RX0 TX0 6 fw_X0 rfl (by decide) tw_196 rfl rfl (PW_h hj) rfl ?_
  refine V_astore C [(5, .ref (ad [i, 7, j])), (0, .ref (ad [i, 6, j])), (1, .int (nI click)), (2, .int (nI dm)), (3, .int (nI du)), (4, .ref (ad [i, 4]))] dX0_throwBack_4 (by decide) rfl ?_
  refine V_aload C dX0_throwBack_6 0 rfl ?_
  refine V_alen (v := nI 6) C dX0_throwBack_8 rfl (PW_hs hj) rfl ?_
  refine V_istore C [(6, .int (nI 6)), (5, .ref (ad [i, 7, j])), (0, .ref (ad [i, 6, j])), (1, .int (nI click)), (2, .int (nI dm)), (3, .int (nI du)), (4, .ref (ad [i, 4]))] dX0_throwBack_9 (by decide) rfl ?_
  refine V_iconst (v := nI 0) C dX0_throwBack_11 (by decide) ?_
  refine V_istore C [(7, .int (nI 0)), (6, .int (nI 6)), (5, .ref (ad [i, 7, j])), (0, .ref (ad [i, 6, j])), (1, .int (nI click)), (2, .int (nI dm)), (3, .int (nI du)), (4, .ref (ad [i, 4]))] dX0_throwBack_12 (by decide) rfl ?_
  refine V_wd (w' := PW i ad σ tl t (upF (rowsL dm du click (hSu (cH σ j))) (min 0 (hSc (cH σ j))) lo) o) (by rw [Nat.zero_min]; rfl) ?_
  refine V_lv [0, 1, 2, 3, 4, 5, 6, 7] rfl ?_
  exact lp_throwL C hl hr (by omega) hσ hj hdm hdu hcl ⟨rfl, rfl, rfl⟩ 6 0 (by omega)
set_option maxHeartbeats 4000000 in
theorem c_tallyOf {l : Launch} {D : va_G} {ba d : Nat} {ad : Adr} (hl : l.stackTraces = false) (hd : 6 ≤ d) {i : Nat} {σ : CS} {tl : Int32} {t : TT} {lo : Nat → Int32} {o : Wd} (hσ : cOK σ) {j click : Nat} (hj : j < cN σ) (hcl : click ≤ 1000) (x : Int32) : CT l yX6_tallyOf (wsO yX6_tallyOf cX6_tallyOf 4 (some (.object "EchoBureau$Tally"))) d 0 0 D ba [.ref (ad [i]), .ref (ad [i, 6, j]), .int (nI click), .int x] ad (PW i ad σ tl t lo o) (isR (some (.ref (ad [i, 3]))) ad (PW i ad σ x (upF (rowsT x (hDm (cH σ j)) (hDu (cH σ j)) click (hSu (cH σ j))) (hSc (cH σ j)) (nI 0, nI 0, -1, -1)) lo o)) noX := by
  refine CT_of RX6 rfl (by decide +kernel) hl (Nat.le_of_ble_eq_true rfl) ?_
  intro p e s m args below meth c C hr hnm
  refine V_lvE (lv' := [(0, .ref (ad [i])), (1, .ref (ad [i, 6, j])), (2, .int (nI click)), (3, .int x)]) rfl ?_
  have hu := hσ.2.2.1 j hj
  have hu2 := hu.2.1
  have hu3 := hu.2.2.1
  refine V_aload_n C dX6_tallyOf_0 0 rfl ?_
  refine V_get (ci := 5) (k := 6) C dX6_tallyOf_1 RX6 RX6 TX6 8 fw_X6 rfl (by decide) tw_76 rfl rfl PW_b rfl ?_
  refine V_iload_n C dX6_tallyOf_4 3 rfl ?_
  refine V_callVN (r := (RX5, TX5, 5)) C RX6 [.int x] dX6_tallyOf_5 m_X5_begin k_X5_begin tw_326 rfl rfl rfl PW_t rfl rfl (Nat.le_of_ble_eq_true rfl) ⟨by omega, by omega, by omega, by omega⟩ (c_tBegin hl (by omega) PW_t x) (kr_none ?_) kx_no
  refine V_wd (w' := PW i ad σ x (nI 0, nI 0, -1, -1) lo o) (PW_t' (t' := (nI 0, nI 0, -1, -1))) ?_
  refine V_aload_n C dX6_tallyOf_8 1 rfl ?_
  refine V_iload_n C dX6_tallyOf_9 2 rfl ?_
  refine V_aload_n C dX6_tallyOf_10 1 rfl ?_
  refine V_getN (ci := 0) (k := 2) C dX6_tallyOf_11 RX0 RX0 RX6 TX0 6 fw_X0 rfl (by decide) tw_201 rfl rfl (PW_h hj) rfl ?_
  refine V_aload_n C dX6_tallyOf_14 1 rfl ?_
  refine V_getN (ci := 0) (k := 3) C dX6_tallyOf_15 RX0 RX0 RX6 TX0 6 fw_X0 rfl (by decide) tw_202 rfl rfl (PW_h hj) rfl ?_
  refine V_aload_n C dX6_tallyOf_18 0 rfl ?_
  refine V_get (ci := 5) (k := 6) C dX6_tallyOf_19 RX6 RX6 TX6 8 fw_X6 rfl (by decide) tw_76 rfl rfl PW_b rfl ?_
  refine V_callVN (r := (RX0, TX0, 6)) C RX6 [.int (nI click), .int (nI (hDm (cH σ j))), .int (nI (hDu (cH σ j))), .ref (ad [i, 3])] dX6_tallyOf_22 m_X0_throwBack k_X0_throwBack tw_330 rfl rfl rfl (PW_h hj) rfl rfl (Nat.le_of_ble_eq_true rfl) ⟨by omega, by omega, by omega, by omega⟩ (c_throwT hl (by omega) hσ hj (by omega) (by omega) (by omega)) (kr_none ?_) kx_no
  refine V_aload_n C dX6_tallyOf_25 0 rfl ?_
  refine V_get (ci := 5) (k := 6) C dX6_tallyOf_26 RX6 RX6 TX6 8 fw_X6 rfl (by decide) tw_76 rfl rfl PW_b rfl ?_
  exact V_aret C "EchoBureau$Tally" dX6_tallyOf_29 hr ⟨rfl, rfl, rfl⟩ (by omega) (by omega)
set_option maxHeartbeats 4000000 in
theorem c_loudOf {l : Launch} {D : va_G} {ba d : Nat} {ad : Adr} (hl : l.stackTraces = false) (hd : 6 ≤ d) {i : Nat} {σ : CS} {tl : Int32} {t : TT} {lo : Nat → Int32} {o : Wd} (hσ : cOK σ) {j click : Nat} (hj : j < cN σ) (hcl : click ≤ 1000) : CT l yX6_loudnessesOf (wsO yX6_loudnessesOf cX6_loudnessesOf 3 (some (.object "EchoBureau$Loudnesses"))) d 0 0 D ba [.ref (ad [i]), .ref (ad [i, 6, j]), .int (nI click)] ad (PW i ad σ tl t lo o) (isR (some (.ref (ad [i, 4]))) ad (PW i ad σ tl t (upF (rowsL (hDm (cH σ j)) (hDu (cH σ j)) click (hSu (cH σ j))) (hSc (cH σ j)) (fillF (nI 0) lo 501)) o)) noX := by
  refine CT_of RX6 rfl (by decide +kernel) hl (Nat.le_of_ble_eq_true rfl) ?_
  intro p e s m args below meth c C hr hnm
  refine V_lvE (lv' := [(0, .ref (ad [i])), (1, .ref (ad [i, 6, j])), (2, .int (nI click))]) rfl ?_
  have hu := hσ.2.2.1 j hj
  have hu2 := hu.2.1
  have hu3 := hu.2.2.1
  refine V_aload_n C dX6_loudnessesOf_0 0 rfl ?_
  refine V_get (ci := 5) (k := 7) C dX6_loudnessesOf_1 RX6 RX6 TX6 8 fw_X6 rfl (by decide) tw_77 rfl rfl PW_b rfl ?_
  refine V_callVN (r := (RX2, TX2, 1)) C RX6 [] dX6_loudnessesOf_4 m_X2_begin k_X2_begin tw_376 rfl rfl rfl PW_l rfl rfl (Nat.le_of_ble_eq_true rfl) ⟨by omega, by omega, by omega, by omega⟩ (c_lBegin hl (by omega) PW_l PW_a) (kr_none ?_) kx_no
  refine V_wd (w' := PW i ad σ tl t (fillF (nI 0) lo 501) o) PW_a' ?_
  refine V_aload_n C dX6_loudnessesOf_7 1 rfl ?_
  refine V_iload_n C dX6_loudnessesOf_8 2 rfl ?_
  refine V_aload_n C dX6_loudnessesOf_9 1 rfl ?_
  refine V_getN (ci := 0) (k := 2) C dX6_loudnessesOf_10 RX0 RX0 RX6 TX0 6 fw_X0 rfl (by decide) tw_201 rfl rfl (PW_h hj) rfl ?_
  refine V_aload_n C dX6_loudnessesOf_13 1 rfl ?_
  refine V_getN (ci := 0) (k := 3) C dX6_loudnessesOf_14 RX0 RX0 RX6 TX0 6 fw_X0 rfl (by decide) tw_202 rfl rfl (PW_h hj) rfl ?_
  refine V_aload_n C dX6_loudnessesOf_17 0 rfl ?_
  refine V_get (ci := 5) (k := 7) C dX6_loudnessesOf_18 RX6 RX6 TX6 8 fw_X6 rfl (by decide) tw_77 rfl rfl PW_b rfl ?_
  refine V_callVN (r := (RX0, TX0, 6)) C RX6 [.int (nI click), .int (nI (hDm (cH σ j))), .int (nI (hDu (cH σ j))), .ref (ad [i, 4])] dX6_loudnessesOf_21 m_X0_throwBack k_X0_throwBack tw_330 rfl rfl rfl (PW_h hj) rfl rfl (Nat.le_of_ble_eq_true rfl) ⟨by omega, by omega, by omega, by omega⟩ (c_throwL hl (by omega) hσ hj (by omega) (by omega) (by omega)) (kr_none ?_) kx_no
  refine V_aload_n C dX6_loudnessesOf_24 0 rfl ?_
  refine V_get (ci := 5) (k := 7) C dX6_loudnessesOf_25 RX6 RX6 TX6 8 fw_X6 rfl (by decide) tw_77 rfl rfl PW_b rfl ?_
  exact V_aret C "EchoBureau$Loudnesses" dX6_loudnessesOf_28 hr ⟨rfl, rfl, rfl⟩ (by omega) (by omega)
def okT (s : StdS) (t : TT) : Nat := okS s.1 s.2.2.1 s.2.2.2.1 t.1 t.2.1 t.2.2.1 t.2.2.2
def tlyW (h : HallS) (s : StdS) (dm du : Nat) : TT := upF (rowsT (nI s.2.1) dm du 1000 (hSu h)) (hSc h) (nI 0, nI 0, -1, -1)
def metW (h : HallS) (s : StdS) (dm du : Nat) : Nat := okT s (tlyW h s dm du)
theorem metW_le (h : HallS) (s : StdS) (dm du : Nat) : metW h s dm du ≤ 1 := by
  unfold metW okT okS
  split <;> (try split) <;> (try split) <;> (try split) <;> omega
set_option maxHeartbeats 4000000 in
theorem c_would {l : Launch} {D : va_G} {ba d : Nat} {ad : Adr} (hl : l.stackTraces = false) (hd : 6 ≤ d) {i : Nat} {σ : CS} {tl : Int32} {t : TT} {lo : Nat → Int32} {o : Wd} (hσ : cOK σ) {j q dm du : Nat} (hj : j < cN σ) (hq : q < cK σ) (hdm : dm ≤ 90) (hdu : du ≤ 100) : CT l yX6_wouldMeet (wsO yX6_wouldMeet cX6_wouldMeet 5 (some .boolean)) d 0 0 D ba [.ref (ad [i]), .ref (ad [i, 6, j]), .ref (ad [i, 9, q]), .int (nI dm), .int (nI du)] ad (PW i ad σ tl t lo o) (isR (some (.int (nI (metW (cH σ j) (cS σ q) dm du)))) ad (PW i ad σ (nI (cS σ q).2.1) (tlyW (cH σ j) (cS σ q) dm du) lo o)) noX := by
  refine CT_of RX6 rfl (by decide +kernel) hl (Nat.le_of_ble_eq_true rfl) ?_
  intro p e s m args below meth c C hr hnm
  refine V_lvE (lv' := [(0, .ref (ad [i])), (1, .ref (ad [i, 6, j])), (2, .ref (ad [i, 9, q])), (3, .int (nI dm)), (4, .int (nI du))]) rfl ?_
  refine V_aload_n C dX6_wouldMeet_0 0 rfl ?_
  refine V_get (ci := 5) (k := 6) C dX6_wouldMeet_1 RX6 RX6 TX6 8 fw_X6 rfl (by decide) tw_76 rfl rfl PW_b rfl ?_
  refine V_aload_n C dX6_wouldMeet_4 2 rfl ?_
  refine V_getN (ci := 2) (k := 1) C dX6_wouldMeet_5 RX3 RX3 RX6 TX3 5 fw_X3 rfl (by decide) tw_584 rfl rfl (PW_d hq) rfl ?_
  refine V_callVN (r := (RX5, TX5, 5)) C RX6 [.int (nI ((cS σ q).2.1))] dX6_wouldMeet_8 m_X5_begin k_X5_begin tw_326 rfl rfl rfl PW_t rfl rfl (Nat.le_of_ble_eq_true rfl) ⟨by omega, by omega, by omega, by omega⟩ (c_tBegin hl (by omega) PW_t (nI ((cS σ q).2.1))) (kr_none ?_) kx_no
  refine V_wd (w' := PW i ad σ (nI ((cS σ q).2.1)) (nI 0, nI 0, -1, -1) lo o) (PW_t' (t' := (nI 0, nI 0, -1, -1))) ?_
  refine V_aload_n C dX6_wouldMeet_11 1 rfl ?_
  refine V_sipush (v := nI 1000) C dX6_wouldMeet_12 (by decide) ?_
  refine V_iload_n C dX6_wouldMeet_15 3 rfl ?_
  refine V_iload C dX6_wouldMeet_16 4 rfl ?_
  refine V_aload_n C dX6_wouldMeet_18 0 rfl ?_
  refine V_get (ci := 5) (k := 6) C dX6_wouldMeet_19 RX6 RX6 TX6 8 fw_X6 rfl (by decide) tw_76 rfl rfl PW_b rfl ?_
  refine V_callVN (r := (RX0, TX0, 6)) C RX6 [.int (nI 1000), .int (nI dm), .int (nI du), .ref (ad [i, 3])] dX6_wouldMeet_22 m_X0_throwBack k_X0_throwBack tw_330 rfl rfl rfl (PW_h hj) rfl rfl (Nat.le_of_ble_eq_true rfl) ⟨by omega, by omega, by omega, by omega⟩ (c_throwT hl (by omega) hσ hj (by omega) (by omega) (by omega)) (kr_none ?_) kx_no
  refine V_aload_n C dX6_wouldMeet_25 2 rfl ?_
  refine V_aload_n C dX6_wouldMeet_26 0 rfl ?_
  refine V_get (ci := 5) (k := 6) C dX6_wouldMeet_27 RX6 RX6 TX6 8 fw_X6 rfl (by decide) tw_76 rfl rfl PW_b rfl ?_
  refine V_callVN (r := (RX3, TX3, 5)) C RX6 [.ref (ad [i, 3])] dX6_wouldMeet_30 m_X3_allows k_X3_allows tw_405 rfl rfl rfl (PW_d hq) rfl rfl (Nat.le_of_ble_eq_true rfl) ⟨by omega, by omega, by omega, by omega⟩ (c_allows hl (by omega) PW_t (PW_d hq)) (kr_some (x := .int (nI (metW (cH σ j) (cS σ q) dm du))) ?_) kx_no
  exact V_iret C .boolean dX6_wouldMeet_33 hr (by rcases (show metW (cH σ j) (cS σ q) dm du = 0 ∨ metW (cH σ j) (cS σ q) dm du = 1 by have := metW_le (cH σ j) (cS σ q) dm du; omega) with z | z <;> rw [z] <;> rfl) ⟨rfl, rfl, rfl⟩ (by omega) (by omega)
set_option maxHeartbeats 4000000 in
theorem c_meetsNow {l : Launch} {D : va_G} {ba d : Nat} {ad : Adr} (hl : l.stackTraces = false) (hd : 7 ≤ d) {i : Nat} {σ : CS} {tl : Int32} {t : TT} {lo : Nat → Int32} {o : Wd} (hσ : cOK σ) {j q : Nat} (hj : j < cN σ) (hq : q < cK σ) : CT l yX6_meetsNow (wsO yX6_meetsNow cX6_meetsNow 3 (some .boolean)) d 0 0 D ba [.ref (ad [i]), .ref (ad [i, 6, j]), .ref (ad [i, 9, q])] ad (PW i ad σ tl t lo o) (isR (some (.int (nI (metW (cH σ j) (cS σ q) (hDm (cH σ j)) (hDu (cH σ j)))))) ad (PW i ad σ (nI (cS σ q).2.1) (tlyW (cH σ j) (cS σ q) (hDm (cH σ j)) (hDu (cH σ j))) lo o)) noX := by
  refine CT_of RX6 rfl (by decide +kernel) hl (Nat.le_of_ble_eq_true rfl) ?_
  intro p e s m args below meth c C hr hnm
  refine V_lvE (lv' := [(0, .ref (ad [i])), (1, .ref (ad [i, 6, j])), (2, .ref (ad [i, 9, q]))]) rfl ?_
  have hu := hσ.2.2.1 j hj
  have hu2 := hu.2.1
  have hu3 := hu.2.2.1
  refine V_aload_n C dX6_meetsNow_0 0 rfl ?_
  refine V_aload_n C dX6_meetsNow_1 1 rfl ?_
  refine V_aload_n C dX6_meetsNow_2 2 rfl ?_
  refine V_aload_n C dX6_meetsNow_3 1 rfl ?_
  refine V_getN (ci := 0) (k := 2) C dX6_meetsNow_4 RX0 RX0 RX6 TX0 6 fw_X0 rfl (by decide) tw_201 rfl rfl (PW_h hj) rfl ?_
  refine V_aload_n C dX6_meetsNow_7 1 rfl ?_
  refine V_getN (ci := 0) (k := 3) C dX6_meetsNow_8 RX0 RX0 RX6 TX0 6 fw_X0 rfl (by decide) tw_202 rfl rfl (PW_h hj) rfl ?_
  refine V_callV (r := (RX6, TX6, 8)) C [.ref (ad [i, 6, j]), .ref (ad [i, 9, q]), .int (nI (hDm (cH σ j))), .int (nI (hDu (cH σ j)))] dX6_meetsNow_11 m_X6_wouldMeet k_X6_wouldMeet tw_401 rfl rfl rfl PW_b rfl rfl (Nat.le_of_ble_eq_true rfl) ⟨by omega, by omega, by omega, by omega⟩ (c_would hl (by omega) hσ hj hq (by omega) (by omega)) (kr_some (x := .int (nI (metW (cH σ j) (cS σ q) (hDm (cH σ j)) (hDu (cH σ j))))) ?_) kx_no
  exact V_iret C .boolean dX6_meetsNow_14 hr (by rcases (show metW (cH σ j) (cS σ q) (hDm (cH σ j)) (hDu (cH σ j)) = 0 ∨ metW (cH σ j) (cS σ q) (hDm (cH σ j)) (hDu (cH σ j)) = 1 by have := metW_le (cH σ j) (cS σ q) (hDm (cH σ j)) (hDu (cH σ j)); omega) with z | z <;> rw [z] <;> rfl) ⟨rfl, rfl, rfl⟩ (by omega) (by omega)
end
section

abbrev RP (i : Nat) (ad : Adr) (σ : CS) (o : Wd) (v : Option Value) : Option Value → Adr → Wd → Prop := fun v' ad' w' => v' = v ∧ ad' = ad ∧ ∃ tl t lo, w' = PW i ad σ tl t lo o
abbrev XP (i : Nat) (ad : Adr) (σ : CS) (o : Wd) (E : String) : String → Adr → Wd → Prop := fun E' ad' w' => E' = E ∧ ad' = ad ∧ ∃ tl t lo, w' = PW i ad σ tl t lo o
abbrev eIO : String := "java/lang/IndexOutOfBoundsException"
abbrev eIA : String := "java/lang/IllegalArgumentException"
abbrev eIS : String := "java/lang/IllegalStateException"
abbrev t00 : TT := (nI 0, nI 0, -1, -1)
def tly (h : HallS) (x : Int32) (click : Nat) : TT := upF (rowsT x (hDm h) (hDu h) click (hSu h)) (hSc h) t00
def lds (lo : Nat → Int32) (h : HallS) (click : Nat) : Nat → Int32 := upF (rowsL (hDm h) (hDu h) click (hSu h)) (hSc h) (fillF (nI 0) lo 501)
set_option maxHeartbeats 4000000 in
theorem p_surfacesOf {l : Launch} {D : va_G} {ba d : Nat} {ad : Adr} (hl : l.stackTraces = false) (hd : 8 ≤ d) {i : Nat} {σ : CS} {tl : Int32} {t : TT} {lo : Nat → Int32} {o : Wd} (hσ : cOK σ) {j : Nat} (hj : j < cN σ)  : CT l yX6_surfacesOf (wsO yX6_surfacesOf cX6_surfacesOf 2 (some .int)) d 8 64 D ba [.ref (ad [i]), .int (nI j)] ad (PW i ad σ tl t lo o) (RP i ad σ o (some (.int (nI (hSc (cH σ j)))))) noX := by
  refine CT_of RX6 rfl (by decide +kernel) hl (Nat.le_of_ble_eq_true rfl) ?_
  intro p e s m args below meth c C hr hnm
  refine V_lvE (lv' := [(0, .ref (ad [i])), (1, .int (nI j))]) rfl ?_
  have hσ1 := hσ.1
  have hσ2 := hσ.2.1
  refine V_aload_n C dX6_surfacesOf_0 0 rfl ?_
  refine V_iload_n C dX6_surfacesOf_1 1 rfl ?_
  refine V_callV (r := (RX6, TX6, 8)) C [.int (nI j)] dX6_surfacesOf_2 m_X6_findHall k_X6_findHall tw_225 rfl rfl rfl PW_b rfl rfl (Nat.le_of_ble_eq_true rfl) ⟨by omega, by omega, by omega, by omega⟩ (c_findHall hl (by omega) hσ hj) (kr_some (x := .ref (ad [i, 6, j])) ?_) kx_no
  refine V_getN (ci := 0) (k := 1) C dX6_surfacesOf_5 RX0 RX0 RX6 TX0 6 fw_X0 rfl (by decide) tw_199 rfl rfl (PW_h hj) rfl ?_
  exact V_iret C .int dX6_surfacesOf_8 hr rfl ⟨rfl, rfl, _, _, _, rfl⟩ (by omega) (by omega)
set_option maxHeartbeats 4000000 in
theorem p_dampingOf {l : Launch} {D : va_G} {ba d : Nat} {ad : Adr} (hl : l.stackTraces = false) (hd : 8 ≤ d) {i : Nat} {σ : CS} {tl : Int32} {t : TT} {lo : Nat → Int32} {o : Wd} (hσ : cOK σ) {j : Nat} (hj : j < cN σ)  : CT l yX6_dampingOf (wsO yX6_dampingOf cX6_dampingOf 2 (some .int)) d 8 64 D ba [.ref (ad [i]), .int (nI j)] ad (PW i ad σ tl t lo o) (RP i ad σ o (some (.int (nI (hDm (cH σ j)))))) noX := by
  refine CT_of RX6 rfl (by decide +kernel) hl (Nat.le_of_ble_eq_true rfl) ?_
  intro p e s m args below meth c C hr hnm
  refine V_lvE (lv' := [(0, .ref (ad [i])), (1, .int (nI j))]) rfl ?_
  have hσ1 := hσ.1
  have hσ2 := hσ.2.1
  refine V_aload_n C dX6_dampingOf_0 0 rfl ?_
  refine V_iload_n C dX6_dampingOf_1 1 rfl ?_
  refine V_callV (r := (RX6, TX6, 8)) C [.int (nI j)] dX6_dampingOf_2 m_X6_findHall k_X6_findHall tw_225 rfl rfl rfl PW_b rfl rfl (Nat.le_of_ble_eq_true rfl) ⟨by omega, by omega, by omega, by omega⟩ (c_findHall hl (by omega) hσ hj) (kr_some (x := .ref (ad [i, 6, j])) ?_) kx_no
  refine V_getN (ci := 0) (k := 2) C dX6_dampingOf_5 RX0 RX0 RX6 TX0 6 fw_X0 rfl (by decide) tw_201 rfl rfl (PW_h hj) rfl ?_
  exact V_iret C .int dX6_dampingOf_8 hr rfl ⟨rfl, rfl, _, _, _, rfl⟩ (by omega) (by omega)
set_option maxHeartbeats 4000000 in
theorem p_dustOf {l : Launch} {D : va_G} {ba d : Nat} {ad : Adr} (hl : l.stackTraces = false) (hd : 8 ≤ d) {i : Nat} {σ : CS} {tl : Int32} {t : TT} {lo : Nat → Int32} {o : Wd} (hσ : cOK σ) {j : Nat} (hj : j < cN σ)  : CT l yX6_dustOf (wsO yX6_dustOf cX6_dustOf 2 (some .int)) d 8 64 D ba [.ref (ad [i]), .int (nI j)] ad (PW i ad σ tl t lo o) (RP i ad σ o (some (.int (nI (hDu (cH σ j)))))) noX := by
  refine CT_of RX6 rfl (by decide +kernel) hl (Nat.le_of_ble_eq_true rfl) ?_
  intro p e s m args below meth c C hr hnm
  refine V_lvE (lv' := [(0, .ref (ad [i])), (1, .int (nI j))]) rfl ?_
  have hσ1 := hσ.1
  have hσ2 := hσ.2.1
  refine V_aload_n C dX6_dustOf_0 0 rfl ?_
  refine V_iload_n C dX6_dustOf_1 1 rfl ?_
  refine V_callV (r := (RX6, TX6, 8)) C [.int (nI j)] dX6_dustOf_2 m_X6_findHall k_X6_findHall tw_225 rfl rfl rfl PW_b rfl rfl (Nat.le_of_ble_eq_true rfl) ⟨by omega, by omega, by omega, by omega⟩ (c_findHall hl (by omega) hσ hj) (kr_some (x := .ref (ad [i, 6, j])) ?_) kx_no
  refine V_getN (ci := 0) (k := 3) C dX6_dustOf_5 RX0 RX0 RX6 TX0 6 fw_X0 rfl (by decide) tw_202 rfl rfl (PW_h hj) rfl ?_
  exact V_iret C .int dX6_dustOf_8 hr rfl ⟨rfl, rfl, _, _, _, rfl⟩ (by omega) (by omega)
set_option maxHeartbeats 4000000 in
theorem p_daysLeft {l : Launch} {D : va_G} {ba d : Nat} {ad : Adr} (hl : l.stackTraces = false) (hd : 8 ≤ d) {i : Nat} {σ : CS} {tl : Int32} {t : TT} {lo : Nat → Int32} {o : Wd} (hσ : cOK σ) {j : Nat} (hj : j < cN σ)  : CT l yX6_daysLeft (wsO yX6_daysLeft cX6_daysLeft 2 (some .int)) d 8 64 D ba [.ref (ad [i]), .int (nI j)] ad (PW i ad σ tl t lo o) (RP i ad σ o (some (.int (nI (hDy (cH σ j)))))) noX := by
  refine CT_of RX6 rfl (by decide +kernel) hl (Nat.le_of_ble_eq_true rfl) ?_
  intro p e s m args below meth c C hr hnm
  refine V_lvE (lv' := [(0, .ref (ad [i])), (1, .int (nI j))]) rfl ?_
  have hσ1 := hσ.1
  have hσ2 := hσ.2.1
  refine V_aload_n C dX6_daysLeft_0 0 rfl ?_
  refine V_iload_n C dX6_daysLeft_1 1 rfl ?_
  refine V_callV (r := (RX6, TX6, 8)) C [.int (nI j)] dX6_daysLeft_2 m_X6_findHall k_X6_findHall tw_225 rfl rfl rfl PW_b rfl rfl (Nat.le_of_ble_eq_true rfl) ⟨by omega, by omega, by omega, by omega⟩ (c_findHall hl (by omega) hσ hj) (kr_some (x := .ref (ad [i, 6, j])) ?_) kx_no
  refine V_getN (ci := 0) (k := 5) C dX6_daysLeft_5 RX0 RX0 RX6 TX0 6 fw_X0 rfl (by decide) tw_207 rfl rfl (PW_h hj) rfl ?_
  exact V_iret C .int dX6_daysLeft_8 hr rfl ⟨rfl, rfl, _, _, _, rfl⟩ (by omega) (by omega)
set_option maxHeartbeats 4000000 in
theorem p_isCertified {l : Launch} {D : va_G} {ba d : Nat} {ad : Adr} (hl : l.stackTraces = false) (hd : 8 ≤ d) {i : Nat} {σ : CS} {tl : Int32} {t : TT} {lo : Nat → Int32} {o : Wd} (hσ : cOK σ) {j : Nat} (hj : j < cN σ)  : CT l yX6_isCertified (wsO yX6_isCertified cX6_isCertified 2 (some .boolean)) d 8 64 D ba [.ref (ad [i]), .int (nI j)] ad (PW i ad σ tl t lo o) (RP i ad σ o (some (.int (nI (if hCe (cH σ j) = -1 then 0 else 1))))) noX := by
  refine CT_of RX6 rfl (by decide +kernel) hl (Nat.le_of_ble_eq_true rfl) ?_
  intro p e s m args below meth c C hr hnm
  refine V_lvE (lv' := [(0, .ref (ad [i])), (1, .int (nI j))]) rfl ?_
  have hσ1 := hσ.1
  have hσ2 := hσ.2.1
  refine V_aload_n C dX6_isCertified_0 0 rfl ?_
  refine V_iload_n C dX6_isCertified_1 1 rfl ?_
  refine V_callV (r := (RX6, TX6, 8)) C [.int (nI j)] dX6_isCertified_2 m_X6_findHall k_X6_findHall tw_225 rfl rfl rfl PW_b rfl rfl (Nat.le_of_ble_eq_true rfl) ⟨by omega, by omega, by omega, by omega⟩ (c_findHall hl (by omega) hσ hj) (kr_some (x := .ref (ad [i, 6, j])) ?_) kx_no
  refine V_callVN (r := (RX0, TX0, 6)) C RX6 [] dX6_isCertified_5 m_X0_hasCertificate k_X0_hasCertificate tw_418 rfl rfl rfl (PW_h hj) rfl rfl (Nat.le_of_ble_eq_true rfl) ⟨by omega, by omega, by omega, by omega⟩ (c_hasCert hl (by omega) (PW_h hj)) (kr_some (x := .int (nI (if hCe (cH σ j) = -1 then 0 else 1))) ?_) kx_no
  exact V_iret C .boolean dX6_isCertified_8 hr (by split <;> rfl) ⟨rfl, rfl, _, _, _, rfl⟩ (by omega) (by omega)
set_option maxHeartbeats 4000000 in
theorem p_certifiedBy {l : Launch} {D : va_G} {ba d : Nat} {ad : Adr} (hl : l.stackTraces = false) (hd : 9 ≤ d) {i : Nat} {σ : CS} {tl : Int32} {t : TT} {lo : Nat → Int32} {o : Wd} (hσ : cOK σ) {j : Nat} (hj : j < cN σ) (hc : ¬ hCe (cH σ j) = -1) : CT l yX6_certifiedBy (wsO yX6_certifiedBy cX6_certifiedBy 3 (some .int)) d 8 64 D ba [.ref (ad [i]), .int (nI j)] ad (PW i ad σ tl t lo o) (RP i ad σ o (some (.int (hCe (cH σ j))))) noX := by
  refine CT_of RX6 rfl (by decide +kernel) hl (Nat.le_of_ble_eq_true rfl) ?_
  intro p e s m args below meth c C hr hnm
  refine V_lvE (lv' := [(0, .ref (ad [i])), (1, .int (nI j))]) rfl ?_
  have hσ1 := hσ.1
  have hσ2 := hσ.2.1
  refine V_aload_n C dX6_certifiedBy_0 0 rfl ?_
  refine V_iload_n C dX6_certifiedBy_1 1 rfl ?_
  refine V_callV (r := (RX6, TX6, 8)) C [.int (nI j)] dX6_certifiedBy_2 m_X6_findHall k_X6_findHall tw_225 rfl rfl rfl PW_b rfl rfl (Nat.le_of_ble_eq_true rfl) ⟨by omega, by omega, by omega, by omega⟩ (c_findHall hl (by omega) hσ hj) (kr_some (x := .ref (ad [i, 6, j])) ?_) kx_no
  refine V_astore_n C [(2, .ref (ad [i, 6, j])), (0, .ref (ad [i])), (1, .int (nI j))] dX6_certifiedBy_5 (by decide) rfl ?_
  refine V_aload_n C dX6_certifiedBy_6 0 rfl ?_
  refine V_callS C [.ref (ad [i, 6, j])] dX6_certifiedBy_7 m_X6_checkCertificate k_X6_checkCertificate tw_477 rfl rfl (Nat.le_of_ble_eq_true rfl) ⟨by omega, by omega, by omega, by omega⟩ (c_ckCert_ok hl (by omega) (PW_h hj) hc) (kr_none ?_) kx_no
  refine V_aload_n C dX6_certifiedBy_10 0 rfl ?_
  refine V_getN (ci := 0) (k := 4) C dX6_certifiedBy_11 RX0 RX0 RX6 TX0 6 fw_X0 rfl (by decide) tw_205 rfl rfl (PW_h hj) rfl ?_
  exact V_iret C .int dX6_certifiedBy_14 hr rfl ⟨rfl, rfl, _, _, _, rfl⟩ (by omega) (by omega)
set_option maxHeartbeats 4000000 in
theorem p_distanceOf {l : Launch} {D : va_G} {ba d : Nat} {ad : Adr} (hl : l.stackTraces = false) (hd : 8 ≤ d) {i : Nat} {σ : CS} {tl : Int32} {t : TT} {lo : Nat → Int32} {o : Wd} (hσ : cOK σ) {j : Nat} (hj : j < cN σ) {k : Nat} (hk : k < hSc (cH σ j))  : CT l yX6_distanceOf (wsO yX6_distanceOf cX6_distanceOf 3 (some .int)) d 8 64 D ba [.ref (ad [i]), .int (nI j), .int (nI k)] ad (PW i ad σ tl t lo o) (RP i ad σ o (some (.int (nI ((hSu (cH σ j) k).2))))) noX := by
  refine CT_of RX6 rfl (by decide +kernel) hl (Nat.le_of_ble_eq_true rfl) ?_
  intro p e s m args below meth c C hr hnm
  refine V_lvE (lv' := [(0, .ref (ad [i])), (1, .int (nI j)), (2, .int (nI k))]) rfl ?_
  have hσ1 := hσ.1
  have hσ2 := hσ.2.1
  refine V_aload_n C dX6_distanceOf_0 0 rfl ?_
  refine V_iload_n C dX6_distanceOf_1 1 rfl ?_
  refine V_callV (r := (RX6, TX6, 8)) C [.int (nI j)] dX6_distanceOf_2 m_X6_findHall k_X6_findHall tw_225 rfl rfl rfl PW_b rfl rfl (Nat.le_of_ble_eq_true rfl) ⟨by omega, by omega, by omega, by omega⟩ (c_findHall hl (by omega) hσ hj) (kr_some (x := .ref (ad [i, 6, j])) ?_) kx_no
  refine V_iload_n C dX6_distanceOf_5 2 rfl ?_
  refine V_callS C [.ref (ad [i, 6, j]), .int (nI k)] dX6_distanceOf_6 m_X6_findSurface k_X6_findSurface tw_286 rfl rfl (Nat.le_of_ble_eq_true rfl) ⟨by omega, by omega, by omega, by omega⟩ (c_findSurf hl (by omega) hσ hj hk) (kr_some (x := .ref (ad [i, 8, j, k])) ?_) kx_no
  refine V_getN (ci := 3) (k := 1) C dX6_distanceOf_9 RX4 RX4 RX6 TX4 2 fw_X4 rfl (by decide) tw_268 rfl rfl (PW_u hj hk) rfl ?_
  exact V_iret C .int dX6_distanceOf_12 hr rfl ⟨rfl, rfl, _, _, _, rfl⟩ (by omega) (by omega)
set_option maxHeartbeats 4000000 in
theorem p_hardnessOf {l : Launch} {D : va_G} {ba d : Nat} {ad : Adr} (hl : l.stackTraces = false) (hd : 8 ≤ d) {i : Nat} {σ : CS} {tl : Int32} {t : TT} {lo : Nat → Int32} {o : Wd} (hσ : cOK σ) {j : Nat} (hj : j < cN σ) {k : Nat} (hk : k < hSc (cH σ j))  : CT l yX6_hardnessOf (wsO yX6_hardnessOf cX6_hardnessOf 4 (some .int)) d 8 64 D ba [.ref (ad [i]), .int (nI j), .int (nI k)] ad (PW i ad σ tl t lo o) (RP i ad σ o (some (.int (nI ((hSu (cH σ j) k).1 - hDu (cH σ j) / 5))))) noX := by
  refine CT_of RX6 rfl (by decide +kernel) hl (Nat.le_of_ble_eq_true rfl) ?_
  intro p e s m args below meth c C hr hnm
  refine V_lvE (lv' := [(0, .ref (ad [i])), (1, .int (nI j)), (2, .int (nI k))]) rfl ?_
  have hσ1 := hσ.1
  have hσ2 := hσ.2.1
  have hu := hσ.2.2.1 j hj
  have hu1 := hu.1
  have hu2 := hu.2.1
  have hu3 := hu.2.2.1
  have hu4 := hu.2.2.2.1
  refine V_aload_n C dX6_hardnessOf_0 0 rfl ?_
  refine V_iload_n C dX6_hardnessOf_1 1 rfl ?_
  refine V_callV (r := (RX6, TX6, 8)) C [.int (nI j)] dX6_hardnessOf_2 m_X6_findHall k_X6_findHall tw_225 rfl rfl rfl PW_b rfl rfl (Nat.le_of_ble_eq_true rfl) ⟨by omega, by omega, by omega, by omega⟩ (c_findHall hl (by omega) hσ hj) (kr_some (x := .ref (ad [i, 6, j])) ?_) kx_no
  refine V_astore_n C [(3, .ref (ad [i, 6, j])), (0, .ref (ad [i])), (1, .int (nI j)), (2, .int (nI k))] dX6_hardnessOf_5 (by decide) rfl ?_
  refine V_aload_n C dX6_hardnessOf_6 0 rfl ?_
  refine V_iload_n C dX6_hardnessOf_7 3 rfl ?_
  refine V_callS C [.ref (ad [i, 6, j]), .int (nI k)] dX6_hardnessOf_8 m_X6_findSurface k_X6_findSurface tw_286 rfl rfl (Nat.le_of_ble_eq_true rfl) ⟨by omega, by omega, by omega, by omega⟩ (c_findSurf hl (by omega) hσ hj hk) (kr_some (x := .ref (ad [i, 8, j, k])) ?_) kx_no
  refine V_aload_n C dX6_hardnessOf_11 0 rfl ?_
  refine V_getN (ci := 0) (k := 3) C dX6_hardnessOf_12 RX0 RX0 RX6 TX0 6 fw_X0 rfl (by decide) tw_202 rfl rfl (PW_h hj) rfl ?_
  refine V_callVN (r := (RX4, TX4, 2)) C RX6 [.int (nI (hDu (cH σ j)))] dX6_hardnessOf_15 m_X4_hardnessUnder k_X4_hardnessUnder tw_295 rfl rfl rfl (PW_u hj hk) rfl rfl (Nat.le_of_ble_eq_true rfl) ⟨by omega, by omega, by omega, by omega⟩ (c_hardUnder hl (by omega) (PW_u hj hk) (hDu (cH σ j)) (hu.2.2.2.2 k hk).1 hu3) (kr_some (x := .int (nI ((hSu (cH σ j) k).1 - hDu (cH σ j) / 5))) ?_) kx_no
  exact V_iret C .int dX6_hardnessOf_18 hr rfl ⟨rfl, rfl, _, _, _, rfl⟩ (by omega) (by omega)
set_option maxHeartbeats 4000000 in
theorem p_halls {l : Launch} {D : va_G} {ba d : Nat} {ad : Adr} (hl : l.stackTraces = false) (hd : 8 ≤ d) {i : Nat} {σ : CS} {tl : Int32} {t : TT} {lo : Nat → Int32} {o : Wd} (hσ : cOK σ)  : CT l yX6_halls (wsO yX6_halls cX6_halls 1 (some .int)) d 8 64 D ba [.ref (ad [i])] ad (PW i ad σ tl t lo o) (RP i ad σ o (some (.int (nI (cN σ))))) noX := by
  refine CT_of RX6 rfl (by decide +kernel) hl (Nat.le_of_ble_eq_true rfl) ?_
  intro p e s m args below meth c C hr hnm
  refine V_lvE (lv' := [(0, .ref (ad [i]))]) rfl ?_
  have hσ1 := hσ.1
  have hσ2 := hσ.2.1
  refine V_aload_n C dX6_halls_0 0 rfl ?_
  refine V_get (ci := 5) (k := 2) C dX6_halls_1 RX6 RX6 TX6 8 fw_X6 rfl (by decide) tw_72 rfl rfl PW_b rfl ?_
  exact V_iret C .int dX6_halls_4 hr rfl ⟨rfl, rfl, _, _, _, rfl⟩ (by omega) (by omega)
set_option maxHeartbeats 4000000 in
theorem p_standards {l : Launch} {D : va_G} {ba d : Nat} {ad : Adr} (hl : l.stackTraces = false) (hd : 8 ≤ d) {i : Nat} {σ : CS} {tl : Int32} {t : TT} {lo : Nat → Int32} {o : Wd} (hσ : cOK σ)  : CT l yX6_standards (wsO yX6_standards cX6_standards 1 (some .int)) d 8 64 D ba [.ref (ad [i])] ad (PW i ad σ tl t lo o) (RP i ad σ o (some (.int (nI (cK σ))))) noX := by
  refine CT_of RX6 rfl (by decide +kernel) hl (Nat.le_of_ble_eq_true rfl) ?_
  intro p e s m args below meth c C hr hnm
  refine V_lvE (lv' := [(0, .ref (ad [i]))]) rfl ?_
  have hσ1 := hσ.1
  have hσ2 := hσ.2.1
  refine V_aload_n C dX6_standards_0 0 rfl ?_
  refine V_get (ci := 5) (k := 3) C dX6_standards_1 RX6 RX6 TX6 8 fw_X6 rfl (by decide) tw_73 rfl rfl PW_b rfl ?_
  exact V_iret C .int dX6_standards_4 hr rfl ⟨rfl, rfl, _, _, _, rfl⟩ (by omega) (by omega)
set_option maxHeartbeats 4000000 in
theorem p_day {l : Launch} {D : va_G} {ba d : Nat} {ad : Adr} (hl : l.stackTraces = false) (hd : 8 ≤ d) {i : Nat} {σ : CS} {tl : Int32} {t : TT} {lo : Nat → Int32} {o : Wd} (hσ : cOK σ)  : CT l yX6_day (wsO yX6_day cX6_day 1 (some .int)) d 8 64 D ba [.ref (ad [i])] ad (PW i ad σ tl t lo o) (RP i ad σ o (some (.int (cDay σ)))) noX := by
  refine CT_of RX6 rfl (by decide +kernel) hl (Nat.le_of_ble_eq_true rfl) ?_
  intro p e s m args below meth c C hr hnm
  refine V_lvE (lv' := [(0, .ref (ad [i]))]) rfl ?_
  have hσ1 := hσ.1
  have hσ2 := hσ.2.1
  refine V_aload_n C dX6_day_0 0 rfl ?_
  refine V_get (ci := 5) (k := 4) C dX6_day_1 RX6 RX6 TX6 8 fw_X6 rfl (by decide) tw_74 rfl rfl PW_b rfl ?_
  exact V_iret C .int dX6_day_4 hr rfl ⟨rfl, rfl, _, _, _, rfl⟩ (by omega) (by omega)
set_option maxHeartbeats 4000000 in
theorem p_inspections {l : Launch} {D : va_G} {ba d : Nat} {ad : Adr} (hl : l.stackTraces = false) (hd : 8 ≤ d) {i : Nat} {σ : CS} {tl : Int32} {t : TT} {lo : Nat → Int32} {o : Wd} (hσ : cOK σ)  : CT l yX6_inspections (wsO yX6_inspections cX6_inspections 1 (some .int)) d 8 64 D ba [.ref (ad [i])] ad (PW i ad σ tl t lo o) (RP i ad σ o (some (.int (cIns σ)))) noX := by
  refine CT_of RX6 rfl (by decide +kernel) hl (Nat.le_of_ble_eq_true rfl) ?_
  intro p e s m args below meth c C hr hnm
  refine V_lvE (lv' := [(0, .ref (ad [i]))]) rfl ?_
  have hσ1 := hσ.1
  have hσ2 := hσ.2.1
  refine V_aload_n C dX6_inspections_0 0 rfl ?_
  refine V_get (ci := 5) (k := 5) C dX6_inspections_1 RX6 RX6 TX6 8 fw_X6 rfl (by decide) tw_75 rfl rfl PW_b rfl ?_
  exact V_iret C .int dX6_inspections_4 hr rfl ⟨rfl, rfl, _, _, _, rfl⟩ (by omega) (by omega)
def certN (H : Nat → HallS) : Nat → Nat → Nat := fun j x => if hCe (H j) = -1 then x else x + 1
def certs (H : Nat → HallS) (m : Nat) : Nat := upF (certN H) m 0
theorem certs_le (H : Nat → HallS) : ∀ m, certs H m ≤ m
  | 0 => Nat.le_refl 0
  | m + 1 => by
    have := certs_le H m
    show certN H m (certs H m) ≤ m + 1
    unfold certN
    split <;> omega
set_option maxHeartbeats 4000000 in
theorem lp_count {p : Program} {l : Launch} {e : Env} {s : State} {m : MethodId} {args : Array Value} {below : List Frame} {meth : Method} {c : Code} {D : va_G} {ba d mc ms : Nat} {ad : Adr} {QR : Option Value → Adr → Wd → Prop} {QX : String → Adr → Wd → Prop} (C : Cx p l s m args meth c D ba RX6 cX6_countCertified 6 [] d) (hl : l.stackTraces = false) (hr : meth.sig.returnType = (some .int)) (hd : 2 ≤ d) {i : Nat} {σ : CS} {tl : Int32} {t : TT} {lo : Nat → Int32} {o : Wd} (hσ : cOK σ) (hq : QR (some (.int (nI (certs (cH σ) (cN σ))))) ad (PW i ad σ tl t lo o)) : ∀ (n : Nat) (k : Nat), k + n = 8 → V p l e s m args below meth c D ba d mc ms (MO D ba QR QX below args s mc ms) 6 ad (PW i ad σ tl t lo o) 13 [(4, .int (nI k)), (3, .int (nI 8)), (2, .ref (ad [i, 1])), (1, .int (nI (upF (certN (cH σ)) (min k (cN σ)) 0))), (0, .ref (ad [i]))] [] 0 0 := by
  intro n
  induction n with
  | zero =>
    intro k hk
    have hσ1 := hσ.1
    refine V_iload C dX6_countCertified_13 0 rfl ?_
    refine V_iload_n C dX6_countCertified_15 1 rfl ?_
    refine V_icmpn_ge (tgt := 47) C dX6_countCertified_16 (by decide) (by omega) (by decide) (fun hb1 => ?_) (fun hb1 => by exfalso; omega)
    refine V_iload_n C dX6_countCertified_47 3 rfl ?_
    exact V_iret C .int dX6_countCertified_48 hr rfl (by rw [upF_x (by omega)]; exact hq) (by omega) (by omega)
  | succ n ih =>
    intro k hk
    have hσ1 := hσ.1
    refine V_iload C dX6_countCertified_13 0 rfl ?_
    refine V_iload_n C dX6_countCertified_15 1 rfl ?_
    refine V_icmpn_ge (tgt := 47) C dX6_countCertified_16 (by decide) (by omega) (by decide) (fun hb1 => by exfalso; omega) (fun hb1 => ?_)
    refine V_aload_n C dX6_countCertified_19 2 rfl ?_
    refine V_iload C dX6_countCertified_20 0 rfl ?_
    rcases Nat.lt_or_ge k (cN σ) with hks | hks
    · skip
      refine V_aaldn (v := .ref (ad [i, 6, k])) C dX6_countCertified_22 rfl PW_hr (by omega) (by decide) (by rw [adN_lt hks]; rfl) ?_
      refine V_astore C [(5, .ref (ad [i, 6, k])), (4, .int (nI k)), (3, .int (nI 8)), (2, .ref (ad [i, 1])), (1, .int (nI (upF (certN (cH σ)) (min k (cN σ)) 0))), (0, .ref (ad [i]))] dX6_countCertified_23 (by decide) rfl ?_
      refine V_aload C dX6_countCertified_25 0 rfl ?_
      refine V_ifnull C dX6_countCertified_27 ?_
      refine V_aload C dX6_countCertified_30 0 rfl ?_
      refine V_callVN (r := (RX0, TX0, 6)) C RX6 [] dX6_countCertified_32 m_X0_hasCertificate k_X0_hasCertificate tw_418 rfl rfl rfl (PW_h hks) rfl rfl (Nat.le_of_ble_eq_true rfl) ⟨by omega, by omega, by omega, by omega⟩ (c_hasCert hl (by omega) (PW_h hks)) (kr_some (x := .int (nI (if hCe (cH σ k) = -1 then 0 else 1))) ?_) kx_no
      have hle9 : (if hCe (cH σ k) = -1 then 0 else 1) ≤ 1 := by split <;> omega
      refine V_ifn_eq (tgt := 41) C dX6_countCertified_35 (by decide) (by omega) (fun hb2 => ?_) (fun hb2 => ?_)
      · skip
        have hcc : hCe (cH σ k) = -1 := by apply Decidable.byContradiction; intro z; rw [if_neg z] at hb2; omega
        refine V_iincn C [(4, .int (nI (k + 1))), (5, .ref (ad [i, 6, k])), (3, .int (nI 8)), (2, .ref (ad [i, 1])), (1, .int (nI (upF (certN (cH σ)) (min k (cN σ)) 0))), (0, .ref (ad [i]))] dX6_countCertified_41 1 rfl (by decide) rfl ?_
        refine V_goto (tgt := 13) C dX6_countCertified_44 (by decide) ?_
        rw [show upF (certN (cH σ)) (min k (cN σ)) 0 = upF (certN (cH σ)) (min (k + 1) (cN σ)) 0 from by rw [upF_s hks]; show _ = certN _ _ _; unfold certN; rw [if_pos hcc]]
        refine V_lv [0, 2, 3, 4, 5] rfl ?_
        exact ih (k + 1) (by omega)
      · skip
        have hcc : ¬ hCe (cH σ k) = -1 := by intro z; rw [if_pos z] at hb2; omega
        refine V_iincn C [(1, .int (nI (upF (certN (cH σ)) (min k (cN σ)) 0 + 1))), (5, .ref (ad [i, 6, k])), (4, .int (nI k)), (3, .int (nI 8)), (2, .ref (ad [i, 1])), (0, .ref (ad [i]))] dX6_countCertified_38 4 rfl (by decide) rfl ?_
        refine V_iincn C [(4, .int (nI (k + 1))), (1, .int (nI (upF (certN (cH σ)) (min k (cN σ)) 0 + 1))), (5, .ref (ad [i, 6, k])), (3, .int (nI 8)), (2, .ref (ad [i, 1])), (0, .ref (ad [i]))] dX6_countCertified_41 2 rfl (by decide) rfl ?_
        refine V_goto (tgt := 13) C dX6_countCertified_44 (by decide) ?_
        rw [show upF (certN (cH σ)) (min k (cN σ)) 0 + 1 = upF (certN (cH σ)) (min (k + 1) (cN σ)) 0 from by rw [upF_s hks]; show _ = certN _ _ _; unfold certN; rw [if_neg hcc]]
        refine V_lv [0, 3, 4, 1, 5] rfl ?_
        exact ih (k + 1) (by omega)
    · skip
      refine V_aaldn (v := .null) C dX6_countCertified_22 rfl PW_hr (by omega) (by decide) (by rw [adN_ge (Nat.not_lt.mpr hks)]; rfl) ?_
      refine V_astoreN C [(5, .null), (4, .int (nI k)), (3, .int (nI 8)), (2, .ref (ad [i, 1])), (1, .int (nI (upF (certN (cH σ)) (min k (cN σ)) 0))), (0, .ref (ad [i]))] dX6_countCertified_23 (by decide) rfl ?_
      refine V_aloadN C dX6_countCertified_25 0 rfl ?_
      refine V_ifnullN (tgt := 41) C dX6_countCertified_27 (by decide) ?_
      refine V_iincn C [(4, .int (nI (k + 1))), (5, .null), (3, .int (nI 8)), (2, .ref (ad [i, 1])), (1, .int (nI (upF (certN (cH σ)) (min k (cN σ)) 0))), (0, .ref (ad [i]))] dX6_countCertified_41 1 rfl (by decide) rfl ?_
      refine V_goto (tgt := 13) C dX6_countCertified_44 (by decide) ?_
      rw [show upF (certN (cH σ)) (min k (cN σ)) 0 = upF (certN (cH σ)) (min (k + 1) (cN σ)) 0 from by rw [upF_e hks]]
      refine V_lv [0, 2, 3, 4, 5] rfl ?_
      exact ih (k + 1) (by omega)
set_option maxHeartbeats 4000000 in
theorem c_count {l : Launch} {D : va_G} {ba d : Nat} {ad : Adr} (hl : l.stackTraces = false) (hd : 2 ≤ d) {i : Nat} {σ : CS} {tl : Int32} {t : TT} {lo : Nat → Int32} {o : Wd} (hσ : cOK σ)  : CT l yX6_countCertified (wsO yX6_countCertified cX6_countCertified 6 (some .int)) d 0 0 D ba [.ref (ad [i])] ad (PW i ad σ tl t lo o) (isR (some (.int (nI (certs (cH σ) (cN σ))))) ad (PW i ad σ tl t lo o)) noX := by
  refine CT_of RX6 rfl (by decide +kernel) hl (Nat.le_of_ble_eq_true rfl) ?_
  intro p e s m args below meth c C hr hnm
  refine V_lvE (lv' := [(0, .ref (ad [i]))]) rfl ?_
  have hσ1 := hσ.1
  have hσ2 := hσ.2.1
  refine V_iconst (v := nI 0) C dX6_countCertified_0 (by decide) ?_
  refine V_istore_n C [(1, .int (nI 0)), (0, .ref (ad [i]))] dX6_countCertified_1 (by decide) rfl ?_
  refine V_aload_n C dX6_countCertified_2 1 rfl ?_
  refine V_get (ci := 5) (k := 0) C dX6_countCertified_3 RX6 RX6 TX6 8 fw_X6 rfl (by decide) tw_70 rfl rfl PW_b rfl ?_
  refine V_astore_n C [(2, .ref (ad [i, 1])), (1, .int (nI 0)), (0, .ref (ad [i]))] dX6_countCertified_6 (by decide) rfl ?_
  refine V_aload_n C dX6_countCertified_7 0 rfl ?_
  refine V_alen (v := nI 8) C dX6_countCertified_8 rfl PW_hr rfl ?_
  refine V_istore_n C [(3, .int (nI 8)), (2, .ref (ad [i, 1])), (1, .int (nI 0)), (0, .ref (ad [i]))] dX6_countCertified_9 (by decide) rfl ?_
  refine V_iconst (v := nI 0) C dX6_countCertified_10 (by decide) ?_
  refine V_istore C [(4, .int (nI 0)), (3, .int (nI 8)), (2, .ref (ad [i, 1])), (1, .int (nI 0)), (0, .ref (ad [i]))] dX6_countCertified_11 (by decide) rfl ?_
  refine V_lv [0, 1, 2, 3, 4] rfl ?_
  have K := lp_count (QR := isR (some (.int (nI (certs (cH σ) (cN σ))))) ad (PW i ad σ tl t lo o)) (QX := noX) (mc := 0) (ms := 0) (e := e) (below := below) C hl hr (by omega) hσ ⟨rfl, rfl, rfl⟩ 8 0 (by omega)
  rw [Nat.zero_min] at K
  exact K
set_option maxHeartbeats 4000000 in
theorem p_certifiedHalls {l : Launch} {D : va_G} {ba d : Nat} {ad : Adr} (hl : l.stackTraces = false) (hd : 8 ≤ d) {i : Nat} {σ : CS} {tl : Int32} {t : TT} {lo : Nat → Int32} {o : Wd} (hσ : cOK σ)  : CT l yX6_certifiedHalls (wsO yX6_certifiedHalls cX6_certifiedHalls 1 (some .int)) d 8 64 D ba [.ref (ad [i])] ad (PW i ad σ tl t lo o) (RP i ad σ o (some (.int (nI (certs (cH σ) (cN σ)))))) noX := by
  refine CT_of RX6 rfl (by decide +kernel) hl (Nat.le_of_ble_eq_true rfl) ?_
  intro p e s m args below meth c C hr hnm
  refine V_lvE (lv' := [(0, .ref (ad [i]))]) rfl ?_
  have hσ1 := hσ.1
  have hσ2 := hσ.2.1
  refine V_aload_n C dX6_certifiedHalls_0 0 rfl ?_
  refine V_callV (r := (RX6, TX6, 8)) C [] dX6_certifiedHalls_1 m_X6_countCertified k_X6_countCertified tw_438 rfl rfl rfl PW_b rfl rfl (Nat.le_of_ble_eq_true rfl) ⟨by omega, by omega, by omega, by omega⟩ (c_count hl (by omega) hσ) (kr_some (x := .int (nI (certs (cH σ) (cN σ)))) ?_) kx_no
  exact V_iret C .int dX6_certifiedHalls_4 hr rfl ⟨rfl, rfl, _, _, _, rfl⟩ (by omega) (by omega)
set_option maxHeartbeats 4000000 in
theorem p_clean {l : Launch} {D : va_G} {ba d : Nat} {ad : Adr} (hl : l.stackTraces = false) (hd : 8 ≤ d) {i : Nat} {σ : CS} {tl : Int32} {t : TT} {lo : Nat → Int32} {o : Wd} (hσ : cOK σ) {j : Nat} (hj : j < cN σ)  : CT l yX6_clean (wsO yX6_clean cX6_clean 4 (some .int)) d 8 64 D ba [.ref (ad [i]), .int (nI j)] ad (PW i ad σ tl t lo o) (RP i ad (setH σ j (hSc (cH σ j), hDm (cH σ j), 0, hCe (cH σ j), hDy (cH σ j), hSu (cH σ j))) o (some (.int (nI (hDu (cH σ j)))))) noX := by
  refine CT_of RX6 rfl (by decide +kernel) hl (Nat.le_of_ble_eq_true rfl) ?_
  intro p e s m args below meth c C hr hnm
  refine V_lvE (lv' := [(0, .ref (ad [i])), (1, .int (nI j))]) rfl ?_
  have hσ1 := hσ.1
  have hσ2 := hσ.2.1
  have hu := hσ.2.2.1 j hj
  have hu1 := hu.1
  have hu2 := hu.2.1
  have hu3 := hu.2.2.1
  have hu4 := hu.2.2.2.1
  refine V_aload_n C dX6_clean_0 0 rfl ?_
  refine V_iload_n C dX6_clean_1 1 rfl ?_
  refine V_callV (r := (RX6, TX6, 8)) C [.int (nI j)] dX6_clean_2 m_X6_findHall k_X6_findHall tw_225 rfl rfl rfl PW_b rfl rfl (Nat.le_of_ble_eq_true rfl) ⟨by omega, by omega, by omega, by omega⟩ (c_findHall hl (by omega) hσ hj) (kr_some (x := .ref (ad [i, 6, j])) ?_) kx_no
  refine V_astore_n C [(2, .ref (ad [i, 6, j])), (0, .ref (ad [i])), (1, .int (nI j))] dX6_clean_5 (by decide) rfl ?_
  refine V_aload_n C dX6_clean_6 0 rfl ?_
  refine V_getN (ci := 0) (k := 3) C dX6_clean_7 RX0 RX0 RX6 TX0 6 fw_X0 rfl (by decide) tw_202 rfl rfl (PW_h hj) rfl ?_
  refine V_istore_n C [(3, .int (nI (hDu (cH σ j)))), (2, .ref (ad [i, 6, j])), (0, .ref (ad [i])), (1, .int (nI j))] dX6_clean_10 (by decide) rfl ?_
  refine V_aload_n C dX6_clean_11 1 rfl ?_
  refine V_iconst (v := nI 0) C dX6_clean_12 (by decide) ?_
  refine V_putN (ci := 0) (k := 3) C dX6_clean_13 RX0 RX0 RX6 TX0 6 tyX0 tyX0_ok nmX0 fw_X0 rfl (by decide) tw_202 rfl rfl rfl rfl rfl (PW_h hj) (Nat.le_of_ble_eq_true rfl) ?_
  refine V_wd (w' := wset (PW i ad σ tl t lo o) ([i, 6, j]) (.inr (0, [.ref (ad [i, 7, j]), .int (nI (hSc (cH σ j))), .int (nI (hDm (cH σ j))), .int (nI 0), .int (hCe (cH σ j)), .int (nI (hDy (cH σ j)))]))) rfl ?_
  refine V_iload_n C dX6_clean_16 0 rfl ?_
  exact V_iret C .int dX6_clean_17 hr rfl ⟨rfl, rfl, _, _, _, PW_h' hj⟩ (by omega) (by omega)
set_option maxHeartbeats 4000000 in
theorem p_setDamping {l : Launch} {D : va_G} {ba d : Nat} {ad : Adr} (hl : l.stackTraces = false) (hd : 9 ≤ d) {i : Nat} {σ : CS} {tl : Int32} {t : TT} {lo : Nat → Int32} {o : Wd} (hσ : cOK σ) {j : Nat} (hj : j < cN σ) {v : Nat} (hv : v ≤ 90) (hin : ¬ inR (nI v) (nI 0) (nI 90) = 0)  : CT l yX6_setDamping (wsO yX6_setDamping cX6_setDamping 5 (some .int)) d 8 64 D ba [.ref (ad [i]), .int (nI j), .int (nI v)] ad (PW i ad σ tl t lo o) (RP i ad (setH σ j (hSc (cH σ j), v, hDu (cH σ j), -1, 0, hSu (cH σ j))) o (some (.int (nI (hDm (cH σ j)))))) noX := by
  refine CT_of RX6 rfl (by decide +kernel) hl (Nat.le_of_ble_eq_true rfl) ?_
  intro p e s m args below meth c C hr hnm
  refine V_lvE (lv' := [(0, .ref (ad [i])), (1, .int (nI j)), (2, .int (nI v))]) rfl ?_
  have hσ1 := hσ.1
  have hσ2 := hσ.2.1
  have hu := hσ.2.2.1 j hj
  have hu1 := hu.1
  have hu2 := hu.2.1
  have hu3 := hu.2.2.1
  have hu4 := hu.2.2.2.1
  refine V_aload_n C dX6_setDamping_0 0 rfl ?_
  refine V_iload_n C dX6_setDamping_1 1 rfl ?_
  refine V_callV (r := (RX6, TX6, 8)) C [.int (nI j)] dX6_setDamping_2 m_X6_findHall k_X6_findHall tw_225 rfl rfl rfl PW_b rfl rfl (Nat.le_of_ble_eq_true rfl) ⟨by omega, by omega, by omega, by omega⟩ (c_findHall hl (by omega) hσ hj) (kr_some (x := .ref (ad [i, 6, j])) ?_) kx_no
  refine V_astore_n C [(3, .ref (ad [i, 6, j])), (0, .ref (ad [i])), (1, .int (nI j)), (2, .int (nI v))] dX6_setDamping_5 (by decide) rfl ?_
  refine V_iload_n C dX6_setDamping_6 3 rfl ?_
  refine V_callS C [.int (nI v)] dX6_setDamping_7 m_X6_checkDamping k_X6_checkDamping tw_99 rfl rfl (Nat.le_of_ble_eq_true rfl) ⟨by omega, by omega, by omega, by omega⟩ (c_ckDamp_ok hl (by omega) _ hin) (kr_none ?_) kx_no
  refine V_aload_n C dX6_setDamping_10 0 rfl ?_
  refine V_getN (ci := 0) (k := 2) C dX6_setDamping_11 RX0 RX0 RX6 TX0 6 fw_X0 rfl (by decide) tw_201 rfl rfl (PW_h hj) rfl ?_
  refine V_istore C [(4, .int (nI (hDm (cH σ j)))), (3, .ref (ad [i, 6, j])), (0, .ref (ad [i])), (1, .int (nI j)), (2, .int (nI v))] dX6_setDamping_14 (by decide) rfl ?_
  refine V_aload_n C dX6_setDamping_16 1 rfl ?_
  refine V_iload_n C dX6_setDamping_17 4 rfl ?_
  refine V_putN (ci := 0) (k := 2) C dX6_setDamping_18 RX0 RX0 RX6 TX0 6 tyX0 tyX0_ok nmX0 fw_X0 rfl (by decide) tw_201 rfl rfl rfl rfl rfl (PW_h hj) (Nat.le_of_ble_eq_true rfl) ?_
  refine V_wd (w' := wset (PW i ad σ tl t lo o) ([i, 6, j]) (.inr (0, [.ref (ad [i, 7, j]), .int (nI (hSc (cH σ j))), .int (nI v), .int (nI (hDu (cH σ j))), .int (hCe (cH σ j)), .int (nI (hDy (cH σ j)))]))) rfl ?_
  refine V_aload_n C dX6_setDamping_21 1 rfl ?_
  refine V_callVN (r := (RX0, TX0, 6)) C RX6 [] dX6_setDamping_22 m_X0_loseCertificate k_X0_loseCertificate tw_256 rfl rfl rfl wset_s rfl rfl (Nat.le_of_ble_eq_true rfl) ⟨by omega, by omega, by omega, by omega⟩ (c_loseCert hl (by omega) wset_s) (kr_none ?_) kx_no
  refine V_wd (w' := wset (PW i ad σ tl t lo o) ([i, 6, j]) (.inr (0, [.ref (ad [i, 7, j]), .int (nI (hSc (cH σ j))), .int (nI v), .int (nI (hDu (cH σ j))), .int (-1), .int (nI 0)]))) wset_wset ?_
  refine V_iload C dX6_setDamping_25 0 rfl ?_
  exact V_iret C .int dX6_setDamping_27 hr rfl ⟨rfl, rfl, _, _, _, PW_h' hj⟩ (by omega) (by omega)
set_option maxHeartbeats 4000000 in
theorem p_revoke {l : Launch} {D : va_G} {ba d : Nat} {ad : Adr} (hl : l.stackTraces = false) (hd : 9 ≤ d) {i : Nat} {σ : CS} {tl : Int32} {t : TT} {lo : Nat → Int32} {o : Wd} (hσ : cOK σ) {j : Nat} (hj : j < cN σ) (hc : ¬ hCe (cH σ j) = -1) : CT l yX6_revoke (wsO yX6_revoke cX6_revoke 4 (some .int)) d 8 64 D ba [.ref (ad [i]), .int (nI j)] ad (PW i ad σ tl t lo o) (RP i ad (setH σ j (hSc (cH σ j), hDm (cH σ j), hDu (cH σ j), -1, 0, hSu (cH σ j))) o (some (.int (nI (hDy (cH σ j)))))) noX := by
  refine CT_of RX6 rfl (by decide +kernel) hl (Nat.le_of_ble_eq_true rfl) ?_
  intro p e s m args below meth c C hr hnm
  refine V_lvE (lv' := [(0, .ref (ad [i])), (1, .int (nI j))]) rfl ?_
  have hσ1 := hσ.1
  have hσ2 := hσ.2.1
  have hu := hσ.2.2.1 j hj
  have hu1 := hu.1
  have hu2 := hu.2.1
  have hu3 := hu.2.2.1
  have hu4 := hu.2.2.2.1
  refine V_aload_n C dX6_revoke_0 0 rfl ?_
  refine V_iload_n C dX6_revoke_1 1 rfl ?_
  refine V_callV (r := (RX6, TX6, 8)) C [.int (nI j)] dX6_revoke_2 m_X6_findHall k_X6_findHall tw_225 rfl rfl rfl PW_b rfl rfl (Nat.le_of_ble_eq_true rfl) ⟨by omega, by omega, by omega, by omega⟩ (c_findHall hl (by omega) hσ hj) (kr_some (x := .ref (ad [i, 6, j])) ?_) kx_no
  refine V_astore_n C [(2, .ref (ad [i, 6, j])), (0, .ref (ad [i])), (1, .int (nI j))] dX6_revoke_5 (by decide) rfl ?_
  refine V_aload_n C dX6_revoke_6 0 rfl ?_
  refine V_callS C [.ref (ad [i, 6, j])] dX6_revoke_7 m_X6_checkCertificate k_X6_checkCertificate tw_477 rfl rfl (Nat.le_of_ble_eq_true rfl) ⟨by omega, by omega, by omega, by omega⟩ (c_ckCert_ok hl (by omega) (PW_h hj) hc) (kr_none ?_) kx_no
  refine V_aload_n C dX6_revoke_10 0 rfl ?_
  refine V_getN (ci := 0) (k := 5) C dX6_revoke_11 RX0 RX0 RX6 TX0 6 fw_X0 rfl (by decide) tw_207 rfl rfl (PW_h hj) rfl ?_
  refine V_istore_n C [(3, .int (nI (hDy (cH σ j)))), (2, .ref (ad [i, 6, j])), (0, .ref (ad [i])), (1, .int (nI j))] dX6_revoke_14 (by decide) rfl ?_
  refine V_aload_n C dX6_revoke_15 1 rfl ?_
  refine V_callVN (r := (RX0, TX0, 6)) C RX6 [] dX6_revoke_16 m_X0_loseCertificate k_X0_loseCertificate tw_256 rfl rfl rfl (PW_h hj) rfl rfl (Nat.le_of_ble_eq_true rfl) ⟨by omega, by omega, by omega, by omega⟩ (c_loseCert hl (by omega) (PW_h hj)) (kr_none ?_) kx_no
  refine V_wd (w' := wset (PW i ad σ tl t lo o) ([i, 6, j]) (.inr (0, [.ref (ad [i, 7, j]), .int (nI (hSc (cH σ j))), .int (nI (hDm (cH σ j))), .int (nI (hDu (cH σ j))), .int (-1), .int (nI 0)]))) rfl ?_
  refine V_iload_n C dX6_revoke_19 0 rfl ?_
  exact V_iret C .int dX6_revoke_20 hr rfl ⟨rfl, rfl, _, _, _, PW_h' hj⟩ (by omega) (by omega)
end
section

theorem fup_fup {α : Type} {f : Nat → α} {j : Nat} {x y : α} : fup (fup f j x) j y = fup f j y := by
  funext k
  by_cases h : k = j <;> simp [fup, h]
section PWM
variable {i : Nat} {ad : Adr} {σ : CS} {tl : Int32} {t : TT} {lo : Nat → Int32} {o : Wd}
theorem PW_move {j k hb ds dm du dy : Nat} {ce : Int32} (hj : j < cN σ) (hk : k < hSc (cH σ j)) : wset (wset (PW i ad σ tl t lo o) [i, 8, j, k] (eSurf hb ds)) [i, 6, j] (eHall (ad [i, 7, j]) (hSc (cH σ j)) dm du ce dy) = PW i ad (setH σ j (hSc (cH σ j), dm, du, ce, dy, fup (hSu (cH σ j)) k (hb, ds))) tl t lo o := by
  rw [PW_u' hj hk]
  have h := PW_h' (i := i) (ad := ad) (tl := tl) (t := t) (lo := lo) (o := o) (σ := setH σ j (hSc (cH σ j), hDm (cH σ j), hDu (cH σ j), hCe (cH σ j), hDy (cH σ j), fup (hSu (cH σ j)) k (hb, ds))) (j := j) (dm := dm) (du := du) (dy := dy) (ce := ce) hj
  simp only [setH, cN, cK, cDay, cIns, cH, cS, hSc, hDm, hDu, hCe, hDy, hSu, fup_s, fup_fup] at h ⊢
  exact h
end PWM
abbrev oldH (v : Nat) (h : HallS) : HallS := (hSc h, hDm h, min 100 (hDu h + v), (if v < hDy h then hCe h else -1), hDy h - v, hSu h)
def olderH (v : Nat) (H : Nat → HallS) (m : Nat) : Nat → HallS := fun j => if j < m then oldH v (H j) else H j
theorem olderH_0 {v : Nat} {H : Nat → HallS} : olderH v H 0 = H := by funext j; simp [olderH]
theorem olderH_s {v k : Nat} {H : Nat → HallS} : fup (olderH v H k) k (oldH v (olderH v H k k)) = olderH v H (k + 1) := by
  funext j
  by_cases h : j = k
  · subst h; rw [fup_s]; simp [olderH]
  · rw [fup_n h]
    simp only [olderH]
    by_cases h2 : j < k
    · rw [if_pos h2, if_pos (by omega)]
    · rw [if_neg h2, if_neg (by omega)]
theorem olderH_k {v k : Nat} {H : Nat → HallS} : olderH v H k k = H k := by simp [olderH]
theorem oldH_ok {v : Nat} {h : HallS} (hh : hOK h) : hOK (oldH v h) := by
  obtain ⟨h1, h2, h3, h4, h5⟩ := hh
  refine ⟨h1, h2, Nat.min_le_left _ _, ?_, h5⟩
  show hDy h - v ≤ 100
  omega
theorem olderH_ok {v m : Nat} {σ : CS} (hσ : cOK σ) : cOK (cN σ, cK σ, cDay σ, cIns σ, olderH v (cH σ) m, cS σ) := by
  refine ⟨hσ.1, hσ.2.1, fun j hj => ?_, hσ.2.2.2⟩
  show hOK (olderH v (cH σ) m j)
  unfold olderH
  split
  · exact oldH_ok (hσ.2.2.1 j hj)
  · exact hσ.2.2.1 j hj
set_option maxHeartbeats 4000000 in
theorem p_move {l : Launch} {D : va_G} {ba d : Nat} {ad : Adr} (hl : l.stackTraces = false) (hd : 9 ≤ d) {i : Nat} {σ : CS} {tl : Int32} {t : TT} {lo : Nat → Int32} {o : Wd} (hσ : cOK σ) {j : Nat} (hj : j < cN σ) {k : Nat} (hk : k < hSc (cH σ j)) {v : Nat} (hv : v ≤ 60) (hin : ¬ inR (nI v) (nI 1) (nI 60) = 0)  : CT l yX6_moveSurface (wsO yX6_moveSurface cX6_moveSurface 7 (some .int)) d 8 64 D ba [.ref (ad [i]), .int (nI j), .int (nI k), .int (nI v)] ad (PW i ad σ tl t lo o) (RP i ad (setH σ j (hSc (cH σ j), hDm (cH σ j), hDu (cH σ j), -1, 0, fup (hSu (cH σ j)) k ((hSu (cH σ j) k).1, v))) o (some (.int (nI ((hSu (cH σ j) k).2))))) noX := by
  refine CT_of RX6 rfl (by decide +kernel) hl (Nat.le_of_ble_eq_true rfl) ?_
  intro p e s m args below meth c C hr hnm
  refine V_lvE (lv' := [(0, .ref (ad [i])), (1, .int (nI j)), (2, .int (nI k)), (3, .int (nI v))]) rfl ?_
  have hσ1 := hσ.1
  have hσ2 := hσ.2.1
  have hu := hσ.2.2.1 j hj
  have hu1 := hu.1
  have hu2 := hu.2.1
  have hu3 := hu.2.2.1
  have hu4 := hu.2.2.2.1
  refine V_aload_n C dX6_moveSurface_0 0 rfl ?_
  refine V_iload_n C dX6_moveSurface_1 1 rfl ?_
  refine V_callV (r := (RX6, TX6, 8)) C [.int (nI j)] dX6_moveSurface_2 m_X6_findHall k_X6_findHall tw_225 rfl rfl rfl PW_b rfl rfl (Nat.le_of_ble_eq_true rfl) ⟨by omega, by omega, by omega, by omega⟩ (c_findHall hl (by omega) hσ hj) (kr_some (x := .ref (ad [i, 6, j])) ?_) kx_no
  refine V_astore C [(4, .ref (ad [i, 6, j])), (0, .ref (ad [i])), (1, .int (nI j)), (2, .int (nI k)), (3, .int (nI v))] dX6_moveSurface_5 (by decide) rfl ?_
  refine V_aload C dX6_moveSurface_7 0 rfl ?_
  refine V_iload_n C dX6_moveSurface_9 3 rfl ?_
  refine V_callS C [.ref (ad [i, 6, j]), .int (nI k)] dX6_moveSurface_10 m_X6_findSurface k_X6_findSurface tw_286 rfl rfl (Nat.le_of_ble_eq_true rfl) ⟨by omega, by omega, by omega, by omega⟩ (c_findSurf hl (by omega) hσ hj hk) (kr_some (x := .ref (ad [i, 8, j, k])) ?_) kx_no
  refine V_astore C [(5, .ref (ad [i, 8, j, k])), (4, .ref (ad [i, 6, j])), (0, .ref (ad [i])), (1, .int (nI j)), (2, .int (nI k)), (3, .int (nI v))] dX6_moveSurface_13 (by decide) rfl ?_
  refine V_iload_n C dX6_moveSurface_15 5 rfl ?_
  refine V_callS C [.int (nI v)] dX6_moveSurface_16 m_X6_checkDistance k_X6_checkDistance tw_246 rfl rfl (Nat.le_of_ble_eq_true rfl) ⟨by omega, by omega, by omega, by omega⟩ (c_ckDist_ok hl (by omega) _ hin) (kr_none ?_) kx_no
  refine V_aload C dX6_moveSurface_19 0 rfl ?_
  refine V_getN (ci := 3) (k := 1) C dX6_moveSurface_21 RX4 RX4 RX6 TX4 2 fw_X4 rfl (by decide) tw_268 rfl rfl (PW_u hj hk) rfl ?_
  refine V_istore C [(6, .int (nI ((hSu (cH σ j) k).2))), (5, .ref (ad [i, 8, j, k])), (4, .ref (ad [i, 6, j])), (0, .ref (ad [i])), (1, .int (nI j)), (2, .int (nI k)), (3, .int (nI v))] dX6_moveSurface_24 (by decide) rfl ?_
  refine V_aload C dX6_moveSurface_26 1 rfl ?_
  refine V_iload_n C dX6_moveSurface_28 6 rfl ?_
  refine V_putN (ci := 3) (k := 1) C dX6_moveSurface_29 RX4 RX4 RX6 TX4 2 tyX4 tyX4_ok nmX4 fw_X4 rfl (by decide) tw_268 rfl rfl rfl rfl rfl (PW_u hj hk) (Nat.le_of_ble_eq_true rfl) ?_
  refine V_wd (w' := wset (PW i ad σ tl t lo o) ([i, 8, j, k]) (.inr (3, [.int (nI ((hSu (cH σ j) k).1)), .int (nI v)]))) rfl ?_
  refine V_aload C dX6_moveSurface_32 2 rfl ?_
  refine V_callVN (r := (RX0, TX0, 6)) C RX6 [] dX6_moveSurface_34 m_X0_loseCertificate k_X0_loseCertificate tw_256 rfl rfl rfl ((wset_n (by simp)).trans (PW_h hj)) rfl rfl (Nat.le_of_ble_eq_true rfl) ⟨by omega, by omega, by omega, by omega⟩ (c_loseCert hl (by omega) ((wset_n (by simp)).trans (PW_h hj))) (kr_none ?_) kx_no
  refine V_wd (w' := wset (wset (PW i ad σ tl t lo o) ([i, 8, j, k]) (.inr (3, [.int (nI ((hSu (cH σ j) k).1)), .int (nI v)]))) ([i, 6, j]) (.inr (0, [.ref (ad [i, 7, j]), .int (nI (hSc (cH σ j))), .int (nI (hDm (cH σ j))), .int (nI (hDu (cH σ j))), .int (-1), .int (nI 0)]))) rfl ?_
  refine V_iload C dX6_moveSurface_37 0 rfl ?_
  exact V_iret C .int dX6_moveSurface_39 hr rfl ⟨rfl, rfl, _, _, _, PW_move hj hk⟩ (by omega) (by omega)
set_option maxHeartbeats 4000000 in
theorem p_inspect_met {l : Launch} {D : va_G} {ba d : Nat} {ad : Adr} (hl : l.stackTraces = false) (hd : 9 ≤ d) {i : Nat} {σ : CS} {tl : Int32} {t : TT} {lo : Nat → Int32} {o : Wd} (hσ : cOK σ) {j : Nat} (hj : j < cN σ) {q : Nat} (hq : q < cK σ) (hm : metW (cH σ j) (cS σ q) (hDm (cH σ j)) (hDu (cH σ j)) = 1)  : CT l yX6_inspect (wsO yX6_inspect cX6_inspect 6 (some .boolean)) d 8 64 D ba [.ref (ad [i]), .int (nI j), .int (nI q)] ad (PW i ad σ tl t lo o) (RP i ad (setH (cN σ, cK σ, cDay σ, cIns σ + nI 1, cH σ, cS σ) j (hSc (cH σ j), hDm (cH σ j), hDu (cH σ j), nI q, (cS σ q).2.2.2.2, hSu (cH σ j))) o (some (.int (nI (metW (cH σ j) (cS σ q) (hDm (cH σ j)) (hDu (cH σ j))))))) noX := by
  refine CT_of RX6 rfl (by decide +kernel) hl (Nat.le_of_ble_eq_true rfl) ?_
  intro p e s m args below meth c C hr hnm
  refine V_lvE (lv' := [(0, .ref (ad [i])), (1, .int (nI j)), (2, .int (nI q))]) rfl ?_
  have hσ1 := hσ.1
  have hσ2 := hσ.2.1
  have hu := hσ.2.2.1 j hj
  have hu1 := hu.1
  have hu2 := hu.2.1
  have hu3 := hu.2.2.1
  have hu4 := hu.2.2.2.1
  refine V_aload_n C dX6_inspect_0 0 rfl ?_
  refine V_iload_n C dX6_inspect_1 1 rfl ?_
  refine V_callV (r := (RX6, TX6, 8)) C [.int (nI j)] dX6_inspect_2 m_X6_findHall k_X6_findHall tw_225 rfl rfl rfl PW_b rfl rfl (Nat.le_of_ble_eq_true rfl) ⟨by omega, by omega, by omega, by omega⟩ (c_findHall hl (by omega) hσ hj) (kr_some (x := .ref (ad [i, 6, j])) ?_) kx_no
  refine V_astore_n C [(3, .ref (ad [i, 6, j])), (0, .ref (ad [i])), (1, .int (nI j)), (2, .int (nI q))] dX6_inspect_5 (by decide) rfl ?_
  refine V_aload_n C dX6_inspect_6 1 rfl ?_
  refine V_iload_n C dX6_inspect_7 3 rfl ?_
  refine V_callV (r := (RX6, TX6, 8)) C [.int (nI q)] dX6_inspect_8 m_X6_findStandard k_X6_findStandard tw_391 rfl rfl rfl PW_b rfl rfl (Nat.le_of_ble_eq_true rfl) ⟨by omega, by omega, by omega, by omega⟩ (c_findStd hl (by omega) hσ hq) (kr_some (x := .ref (ad [i, 9, q])) ?_) kx_no
  refine V_astore C [(4, .ref (ad [i, 9, q])), (3, .ref (ad [i, 6, j])), (0, .ref (ad [i])), (1, .int (nI j)), (2, .int (nI q))] dX6_inspect_11 (by decide) rfl ?_
  refine V_aload_n C dX6_inspect_13 2 rfl ?_
  refine V_dup C dX6_inspect_14 rfl ?_
  refine V_get (ci := 5) (k := 5) C dX6_inspect_15 RX6 RX6 TX6 8 fw_X6 rfl (by decide) tw_75 rfl rfl PW_b rfl ?_
  refine V_iconst (v := nI 1) C dX6_inspect_18 (by decide) ?_
  refine V_iadd C dX6_inspect_19 ?_
  refine V_put (ci := 5) (k := 5) C dX6_inspect_20 RX6 RX6 TX6 8 tyX6 tyX6_ok nmX6 fw_X6 rfl (by decide) tw_75 rfl (Or.inl rfl) rfl rfl rfl PW_b (Nat.le_of_ble_eq_true rfl) ?_
  refine V_wd (w' := wset (PW i ad σ tl t lo o) ([i]) (.inr (5, [.ref (ad [i, 1]), .ref (ad [i, 2]), .int (nI (cN σ)), .int (nI (cK σ)), .int (cDay σ), .int ((cIns σ) + (nI 1)), .ref (ad [i, 3]), .ref (ad [i, 4])]))) rfl ?_
  refine V_wd (w' := PW i ad (cN σ, cK σ, cDay σ, cIns σ + nI 1, cH σ, cS σ) tl t lo o) PW_b' ?_
  refine V_aload_n C dX6_inspect_23 2 rfl ?_
  refine V_aload_n C dX6_inspect_24 1 rfl ?_
  refine V_aload C dX6_inspect_25 0 rfl ?_
  refine V_callV (r := (RX6, TX6, 8)) C [.ref (ad [i, 6, j]), .ref (ad [i, 9, q])] dX6_inspect_27 m_X6_meetsNow k_X6_meetsNow tw_397 rfl rfl rfl (PW_b (σ := (cN σ, cK σ, cDay σ, cIns σ + nI 1, cH σ, cS σ))) rfl rfl (Nat.le_of_ble_eq_true rfl) ⟨by omega, by omega, by omega, by omega⟩ (c_meetsNow (σ := (cN σ, cK σ, cDay σ, cIns σ + nI 1, cH σ, cS σ)) hl (by omega) hσ hj hq) (kr_some (x := .int (nI (metW (cH σ j) (cS σ q) (hDm (cH σ j)) (hDu (cH σ j))))) ?_) kx_no
  refine V_istore C [(5, .int (nI (metW (cH σ j) (cS σ q) (hDm (cH σ j)) (hDu (cH σ j))))), (4, .ref (ad [i, 9, q])), (3, .ref (ad [i, 6, j])), (0, .ref (ad [i])), (1, .int (nI j)), (2, .int (nI q))] dX6_inspect_30 (by decide) rfl ?_
  refine V_iload C dX6_inspect_32 0 rfl ?_
  refine V_ifn_eq (tgt := 50) C dX6_inspect_34 (by decide) (by omega) (fun hb1 => by exfalso; omega) (fun hb1 => ?_)
  refine V_aload_n C dX6_inspect_37 2 rfl ?_
  refine V_iload_n C dX6_inspect_38 5 rfl ?_
  refine V_aload C dX6_inspect_39 1 rfl ?_
  refine V_getN (ci := 2) (k := 4) C dX6_inspect_41 RX3 RX3 RX6 TX3 5 fw_X3 rfl (by decide) tw_588 rfl rfl (PW_d (σ := (cN σ, cK σ, cDay σ, cIns σ + nI 1, cH σ, cS σ)) hq) rfl ?_
  refine V_callVN (r := (RX0, TX0, 6)) C RX6 [.int (nI q), .int (nI ((cS (cN σ, cK σ, cDay σ, cIns σ + nI 1, cH σ, cS σ) q).2.2.2.2))] dX6_inspect_44 m_X0_takeCertificate k_X0_takeCertificate tw_605 rfl rfl rfl (PW_h (σ := (cN σ, cK σ, cDay σ, cIns σ + nI 1, cH σ, cS σ)) hj) rfl rfl (Nat.le_of_ble_eq_true rfl) ⟨by omega, by omega, by omega, by omega⟩ (c_takeCert hl (by omega) (PW_h (σ := (cN σ, cK σ, cDay σ, cIns σ + nI 1, cH σ, cS σ)) hj) (nI q) ((cS (cN σ, cK σ, cDay σ, cIns σ + nI 1, cH σ, cS σ) q).2.2.2.2)) (kr_none ?_) kx_no
  refine V_wd (w' := wset (PW i ad (cN σ, cK σ, cDay σ, cIns σ + nI 1, cH σ, cS σ) (nI (cS σ q).2.1) (tlyW (cH σ j) (cS σ q) (hDm (cH σ j)) (hDu (cH σ j))) lo o) ([i, 6, j]) (.inr (0, [.ref (ad [i, 7, j]), .int (nI (hSc (cH (cN σ, cK σ, cDay σ, cIns σ + nI 1, cH σ, cS σ) j))), .int (nI (hDm (cH (cN σ, cK σ, cDay σ, cIns σ + nI 1, cH σ, cS σ) j))), .int (nI (hDu (cH (cN σ, cK σ, cDay σ, cIns σ + nI 1, cH σ, cS σ) j))), .int (nI q), .int (nI ((cS (cN σ, cK σ, cDay σ, cIns σ + nI 1, cH σ, cS σ) q).2.2.2.2))]))) rfl ?_
  refine V_goto (tgt := 62) C dX6_inspect_47 (by decide) ?_
  refine V_iload C dX6_inspect_62 0 rfl ?_
  exact V_iret C .boolean dX6_inspect_64 hr (by rcases (show metW (cH σ j) (cS σ q) (hDm (cH σ j)) (hDu (cH σ j)) = 0 ∨ metW (cH σ j) (cS σ q) (hDm (cH σ j)) (hDu (cH σ j)) = 1 by have := metW_le (cH σ j) (cS σ q) (hDm (cH σ j)) (hDu (cH σ j)); omega) with z | z <;> rw [z] <;> rfl) ⟨rfl, rfl, _, _, _, (PW_h' (σ := (cN σ, cK σ, cDay σ, cIns σ + nI 1, cH σ, cS σ)) hj)⟩ (by omega) (by omega)
set_option maxHeartbeats 4000000 in
theorem p_inspect_same {l : Launch} {D : va_G} {ba d : Nat} {ad : Adr} (hl : l.stackTraces = false) (hd : 9 ≤ d) {i : Nat} {σ : CS} {tl : Int32} {t : TT} {lo : Nat → Int32} {o : Wd} (hσ : cOK σ) {j : Nat} (hj : j < cN σ) {q : Nat} (hq : q < cK σ) (hm : metW (cH σ j) (cS σ q) (hDm (cH σ j)) (hDu (cH σ j)) = 0) (hc : hCe (cH σ j) = nI q)  : CT l yX6_inspect (wsO yX6_inspect cX6_inspect 6 (some .boolean)) d 8 64 D ba [.ref (ad [i]), .int (nI j), .int (nI q)] ad (PW i ad σ tl t lo o) (RP i ad (setH (cN σ, cK σ, cDay σ, cIns σ + nI 1, cH σ, cS σ) j (hSc (cH σ j), hDm (cH σ j), hDu (cH σ j), -1, 0, hSu (cH σ j))) o (some (.int (nI (metW (cH σ j) (cS σ q) (hDm (cH σ j)) (hDu (cH σ j))))))) noX := by
  refine CT_of RX6 rfl (by decide +kernel) hl (Nat.le_of_ble_eq_true rfl) ?_
  intro p e s m args below meth c C hr hnm
  refine V_lvE (lv' := [(0, .ref (ad [i])), (1, .int (nI j)), (2, .int (nI q))]) rfl ?_
  have hσ1 := hσ.1
  have hσ2 := hσ.2.1
  have hu := hσ.2.2.1 j hj
  have hu1 := hu.1
  have hu2 := hu.2.1
  have hu3 := hu.2.2.1
  have hu4 := hu.2.2.2.1
  refine V_aload_n C dX6_inspect_0 0 rfl ?_
  refine V_iload_n C dX6_inspect_1 1 rfl ?_
  refine V_callV (r := (RX6, TX6, 8)) C [.int (nI j)] dX6_inspect_2 m_X6_findHall k_X6_findHall tw_225 rfl rfl rfl PW_b rfl rfl (Nat.le_of_ble_eq_true rfl) ⟨by omega, by omega, by omega, by omega⟩ (c_findHall hl (by omega) hσ hj) (kr_some (x := .ref (ad [i, 6, j])) ?_) kx_no
  refine V_astore_n C [(3, .ref (ad [i, 6, j])), (0, .ref (ad [i])), (1, .int (nI j)), (2, .int (nI q))] dX6_inspect_5 (by decide) rfl ?_
  refine V_aload_n C dX6_inspect_6 1 rfl ?_
  refine V_iload_n C dX6_inspect_7 3 rfl ?_
  refine V_callV (r := (RX6, TX6, 8)) C [.int (nI q)] dX6_inspect_8 m_X6_findStandard k_X6_findStandard tw_391 rfl rfl rfl PW_b rfl rfl (Nat.le_of_ble_eq_true rfl) ⟨by omega, by omega, by omega, by omega⟩ (c_findStd hl (by omega) hσ hq) (kr_some (x := .ref (ad [i, 9, q])) ?_) kx_no
  refine V_astore C [(4, .ref (ad [i, 9, q])), (3, .ref (ad [i, 6, j])), (0, .ref (ad [i])), (1, .int (nI j)), (2, .int (nI q))] dX6_inspect_11 (by decide) rfl ?_
  refine V_aload_n C dX6_inspect_13 2 rfl ?_
  refine V_dup C dX6_inspect_14 rfl ?_
  refine V_get (ci := 5) (k := 5) C dX6_inspect_15 RX6 RX6 TX6 8 fw_X6 rfl (by decide) tw_75 rfl rfl PW_b rfl ?_
  refine V_iconst (v := nI 1) C dX6_inspect_18 (by decide) ?_
  refine V_iadd C dX6_inspect_19 ?_
  refine V_put (ci := 5) (k := 5) C dX6_inspect_20 RX6 RX6 TX6 8 tyX6 tyX6_ok nmX6 fw_X6 rfl (by decide) tw_75 rfl (Or.inl rfl) rfl rfl rfl PW_b (Nat.le_of_ble_eq_true rfl) ?_
  refine V_wd (w' := wset (PW i ad σ tl t lo o) ([i]) (.inr (5, [.ref (ad [i, 1]), .ref (ad [i, 2]), .int (nI (cN σ)), .int (nI (cK σ)), .int (cDay σ), .int ((cIns σ) + (nI 1)), .ref (ad [i, 3]), .ref (ad [i, 4])]))) rfl ?_
  refine V_wd (w' := PW i ad (cN σ, cK σ, cDay σ, cIns σ + nI 1, cH σ, cS σ) tl t lo o) PW_b' ?_
  refine V_aload_n C dX6_inspect_23 2 rfl ?_
  refine V_aload_n C dX6_inspect_24 1 rfl ?_
  refine V_aload C dX6_inspect_25 0 rfl ?_
  refine V_callV (r := (RX6, TX6, 8)) C [.ref (ad [i, 6, j]), .ref (ad [i, 9, q])] dX6_inspect_27 m_X6_meetsNow k_X6_meetsNow tw_397 rfl rfl rfl (PW_b (σ := (cN σ, cK σ, cDay σ, cIns σ + nI 1, cH σ, cS σ))) rfl rfl (Nat.le_of_ble_eq_true rfl) ⟨by omega, by omega, by omega, by omega⟩ (c_meetsNow (σ := (cN σ, cK σ, cDay σ, cIns σ + nI 1, cH σ, cS σ)) hl (by omega) hσ hj hq) (kr_some (x := .int (nI (metW (cH σ j) (cS σ q) (hDm (cH σ j)) (hDu (cH σ j))))) ?_) kx_no
  refine V_istore C [(5, .int (nI (metW (cH σ j) (cS σ q) (hDm (cH σ j)) (hDu (cH σ j))))), (4, .ref (ad [i, 9, q])), (3, .ref (ad [i, 6, j])), (0, .ref (ad [i])), (1, .int (nI j)), (2, .int (nI q))] dX6_inspect_30 (by decide) rfl ?_
  refine V_iload C dX6_inspect_32 0 rfl ?_
  refine V_ifn_eq (tgt := 50) C dX6_inspect_34 (by decide) (by omega) (fun hb1 => ?_) (fun hb1 => by exfalso; omega)
  refine V_aload_n C dX6_inspect_50 2 rfl ?_
  refine V_getN (ci := 0) (k := 4) C dX6_inspect_51 RX0 RX0 RX6 TX0 6 fw_X0 rfl (by decide) tw_205 rfl rfl (PW_h (σ := (cN σ, cK σ, cDay σ, cIns σ + nI 1, cH σ, cS σ)) hj) rfl ?_
  refine V_iload_n C dX6_inspect_54 5 rfl ?_
  refine V_icmp_ne (tgt := 62) C dX6_inspect_55 (by decide) (fun hb2 => by exfalso; exact hb2 hc) (fun hb2 => ?_)
  refine V_aload_n C dX6_inspect_58 2 rfl ?_
  refine V_callVN (r := (RX0, TX0, 6)) C RX6 [] dX6_inspect_59 m_X0_loseCertificate k_X0_loseCertificate tw_256 rfl rfl rfl (PW_h (σ := (cN σ, cK σ, cDay σ, cIns σ + nI 1, cH σ, cS σ)) hj) rfl rfl (Nat.le_of_ble_eq_true rfl) ⟨by omega, by omega, by omega, by omega⟩ (c_loseCert hl (by omega) (PW_h (σ := (cN σ, cK σ, cDay σ, cIns σ + nI 1, cH σ, cS σ)) hj)) (kr_none ?_) kx_no
  refine V_wd (w' := wset (PW i ad (cN σ, cK σ, cDay σ, cIns σ + nI 1, cH σ, cS σ) (nI (cS σ q).2.1) (tlyW (cH σ j) (cS σ q) (hDm (cH σ j)) (hDu (cH σ j))) lo o) ([i, 6, j]) (.inr (0, [.ref (ad [i, 7, j]), .int (nI (hSc (cH (cN σ, cK σ, cDay σ, cIns σ + nI 1, cH σ, cS σ) j))), .int (nI (hDm (cH (cN σ, cK σ, cDay σ, cIns σ + nI 1, cH σ, cS σ) j))), .int (nI (hDu (cH (cN σ, cK σ, cDay σ, cIns σ + nI 1, cH σ, cS σ) j))), .int (-1), .int (nI 0)]))) rfl ?_
  refine V_iload C dX6_inspect_62 0 rfl ?_
  exact V_iret C .boolean dX6_inspect_64 hr (by rcases (show metW (cH σ j) (cS σ q) (hDm (cH σ j)) (hDu (cH σ j)) = 0 ∨ metW (cH σ j) (cS σ q) (hDm (cH σ j)) (hDu (cH σ j)) = 1 by have := metW_le (cH σ j) (cS σ q) (hDm (cH σ j)) (hDu (cH σ j)); omega) with z | z <;> rw [z] <;> rfl) ⟨rfl, rfl, _, _, _, (PW_h' (σ := (cN σ, cK σ, cDay σ, cIns σ + nI 1, cH σ, cS σ)) hj)⟩ (by omega) (by omega)
set_option maxHeartbeats 4000000 in
theorem p_inspect_other {l : Launch} {D : va_G} {ba d : Nat} {ad : Adr} (hl : l.stackTraces = false) (hd : 9 ≤ d) {i : Nat} {σ : CS} {tl : Int32} {t : TT} {lo : Nat → Int32} {o : Wd} (hσ : cOK σ) {j : Nat} (hj : j < cN σ) {q : Nat} (hq : q < cK σ) (hm : metW (cH σ j) (cS σ q) (hDm (cH σ j)) (hDu (cH σ j)) = 0) (hc : ¬ hCe (cH σ j) = nI q)  : CT l yX6_inspect (wsO yX6_inspect cX6_inspect 6 (some .boolean)) d 8 64 D ba [.ref (ad [i]), .int (nI j), .int (nI q)] ad (PW i ad σ tl t lo o) (RP i ad (cN σ, cK σ, cDay σ, cIns σ + nI 1, cH σ, cS σ) o (some (.int (nI (metW (cH σ j) (cS σ q) (hDm (cH σ j)) (hDu (cH σ j))))))) noX := by
  refine CT_of RX6 rfl (by decide +kernel) hl (Nat.le_of_ble_eq_true rfl) ?_
  intro p e s m args below meth c C hr hnm
  refine V_lvE (lv' := [(0, .ref (ad [i])), (1, .int (nI j)), (2, .int (nI q))]) rfl ?_
  have hσ1 := hσ.1
  have hσ2 := hσ.2.1
  have hu := hσ.2.2.1 j hj
  have hu1 := hu.1
  have hu2 := hu.2.1
  have hu3 := hu.2.2.1
  have hu4 := hu.2.2.2.1
  refine V_aload_n C dX6_inspect_0 0 rfl ?_
  refine V_iload_n C dX6_inspect_1 1 rfl ?_
  refine V_callV (r := (RX6, TX6, 8)) C [.int (nI j)] dX6_inspect_2 m_X6_findHall k_X6_findHall tw_225 rfl rfl rfl PW_b rfl rfl (Nat.le_of_ble_eq_true rfl) ⟨by omega, by omega, by omega, by omega⟩ (c_findHall hl (by omega) hσ hj) (kr_some (x := .ref (ad [i, 6, j])) ?_) kx_no
  refine V_astore_n C [(3, .ref (ad [i, 6, j])), (0, .ref (ad [i])), (1, .int (nI j)), (2, .int (nI q))] dX6_inspect_5 (by decide) rfl ?_
  refine V_aload_n C dX6_inspect_6 1 rfl ?_
  refine V_iload_n C dX6_inspect_7 3 rfl ?_
  refine V_callV (r := (RX6, TX6, 8)) C [.int (nI q)] dX6_inspect_8 m_X6_findStandard k_X6_findStandard tw_391 rfl rfl rfl PW_b rfl rfl (Nat.le_of_ble_eq_true rfl) ⟨by omega, by omega, by omega, by omega⟩ (c_findStd hl (by omega) hσ hq) (kr_some (x := .ref (ad [i, 9, q])) ?_) kx_no
  refine V_astore C [(4, .ref (ad [i, 9, q])), (3, .ref (ad [i, 6, j])), (0, .ref (ad [i])), (1, .int (nI j)), (2, .int (nI q))] dX6_inspect_11 (by decide) rfl ?_
  refine V_aload_n C dX6_inspect_13 2 rfl ?_
  refine V_dup C dX6_inspect_14 rfl ?_
  refine V_get (ci := 5) (k := 5) C dX6_inspect_15 RX6 RX6 TX6 8 fw_X6 rfl (by decide) tw_75 rfl rfl PW_b rfl ?_
  refine V_iconst (v := nI 1) C dX6_inspect_18 (by decide) ?_
  refine V_iadd C dX6_inspect_19 ?_
  refine V_put (ci := 5) (k := 5) C dX6_inspect_20 RX6 RX6 TX6 8 tyX6 tyX6_ok nmX6 fw_X6 rfl (by decide) tw_75 rfl (Or.inl rfl) rfl rfl rfl PW_b (Nat.le_of_ble_eq_true rfl) ?_
  refine V_wd (w' := wset (PW i ad σ tl t lo o) ([i]) (.inr (5, [.ref (ad [i, 1]), .ref (ad [i, 2]), .int (nI (cN σ)), .int (nI (cK σ)), .int (cDay σ), .int ((cIns σ) + (nI 1)), .ref (ad [i, 3]), .ref (ad [i, 4])]))) rfl ?_
  refine V_wd (w' := PW i ad (cN σ, cK σ, cDay σ, cIns σ + nI 1, cH σ, cS σ) tl t lo o) PW_b' ?_
  refine V_aload_n C dX6_inspect_23 2 rfl ?_
  refine V_aload_n C dX6_inspect_24 1 rfl ?_
  refine V_aload C dX6_inspect_25 0 rfl ?_
  refine V_callV (r := (RX6, TX6, 8)) C [.ref (ad [i, 6, j]), .ref (ad [i, 9, q])] dX6_inspect_27 m_X6_meetsNow k_X6_meetsNow tw_397 rfl rfl rfl (PW_b (σ := (cN σ, cK σ, cDay σ, cIns σ + nI 1, cH σ, cS σ))) rfl rfl (Nat.le_of_ble_eq_true rfl) ⟨by omega, by omega, by omega, by omega⟩ (c_meetsNow (σ := (cN σ, cK σ, cDay σ, cIns σ + nI 1, cH σ, cS σ)) hl (by omega) hσ hj hq) (kr_some (x := .int (nI (metW (cH σ j) (cS σ q) (hDm (cH σ j)) (hDu (cH σ j))))) ?_) kx_no
  refine V_istore C [(5, .int (nI (metW (cH σ j) (cS σ q) (hDm (cH σ j)) (hDu (cH σ j))))), (4, .ref (ad [i, 9, q])), (3, .ref (ad [i, 6, j])), (0, .ref (ad [i])), (1, .int (nI j)), (2, .int (nI q))] dX6_inspect_30 (by decide) rfl ?_
  refine V_iload C dX6_inspect_32 0 rfl ?_
  refine V_ifn_eq (tgt := 50) C dX6_inspect_34 (by decide) (by omega) (fun hb1 => ?_) (fun hb1 => by exfalso; omega)
  refine V_aload_n C dX6_inspect_50 2 rfl ?_
  refine V_getN (ci := 0) (k := 4) C dX6_inspect_51 RX0 RX0 RX6 TX0 6 fw_X0 rfl (by decide) tw_205 rfl rfl (PW_h (σ := (cN σ, cK σ, cDay σ, cIns σ + nI 1, cH σ, cS σ)) hj) rfl ?_
  refine V_iload_n C dX6_inspect_54 5 rfl ?_
  refine V_icmp_ne (tgt := 62) C dX6_inspect_55 (by decide) (fun hb2 => ?_) (fun hb2 => by exfalso; exact hc hb2)
  refine V_iload C dX6_inspect_62 0 rfl ?_
  exact V_iret C .boolean dX6_inspect_64 hr (by rcases (show metW (cH σ j) (cS σ q) (hDm (cH σ j)) (hDu (cH σ j)) = 0 ∨ metW (cH σ j) (cS σ q) (hDm (cH σ j)) (hDu (cH σ j)) = 1 by have := metW_le (cH σ j) (cS σ q) (hDm (cH σ j)) (hDu (cH σ j)); omega) with z | z <;> rw [z] <;> rfl) ⟨rfl, rfl, _, _, _, rfl⟩ (by omega) (by omega)
set_option maxHeartbeats 4000000 in
theorem p_meets {l : Launch} {D : va_G} {ba d : Nat} {ad : Adr} (hl : l.stackTraces = false) (hd : 9 ≤ d) {i : Nat} {σ : CS} {tl : Int32} {t : TT} {lo : Nat → Int32} {o : Wd} (hσ : cOK σ) {j : Nat} (hj : j < cN σ) {q : Nat} (hq : q < cK σ)  : CT l yX6_meets (wsO yX6_meets cX6_meets 4 (some .boolean)) d 8 64 D ba [.ref (ad [i]), .int (nI j), .int (nI q)] ad (PW i ad σ tl t lo o) (RP i ad σ o (some (.int (nI (metW (cH σ j) (cS σ q) (hDm (cH σ j)) (hDu (cH σ j))))))) noX := by
  refine CT_of RX6 rfl (by decide +kernel) hl (Nat.le_of_ble_eq_true rfl) ?_
  intro p e s m args below meth c C hr hnm
  refine V_lvE (lv' := [(0, .ref (ad [i])), (1, .int (nI j)), (2, .int (nI q))]) rfl ?_
  have hσ1 := hσ.1
  have hσ2 := hσ.2.1
  have hu := hσ.2.2.1 j hj
  have hu1 := hu.1
  have hu2 := hu.2.1
  have hu3 := hu.2.2.1
  have hu4 := hu.2.2.2.1
  refine V_aload_n C dX6_meets_0 0 rfl ?_
  refine V_iload_n C dX6_meets_1 1 rfl ?_
  refine V_callV (r := (RX6, TX6, 8)) C [.int (nI j)] dX6_meets_2 m_X6_findHall k_X6_findHall tw_225 rfl rfl rfl PW_b rfl rfl (Nat.le_of_ble_eq_true rfl) ⟨by omega, by omega, by omega, by omega⟩ (c_findHall hl (by omega) hσ hj) (kr_some (x := .ref (ad [i, 6, j])) ?_) kx_no
  refine V_astore_n C [(3, .ref (ad [i, 6, j])), (0, .ref (ad [i])), (1, .int (nI j)), (2, .int (nI q))] dX6_meets_5 (by decide) rfl ?_
  refine V_aload_n C dX6_meets_6 1 rfl ?_
  refine V_aload_n C dX6_meets_7 0 rfl ?_
  refine V_aload_n C dX6_meets_8 1 rfl ?_
  refine V_iload_n C dX6_meets_9 3 rfl ?_
  refine V_callV (r := (RX6, TX6, 8)) C [.int (nI q)] dX6_meets_10 m_X6_findStandard k_X6_findStandard tw_391 rfl rfl rfl PW_b rfl rfl (Nat.le_of_ble_eq_true rfl) ⟨by omega, by omega, by omega, by omega⟩ (c_findStd hl (by omega) hσ hq) (kr_some (x := .ref (ad [i, 9, q])) ?_) kx_no
  refine V_callV (r := (RX6, TX6, 8)) C [.ref (ad [i, 6, j]), .ref (ad [i, 9, q])] dX6_meets_13 m_X6_meetsNow k_X6_meetsNow tw_397 rfl rfl rfl PW_b rfl rfl (Nat.le_of_ble_eq_true rfl) ⟨by omega, by omega, by omega, by omega⟩ (c_meetsNow hl (by omega) hσ hj hq) (kr_some (x := .int (nI (metW (cH σ j) (cS σ q) (hDm (cH σ j)) (hDu (cH σ j))))) ?_) kx_no
  exact V_iret C .boolean dX6_meets_16 hr (by rcases (show metW (cH σ j) (cS σ q) (hDm (cH σ j)) (hDu (cH σ j)) = 0 ∨ metW (cH σ j) (cS σ q) (hDm (cH σ j)) (hDu (cH σ j)) = 1 by have := metW_le (cH σ j) (cS σ q) (hDm (cH σ j)) (hDu (cH σ j)); omega) with z | z <;> rw [z] <;> rfl) ⟨rfl, rfl, _, _, _, rfl⟩ (by omega) (by omega)
set_option maxHeartbeats 4000000 in
theorem p_withDamp {l : Launch} {D : va_G} {ba d : Nat} {ad : Adr} (hl : l.stackTraces = false) (hd : 9 ≤ d) {i : Nat} {σ : CS} {tl : Int32} {t : TT} {lo : Nat → Int32} {o : Wd} (hσ : cOK σ) {j : Nat} (hj : j < cN σ) {q : Nat} (hq : q < cK σ) {v : Nat} (hv : v ≤ 90) (hin : ¬ inR (nI v) (nI 0) (nI 90) = 0)  : CT l yX6_meetsWithDamping (wsO yX6_meetsWithDamping cX6_meetsWithDamping 6 (some .boolean)) d 8 64 D ba [.ref (ad [i]), .int (nI j), .int (nI q), .int (nI v)] ad (PW i ad σ tl t lo o) (RP i ad σ o (some (.int (nI (metW (cH σ j) (cS σ q) v (hDu (cH σ j))))))) noX := by
  refine CT_of RX6 rfl (by decide +kernel) hl (Nat.le_of_ble_eq_true rfl) ?_
  intro p e s m args below meth c C hr hnm
  refine V_lvE (lv' := [(0, .ref (ad [i])), (1, .int (nI j)), (2, .int (nI q)), (3, .int (nI v))]) rfl ?_
  have hσ1 := hσ.1
  have hσ2 := hσ.2.1
  have hu := hσ.2.2.1 j hj
  have hu1 := hu.1
  have hu2 := hu.2.1
  have hu3 := hu.2.2.1
  have hu4 := hu.2.2.2.1
  refine V_aload_n C dX6_meetsWithDamping_0 0 rfl ?_
  refine V_iload_n C dX6_meetsWithDamping_1 1 rfl ?_
  refine V_callV (r := (RX6, TX6, 8)) C [.int (nI j)] dX6_meetsWithDamping_2 m_X6_findHall k_X6_findHall tw_225 rfl rfl rfl PW_b rfl rfl (Nat.le_of_ble_eq_true rfl) ⟨by omega, by omega, by omega, by omega⟩ (c_findHall hl (by omega) hσ hj) (kr_some (x := .ref (ad [i, 6, j])) ?_) kx_no
  refine V_astore C [(4, .ref (ad [i, 6, j])), (0, .ref (ad [i])), (1, .int (nI j)), (2, .int (nI q)), (3, .int (nI v))] dX6_meetsWithDamping_5 (by decide) rfl ?_
  refine V_aload_n C dX6_meetsWithDamping_7 1 rfl ?_
  refine V_iload_n C dX6_meetsWithDamping_8 3 rfl ?_
  refine V_callV (r := (RX6, TX6, 8)) C [.int (nI q)] dX6_meetsWithDamping_9 m_X6_findStandard k_X6_findStandard tw_391 rfl rfl rfl PW_b rfl rfl (Nat.le_of_ble_eq_true rfl) ⟨by omega, by omega, by omega, by omega⟩ (c_findStd hl (by omega) hσ hq) (kr_some (x := .ref (ad [i, 9, q])) ?_) kx_no
  refine V_astore C [(5, .ref (ad [i, 9, q])), (4, .ref (ad [i, 6, j])), (0, .ref (ad [i])), (1, .int (nI j)), (2, .int (nI q)), (3, .int (nI v))] dX6_meetsWithDamping_12 (by decide) rfl ?_
  refine V_iload_n C dX6_meetsWithDamping_14 5 rfl ?_
  refine V_callS C [.int (nI v)] dX6_meetsWithDamping_15 m_X6_checkDamping k_X6_checkDamping tw_99 rfl rfl (Nat.le_of_ble_eq_true rfl) ⟨by omega, by omega, by omega, by omega⟩ (c_ckDamp_ok hl (by omega) _ hin) (kr_none ?_) kx_no
  refine V_aload_n C dX6_meetsWithDamping_18 2 rfl ?_
  refine V_aload C dX6_meetsWithDamping_19 1 rfl ?_
  refine V_aload C dX6_meetsWithDamping_21 0 rfl ?_
  refine V_iload_n C dX6_meetsWithDamping_23 5 rfl ?_
  refine V_aload C dX6_meetsWithDamping_24 1 rfl ?_
  refine V_getN (ci := 0) (k := 3) C dX6_meetsWithDamping_26 RX0 RX0 RX6 TX0 6 fw_X0 rfl (by decide) tw_202 rfl rfl (PW_h hj) rfl ?_
  have hle29 := metW_le (cH σ j) (cS σ q) v (hDu (cH σ j))
  refine V_callV (r := (RX6, TX6, 8)) C [.ref (ad [i, 6, j]), .ref (ad [i, 9, q]), .int (nI v), .int (nI (hDu (cH σ j)))] dX6_meetsWithDamping_29 m_X6_wouldMeet k_X6_wouldMeet tw_401 rfl rfl rfl PW_b rfl rfl (Nat.le_of_ble_eq_true rfl) ⟨by omega, by omega, by omega, by omega⟩ (c_would hl (by omega) hσ hj hq (by omega) (by omega)) (kr_some (x := .int (nI (metW (cH σ j) (cS σ q) v (hDu (cH σ j))))) ?_) kx_no
  exact V_iret C .boolean dX6_meetsWithDamping_32 hr (by rcases (show metW (cH σ j) (cS σ q) v (hDu (cH σ j)) = 0 ∨ metW (cH σ j) (cS σ q) v (hDu (cH σ j)) = 1 by omega) with z | z <;> rw [z] <;> rfl) ⟨rfl, rfl, _, _, _, rfl⟩ (by omega) (by omega)
def fstF (f : Nat → Nat) : Nat → Nat → Int32
  | 0, _ => -1
  | n + 1, k => if f k = 0 then fstF f n (k + 1) else nI k
end
section

theorem olderH_e {v k m : Nat} {H : Nat → HallS} (h : m ≤ k) : olderH v H (min (k + 1) m) = olderH v H (min k m) := by
  rw [Nat.min_eq_right h, Nat.min_eq_right (by omega)]
theorem PW_old {i : Nat} {ad : Adr} {σ : CS} {tl : Int32} {t : TT} {lo : Nat → Int32} {o : Wd} {k v : Nat} (h : k < cN σ) : PW i ad (setH (cN σ, cK σ, cDay σ, cIns σ, olderH v (cH σ) (min k (cN σ)), cS σ) k (oldH v (olderH v (cH σ) (min k (cN σ)) k))) tl t lo o = PW i ad (cN σ, cK σ, cDay σ, cIns σ, olderH v (cH σ) (min (k + 1) (cN σ)), cS σ) tl t lo o := by
  rw [Nat.min_eq_left h, Nat.min_eq_left (Nat.le_of_lt h)]
  simp only [setH, cN, cK, cDay, cIns, cH, cS]
  rw [olderH_s]
theorem older_ok {v : Nat} {σ : CS} {day : Int32} {m : Nat} (hσ : cOK σ) : cOK (cN σ, cK σ, day, cIns σ, olderH v (cH σ) m, cS σ) := olderH_ok (σ := (cN σ, cK σ, day, cIns σ, cH σ, cS σ)) hσ
set_option maxHeartbeats 4000000 in
theorem lp_pass {p : Program} {l : Launch} {e : Env} {s : State} {m : MethodId} {args : Array Value} {below : List Frame} {meth : Method} {c : Code} {D : va_G} {ba d mc ms : Nat} {ad : Adr} {QR : Option Value → Adr → Wd → Prop} {QX : String → Adr → Wd → Prop} (C : Cx p l s m args meth c D ba RX6 cX6_passDays 6 [] d) (hl : l.stackTraces = false) (hr : meth.sig.returnType = (some .int)) (hd : 8 ≤ d) {i : Nat} {σ : CS} {tl : Int32} {t : TT} {lo : Nat → Int32} {o : Wd} (hσ : cOK σ) {v : Nat} (hv : v ≤ 100) (hq : ∀ w9, w9 = PW i ad (cN σ, cK σ, cDay σ + nI v, cIns σ, olderH v (cH σ) (cN σ), cS σ) tl t lo o → QR (some (.int (nI (certs (olderH v (cH σ) (cN σ)) (cN σ))))) ad w9) : ∀ (n : Nat) (k : Nat), k + n = 8 → V p l e s m args below meth c D ba d mc ms (MO D ba QR QX below args s mc ms) 6 ad (PW i ad (cN σ, cK σ, cDay σ, cIns σ, olderH v (cH σ) (min k (cN σ)), cS σ) tl t lo o) 31 [(4, .int (nI k)), (3, .int (nI 8)), (2, .ref (ad [i, 1])), (0, .ref (ad [i])), (1, .int (nI v))] [] 0 0 := by
  intro n
  induction n with
  | zero =>
    intro k hk
    have hσ1 := hσ.1
    have hH := older_ok (v := v) (day := cDay σ) (m := min k (cN σ)) hσ
    refine V_iload C dX6_passDays_31 0 rfl ?_
    refine V_iload_n C dX6_passDays_33 1 rfl ?_
    refine V_icmpn_ge (tgt := 60) C dX6_passDays_34 (by decide) (by omega) (by decide) (fun hb1 => ?_) (fun hb1 => by exfalso; omega)
    refine V_wd (w' := PW i ad (cN σ, cK σ, cDay σ, cIns σ, olderH v (cH σ) (cN σ), cS σ) tl t lo o) (by rw [Nat.min_eq_right (show cN σ ≤ k by omega)]) ?_
    refine V_aload_n C dX6_passDays_60 3 rfl ?_
    refine V_dup C dX6_passDays_61 rfl ?_
    refine V_get (ci := 5) (k := 4) C dX6_passDays_62 RX6 RX6 TX6 8 fw_X6 rfl (by decide) tw_74 rfl rfl (PW_b (σ := (cN σ, cK σ, cDay σ, cIns σ, olderH v (cH σ) (cN σ), cS σ))) rfl ?_
    refine V_iload_n C dX6_passDays_65 4 rfl ?_
    refine V_iadd C dX6_passDays_66 ?_
    refine V_put (ci := 5) (k := 4) C dX6_passDays_67 RX6 RX6 TX6 8 tyX6 tyX6_ok nmX6 fw_X6 rfl (by decide) tw_74 rfl (Or.inl rfl) rfl rfl rfl (PW_b (σ := (cN σ, cK σ, cDay σ, cIns σ, olderH v (cH σ) (cN σ), cS σ))) (Nat.le_of_ble_eq_true rfl) ?_
    refine V_wd (w' := wset (PW i ad (cN σ, cK σ, cDay σ, cIns σ, olderH v (cH σ) (cN σ), cS σ) tl t lo o) ([i]) (.inr (5, [.ref (ad [i, 1]), .ref (ad [i, 2]), .int (nI (cN (cN σ, cK σ, cDay σ, cIns σ, olderH v (cH σ) (cN σ), cS σ))), .int (nI (cK (cN σ, cK σ, cDay σ, cIns σ, olderH v (cH σ) (cN σ), cS σ))), .int ((cDay (cN σ, cK σ, cDay σ, cIns σ, olderH v (cH σ) (cN σ), cS σ)) + (nI v)), .int (cIns (cN σ, cK σ, cDay σ, cIns σ, olderH v (cH σ) (cN σ), cS σ)), .ref (ad [i, 3]), .ref (ad [i, 4])]))) rfl ?_
    refine V_wd (w' := PW i ad (cN σ, cK σ, cDay σ + nI v, cIns σ, olderH v (cH σ) (cN σ), cS σ) tl t lo o) (PW_b' (σ := (cN σ, cK σ, cDay σ, cIns σ, olderH v (cH σ) (cN σ), cS σ))) ?_
    refine V_aload_n C dX6_passDays_70 3 rfl ?_
    refine V_callV (r := (RX6, TX6, 8)) C [] dX6_passDays_71 m_X6_countCertified k_X6_countCertified tw_438 rfl rfl rfl (PW_b (σ := (cN σ, cK σ, cDay σ + nI v, cIns σ, olderH v (cH σ) (cN σ), cS σ))) rfl rfl (Nat.le_of_ble_eq_true rfl) ⟨by omega, by omega, by omega, by omega⟩ (c_count (σ := (cN σ, cK σ, cDay σ + nI v, cIns σ, olderH v (cH σ) (cN σ), cS σ)) hl (by omega) (older_ok hσ)) (kr_some (x := .int (nI (certs (olderH v (cH σ) (cN σ)) (cN σ)))) ?_) kx_no
    exact V_iret C .int dX6_passDays_74 hr rfl (hq _ rfl) (by omega) (by omega)
  | succ n ih =>
    intro k hk
    have hσ1 := hσ.1
    have hH := older_ok (v := v) (day := cDay σ) (m := min k (cN σ)) hσ
    refine V_iload C dX6_passDays_31 0 rfl ?_
    refine V_iload_n C dX6_passDays_33 1 rfl ?_
    refine V_icmpn_ge (tgt := 60) C dX6_passDays_34 (by decide) (by omega) (by decide) (fun hb1 => by exfalso; omega) (fun hb1 => ?_)
    refine V_aload_n C dX6_passDays_37 2 rfl ?_
    refine V_iload C dX6_passDays_38 0 rfl ?_
    rcases Nat.lt_or_ge k (cN σ) with hks | hks
    · skip
      refine V_aaldn (v := .ref (ad [i, 6, k])) C dX6_passDays_40 rfl (PW_hr (σ := (cN σ, cK σ, cDay σ, cIns σ, olderH v (cH σ) (min k (cN σ)), cS σ))) (by omega) (by decide) (by rw [adN_lt hks]; rfl) ?_
      refine V_astore C [(5, .ref (ad [i, 6, k])), (4, .int (nI k)), (3, .int (nI 8)), (2, .ref (ad [i, 1])), (0, .ref (ad [i])), (1, .int (nI v))] dX6_passDays_41 (by decide) rfl ?_
      refine V_aload C dX6_passDays_43 0 rfl ?_
      refine V_ifnull C dX6_passDays_45 ?_
      refine V_aload C dX6_passDays_48 0 rfl ?_
      refine V_iload_n C dX6_passDays_50 5 rfl ?_
      have hok := hH.2.2.1 k hks
      refine V_callVN (r := (RX0, TX0, 6)) C RX6 [.int (nI v)] dX6_passDays_51 m_X0_growOlder k_X0_growOlder tw_623 rfl rfl rfl (PW_h (σ := (cN σ, cK σ, cDay σ, cIns σ, olderH v (cH σ) (min k (cN σ)), cS σ)) hks) rfl rfl (Nat.le_of_ble_eq_true rfl) ⟨by omega, by omega, by omega, by omega⟩ (c_growOlder hl (by omega) (PW_h (σ := (cN σ, cK σ, cDay σ, cIns σ, olderH v (cH σ) (min k (cN σ)), cS σ)) hks) v hok.2.2.1 (by omega) hok.2.2.2.1) (kr_none ?_) kx_no
      refine V_wd (w' := PW i ad (cN σ, cK σ, cDay σ, cIns σ, olderH v (cH σ) (min (k + 1) (cN σ)), cS σ) tl t lo o) ((PW_h' (σ := (cN σ, cK σ, cDay σ, cIns σ, olderH v (cH σ) (min k (cN σ)), cS σ)) hks).trans (PW_old hks)) ?_
      refine V_iincn C [(4, .int (nI (k + 1))), (5, .ref (ad [i, 6, k])), (3, .int (nI 8)), (2, .ref (ad [i, 1])), (0, .ref (ad [i])), (1, .int (nI v))] dX6_passDays_54 1 rfl (by decide) rfl ?_
      refine V_goto (tgt := 31) C dX6_passDays_57 (by decide) ?_
      refine V_lv [0, 2, 3, 4, 5] rfl ?_
      exact ih (k + 1) (by omega)
    · skip
      refine V_aaldn (v := .null) C dX6_passDays_40 rfl (PW_hr (σ := (cN σ, cK σ, cDay σ, cIns σ, olderH v (cH σ) (min k (cN σ)), cS σ))) (by omega) (by decide) (by rw [adN_ge (Nat.not_lt.mpr hks)]; rfl) ?_
      refine V_astoreN C [(5, .null), (4, .int (nI k)), (3, .int (nI 8)), (2, .ref (ad [i, 1])), (0, .ref (ad [i])), (1, .int (nI v))] dX6_passDays_41 (by decide) rfl ?_
      refine V_aloadN C dX6_passDays_43 0 rfl ?_
      refine V_ifnullN (tgt := 54) C dX6_passDays_45 (by decide) ?_
      refine V_iincn C [(4, .int (nI (k + 1))), (5, .null), (3, .int (nI 8)), (2, .ref (ad [i, 1])), (0, .ref (ad [i])), (1, .int (nI v))] dX6_passDays_54 1 rfl (by decide) rfl ?_
      refine V_goto (tgt := 31) C dX6_passDays_57 (by decide) ?_
      refine V_wd (w' := PW i ad (cN σ, cK σ, cDay σ, cIns σ, olderH v (cH σ) (min (k + 1) (cN σ)), cS σ) tl t lo o) (by rw [olderH_e hks]) ?_
      refine V_lv [0, 2, 3, 4, 5] rfl ?_
      exact ih (k + 1) (by omega)
set_option maxHeartbeats 4000000 in
theorem p_pass {l : Launch} {D : va_G} {ba d : Nat} {ad : Adr} (hl : l.stackTraces = false) (hd : 9 ≤ d) {i : Nat} {σ : CS} {tl : Int32} {t : TT} {lo : Nat → Int32} {o : Wd} (hσ : cOK σ) {v : Nat} (hv : v ≤ 100) (hin : ¬ inR (nI v) (nI 1) (nI 100) = 0)  : CT l yX6_passDays (wsO yX6_passDays cX6_passDays 6 (some .int)) d 8 64 D ba [.ref (ad [i]), .int (nI v)] ad (PW i ad σ tl t lo o) (RP i ad (cN σ, cK σ, cDay σ + nI v, cIns σ, olderH v (cH σ) (cN σ), cS σ) o (some (.int (nI (certs (olderH v (cH σ) (cN σ)) (cN σ)))))) noX := by
  refine CT_of RX6 rfl (by decide +kernel) hl (Nat.le_of_ble_eq_true rfl) ?_
  intro p e s m args below meth c C hr hnm
  refine V_lvE (lv' := [(0, .ref (ad [i])), (1, .int (nI v))]) rfl ?_
  have hσ1 := hσ.1
  have hσ2 := hσ.2.1
  refine V_iload_n C dX6_passDays_0 1 rfl ?_
  refine V_iconst (v := nI 1) C dX6_passDays_1 (by decide) ?_
  refine V_bipush (v := nI 100) C dX6_passDays_2 (by decide) ?_
  have hin4 := inR_le (nI v) (nI 1) (nI 100)
  refine V_callS C [.int (nI v), .int (nI 1), .int (nI 100)] dX6_passDays_4 m_X6_isWithin k_X6_isWithin tw_102 rfl rfl (Nat.le_of_ble_eq_true rfl) ⟨by omega, by omega, by omega, by omega⟩ (c_isWithin hl (by omega) (nI v) (nI 1) (nI 100)) (kr_some (x := .int (nI (inR (nI v) (nI 1) (nI 100)))) ?_) kx_no
  refine V_ifn_ne (tgt := 20) C dX6_passDays_7 (by decide) (by omega) (fun hb1 => ?_) (fun hb1 => by exfalso; exact hin hb1)
  refine V_aload_n C dX6_passDays_20 0 rfl ?_
  refine V_get (ci := 5) (k := 0) C dX6_passDays_21 RX6 RX6 TX6 8 fw_X6 rfl (by decide) tw_70 rfl rfl PW_b rfl ?_
  refine V_astore_n C [(2, .ref (ad [i, 1])), (0, .ref (ad [i])), (1, .int (nI v))] dX6_passDays_24 (by decide) rfl ?_
  refine V_aload_n C dX6_passDays_25 0 rfl ?_
  refine V_alen (v := nI 8) C dX6_passDays_26 rfl PW_hr rfl ?_
  refine V_istore_n C [(3, .int (nI 8)), (2, .ref (ad [i, 1])), (0, .ref (ad [i])), (1, .int (nI v))] dX6_passDays_27 (by decide) rfl ?_
  refine V_iconst (v := nI 0) C dX6_passDays_28 (by decide) ?_
  refine V_istore C [(4, .int (nI 0)), (3, .int (nI 8)), (2, .ref (ad [i, 1])), (0, .ref (ad [i])), (1, .int (nI v))] dX6_passDays_29 (by decide) rfl ?_
  refine V_wd (w' := PW i ad (cN σ, cK σ, cDay σ, cIns σ, olderH v (cH σ) (min 0 (cN σ)), cS σ) tl t lo o) (by rw [Nat.zero_min, olderH_0]) ?_
  refine V_lv [0, 1, 2, 3, 4] rfl ?_
  exact lp_pass C hl hr (by omega) hσ hv (fun _ z => ⟨rfl, rfl, _, _, _, z⟩) 8 0 (by omega)
set_option maxHeartbeats 4000000 in
theorem c_clk {l : Launch} {D : va_G} {ba d : Nat} {ad : Adr} (hl : l.stackTraces = false) (hd : 8 ≤ d) {i : Nat} {σ : CS} {tl : Int32} {t : TT} {lo : Nat → Int32} {o : Wd} (hσ : cOK σ) {j : Nat} (hj : j < cN σ) {v : Nat} (hv : v ≤ 1000) (hin : ¬ inR (nI v) (nI 1) (nI 1000) = 0)  : CT l yX6_tallyOfClick (wsO yX6_tallyOfClick cX6_tallyOfClick 4 (some (.object "EchoBureau$Tally"))) d 8 64 D ba [.ref (ad [i]), .int (nI j), .int (nI v)] ad (PW i ad σ tl t lo o) (isR (some (.ref (ad [i, 3]))) ad (PW i ad σ (nI 1) (tly (cH σ j) (nI 1) v) lo o)) noX := by
  refine CT_of RX6 rfl (by decide +kernel) hl (Nat.le_of_ble_eq_true rfl) ?_
  intro p e s m args below meth c C hr hnm
  refine V_lvE (lv' := [(0, .ref (ad [i])), (1, .int (nI j)), (2, .int (nI v))]) rfl ?_
  have hσ1 := hσ.1
  have hσ2 := hσ.2.1
  have hu := hσ.2.2.1 j hj
  have hu1 := hu.1
  have hu2 := hu.2.1
  have hu3 := hu.2.2.1
  have hu4 := hu.2.2.2.1
  refine V_aload_n C dX6_tallyOfClick_0 0 rfl ?_
  refine V_iload_n C dX6_tallyOfClick_1 1 rfl ?_
  refine V_callV (r := (RX6, TX6, 8)) C [.int (nI j)] dX6_tallyOfClick_2 m_X6_findHall k_X6_findHall tw_225 rfl rfl rfl PW_b rfl rfl (Nat.le_of_ble_eq_true rfl) ⟨by omega, by omega, by omega, by omega⟩ (c_findHall hl (by omega) hσ hj) (kr_some (x := .ref (ad [i, 6, j])) ?_) kx_no
  refine V_astore_n C [(3, .ref (ad [i, 6, j])), (0, .ref (ad [i])), (1, .int (nI j)), (2, .int (nI v))] dX6_tallyOfClick_5 (by decide) rfl ?_
  refine V_iload_n C dX6_tallyOfClick_6 3 rfl ?_
  refine V_callS C [.int (nI v)] dX6_tallyOfClick_7 m_X6_checkLoudness k_X6_checkLoudness tw_318 rfl rfl (Nat.le_of_ble_eq_true rfl) ⟨by omega, by omega, by omega, by omega⟩ (c_ckLoud_ok hl (by omega) _ hin) (kr_none ?_) kx_no
  refine V_aload_n C dX6_tallyOfClick_10 1 rfl ?_
  refine V_aload_n C dX6_tallyOfClick_11 0 rfl ?_
  refine V_iload_n C dX6_tallyOfClick_12 3 rfl ?_
  refine V_iconst (v := nI 1) C dX6_tallyOfClick_13 (by decide) ?_
  refine V_callV (r := (RX6, TX6, 8)) C [.ref (ad [i, 6, j]), .int (nI v), .int (nI 1)] dX6_tallyOfClick_14 m_X6_tallyOf k_X6_tallyOf tw_322 rfl rfl rfl PW_b rfl rfl (Nat.le_of_ble_eq_true rfl) ⟨by omega, by omega, by omega, by omega⟩ (c_tallyOf hl (by omega) hσ hj hv (nI 1)) (kr_some (x := .ref (ad [i, 3])) ?_) kx_no
  exact V_aret C "EchoBureau$Tally" dX6_tallyOfClick_17 hr ⟨rfl, rfl, rfl⟩ (by omega) (by omega)
set_option maxHeartbeats 4000000 in
theorem p_echoes {l : Launch} {D : va_G} {ba d : Nat} {ad : Adr} (hl : l.stackTraces = false) (hd : 9 ≤ d) {i : Nat} {σ : CS} {tl : Int32} {t : TT} {lo : Nat → Int32} {o : Wd} (hσ : cOK σ) {j : Nat} (hj : j < cN σ) {v : Nat} (hv : v ≤ 1000) (hin : ¬ inR (nI v) (nI 1) (nI 1000) = 0)  : CT l yX6_echoes (wsO yX6_echoes cX6_echoes 3 (some .int)) d 8 64 D ba [.ref (ad [i]), .int (nI j), .int (nI v)] ad (PW i ad σ tl t lo o) (RP i ad σ o (some (.int ((tly (cH σ j) (nI 1) v).1)))) noX := by
  refine CT_of RX6 rfl (by decide +kernel) hl (Nat.le_of_ble_eq_true rfl) ?_
  intro p e s m args below meth c C hr hnm
  refine V_lvE (lv' := [(0, .ref (ad [i])), (1, .int (nI j)), (2, .int (nI v))]) rfl ?_
  have hσ1 := hσ.1
  have hσ2 := hσ.2.1
  refine V_aload_n C dX6_echoes_0 0 rfl ?_
  refine V_iload_n C dX6_echoes_1 1 rfl ?_
  refine V_iload_n C dX6_echoes_2 2 rfl ?_
  refine V_callV (r := (RX6, TX6, 8)) C [.int (nI j), .int (nI v)] dX6_echoes_3 m_X6_tallyOfClick k_X6_tallyOfClick tw_314 rfl rfl rfl PW_b rfl rfl (Nat.le_of_ble_eq_true rfl) ⟨by omega, by omega, by omega, by omega⟩ (c_clk hl (by omega) hσ hj hv hin) (kr_some (x := .ref (ad [i, 3])) ?_) kx_no
  refine V_getN (ci := 4) (k := 1) C dX6_echoes_6 RX5 RX5 RX6 TX5 5 fw_X5 rfl (by decide) tw_38 rfl rfl PW_t rfl ?_
  exact V_iret C .int dX6_echoes_9 hr rfl ⟨rfl, rfl, _, _, _, rfl⟩ (by omega) (by omega)
set_option maxHeartbeats 4000000 in
theorem p_firstEcho {l : Launch} {D : va_G} {ba d : Nat} {ad : Adr} (hl : l.stackTraces = false) (hd : 9 ≤ d) {i : Nat} {σ : CS} {tl : Int32} {t : TT} {lo : Nat → Int32} {o : Wd} (hσ : cOK σ) {j : Nat} (hj : j < cN σ) {v : Nat} (hv : v ≤ 1000) (hin : ¬ inR (nI v) (nI 1) (nI 1000) = 0)  : CT l yX6_firstEcho (wsO yX6_firstEcho cX6_firstEcho 3 (some .int)) d 8 64 D ba [.ref (ad [i]), .int (nI j), .int (nI v)] ad (PW i ad σ tl t lo o) (RP i ad σ o (some (.int ((tly (cH σ j) (nI 1) v).2.2.1)))) noX := by
  refine CT_of RX6 rfl (by decide +kernel) hl (Nat.le_of_ble_eq_true rfl) ?_
  intro p e s m args below meth c C hr hnm
  refine V_lvE (lv' := [(0, .ref (ad [i])), (1, .int (nI j)), (2, .int (nI v))]) rfl ?_
  have hσ1 := hσ.1
  have hσ2 := hσ.2.1
  refine V_aload_n C dX6_firstEcho_0 0 rfl ?_
  refine V_iload_n C dX6_firstEcho_1 1 rfl ?_
  refine V_iload_n C dX6_firstEcho_2 2 rfl ?_
  refine V_callV (r := (RX6, TX6, 8)) C [.int (nI j), .int (nI v)] dX6_firstEcho_3 m_X6_tallyOfClick k_X6_tallyOfClick tw_314 rfl rfl rfl PW_b rfl rfl (Nat.le_of_ble_eq_true rfl) ⟨by omega, by omega, by omega, by omega⟩ (c_clk hl (by omega) hσ hj hv hin) (kr_some (x := .ref (ad [i, 3])) ?_) kx_no
  refine V_getN (ci := 4) (k := 3) C dX6_firstEcho_6 RX5 RX5 RX6 TX5 5 fw_X5 rfl (by decide) tw_44 rfl rfl PW_t rfl ?_
  exact V_iret C .int dX6_firstEcho_9 hr rfl ⟨rfl, rfl, _, _, _, rfl⟩ (by omega) (by omega)
set_option maxHeartbeats 4000000 in
theorem p_lastEcho {l : Launch} {D : va_G} {ba d : Nat} {ad : Adr} (hl : l.stackTraces = false) (hd : 9 ≤ d) {i : Nat} {σ : CS} {tl : Int32} {t : TT} {lo : Nat → Int32} {o : Wd} (hσ : cOK σ) {j : Nat} (hj : j < cN σ) {v : Nat} (hv : v ≤ 1000) (hin : ¬ inR (nI v) (nI 1) (nI 1000) = 0)  : CT l yX6_lastEcho (wsO yX6_lastEcho cX6_lastEcho 3 (some .int)) d 8 64 D ba [.ref (ad [i]), .int (nI j), .int (nI v)] ad (PW i ad σ tl t lo o) (RP i ad σ o (some (.int ((tly (cH σ j) (nI 1) v).2.2.2)))) noX := by
  refine CT_of RX6 rfl (by decide +kernel) hl (Nat.le_of_ble_eq_true rfl) ?_
  intro p e s m args below meth c C hr hnm
  refine V_lvE (lv' := [(0, .ref (ad [i])), (1, .int (nI j)), (2, .int (nI v))]) rfl ?_
  have hσ1 := hσ.1
  have hσ2 := hσ.2.1
  refine V_aload_n C dX6_lastEcho_0 0 rfl ?_
  refine V_iload_n C dX6_lastEcho_1 1 rfl ?_
  refine V_iload_n C dX6_lastEcho_2 2 rfl ?_
  refine V_callV (r := (RX6, TX6, 8)) C [.int (nI j), .int (nI v)] dX6_lastEcho_3 m_X6_tallyOfClick k_X6_tallyOfClick tw_314 rfl rfl rfl PW_b rfl rfl (Nat.le_of_ble_eq_true rfl) ⟨by omega, by omega, by omega, by omega⟩ (c_clk hl (by omega) hσ hj hv hin) (kr_some (x := .ref (ad [i, 3])) ?_) kx_no
  refine V_getN (ci := 4) (k := 4) C dX6_lastEcho_6 RX5 RX5 RX6 TX5 5 fw_X5 rfl (by decide) tw_47 rfl rfl PW_t rfl ?_
  exact V_iret C .int dX6_lastEcho_9 hr rfl ⟨rfl, rfl, _, _, _, rfl⟩ (by omega) (by omega)
set_option maxHeartbeats 4000000 in
theorem p_loudEchoes {l : Launch} {D : va_G} {ba d : Nat} {ad : Adr} (hl : l.stackTraces = false) (hd : 9 ≤ d) {i : Nat} {σ : CS} {tl : Int32} {t : TT} {lo : Nat → Int32} {o : Wd} (hσ : cOK σ) {j : Nat} (hj : j < cN σ) {v : Nat} (hv : v ≤ 1000) (hin : ¬ inR (nI v) (nI 1) (nI 1000) = 0) {z : Int32} (hin2 : ¬ inR z (nI 1) (nI 1000) = 0)  : CT l yX6_loudEchoes (wsO yX6_loudEchoes cX6_loudEchoes 5 (some .int)) d 8 64 D ba [.ref (ad [i]), .int (nI j), .int (nI v), .int z] ad (PW i ad σ tl t lo o) (RP i ad σ o (some (.int ((tly (cH σ j) z v).2.1)))) noX := by
  refine CT_of RX6 rfl (by decide +kernel) hl (Nat.le_of_ble_eq_true rfl) ?_
  intro p e s m args below meth c C hr hnm
  refine V_lvE (lv' := [(0, .ref (ad [i])), (1, .int (nI j)), (2, .int (nI v)), (3, .int z)]) rfl ?_
  have hσ1 := hσ.1
  have hσ2 := hσ.2.1
  have hu := hσ.2.2.1 j hj
  have hu1 := hu.1
  have hu2 := hu.2.1
  have hu3 := hu.2.2.1
  have hu4 := hu.2.2.2.1
  refine V_aload_n C dX6_loudEchoes_0 0 rfl ?_
  refine V_iload_n C dX6_loudEchoes_1 1 rfl ?_
  refine V_callV (r := (RX6, TX6, 8)) C [.int (nI j)] dX6_loudEchoes_2 m_X6_findHall k_X6_findHall tw_225 rfl rfl rfl PW_b rfl rfl (Nat.le_of_ble_eq_true rfl) ⟨by omega, by omega, by omega, by omega⟩ (c_findHall hl (by omega) hσ hj) (kr_some (x := .ref (ad [i, 6, j])) ?_) kx_no
  refine V_astore C [(4, .ref (ad [i, 6, j])), (0, .ref (ad [i])), (1, .int (nI j)), (2, .int (nI v)), (3, .int z)] dX6_loudEchoes_5 (by decide) rfl ?_
  refine V_iload_n C dX6_loudEchoes_7 3 rfl ?_
  refine V_callS C [.int (nI v)] dX6_loudEchoes_8 m_X6_checkLoudness k_X6_checkLoudness tw_318 rfl rfl (Nat.le_of_ble_eq_true rfl) ⟨by omega, by omega, by omega, by omega⟩ (c_ckLoud_ok hl (by omega) _ hin) (kr_none ?_) kx_no
  refine V_iload_n C dX6_loudEchoes_11 4 rfl ?_
  refine V_callS C [.int z] dX6_loudEchoes_12 m_X6_checkLoudness k_X6_checkLoudness tw_318 rfl rfl (Nat.le_of_ble_eq_true rfl) ⟨by omega, by omega, by omega, by omega⟩ (c_ckLoud_ok hl (by omega) _ hin2) (kr_none ?_) kx_no
  refine V_aload_n C dX6_loudEchoes_15 1 rfl ?_
  refine V_aload C dX6_loudEchoes_16 0 rfl ?_
  refine V_iload_n C dX6_loudEchoes_18 3 rfl ?_
  refine V_iload_n C dX6_loudEchoes_19 4 rfl ?_
  refine V_callV (r := (RX6, TX6, 8)) C [.ref (ad [i, 6, j]), .int (nI v), .int z] dX6_loudEchoes_20 m_X6_tallyOf k_X6_tallyOf tw_322 rfl rfl rfl PW_b rfl rfl (Nat.le_of_ble_eq_true rfl) ⟨by omega, by omega, by omega, by omega⟩ (c_tallyOf hl (by omega) hσ hj hv z) (kr_some (x := .ref (ad [i, 3])) ?_) kx_no
  refine V_getN (ci := 4) (k := 2) C dX6_loudEchoes_23 RX5 RX5 RX6 TX5 5 fw_X5 rfl (by decide) tw_41 rfl rfl PW_t rfl ?_
  exact V_iret C .int dX6_loudEchoes_26 hr rfl ⟨rfl, rfl, _, _, _, rfl⟩ (by omega) (by omega)
def ldz (h : HallS) (click : Nat) : Nat → Int32 := upF (rowsL (hDm h) (hDu h) click (hSu h)) (hSc h) (fun _ => nI 0)
theorem hearL_z {f g : Nat → Int32} (h : ∀ j, j < 501 → f j = g j) (q : Nat × Nat) (j : Nat) (hj : j < 501) : hearL f q j = hearL g q j := by
  unfold hearL
  simp only [upd]
  by_cases h2 : j = q.1 / 6
  · rw [if_pos h2, if_pos h2, ← h2, h j hj]
  · rw [if_neg h2, if_neg h2, h j hj]
theorem foldL_z : ∀ (E : List (Nat × Nat)) {f g : Nat → Int32}, (∀ j, j < 501 → f j = g j) → ∀ j, j < 501 → List.foldl hearL f E j = List.foldl hearL g E j
  | [], _, _, h => h
  | q :: E, _, _, h => foldL_z E (hearL_z h q)
theorem rowsL_z {dm du click : Nat} {su : Nat → Nat × Nat} {f g : Nat → Int32} (h : ∀ j, j < 501 → f j = g j) : ∀ m j, j < 501 → upF (rowsL dm du click su) m f j = upF (rowsL dm du click su) m g j
  | 0 => h
  | m + 1 => foldL_z _ (rowsL_z h m)
theorem lds_z {lo : Nat → Int32} {h : HallS} {click j : Nat} (hj : j < 501) : lds lo h click j = ldz h click j := rowsL_z (fun a ha => by simp [fillF, ha]) _ j hj
theorem momF_z {f g : Nat → Int32} (h : ∀ j, j < 501 → f j = g j) : ∀ n k mx mo, k + n = 501 → momF f n k mx mo = momF g n k mx mo
  | 0, _, _, _, _ => rfl
  | n + 1, k, mx, mo, hk => by
    rw [momF, momF, h k (by omega), momF_z h n (k + 1) mx mo (by omega), momF_z h n (k + 1) _ _ (by omega)]
theorem mom_z {lo : Nat → Int32} {h : HallS} {click : Nat} : momF (lds lo h click) 501 0 (nI 0) (-1) = momF (ldz h click) 501 0 (nI 0) (-1) := momF_z (fun _ hj => lds_z hj) 501 0 _ _ rfl
set_option maxHeartbeats 4000000 in
theorem p_loudnessAt {l : Launch} {D : va_G} {ba d : Nat} {ad : Adr} (hl : l.stackTraces = false) (hd : 9 ≤ d) {i : Nat} {σ : CS} {tl : Int32} {t : TT} {lo : Nat → Int32} {o : Wd} (hσ : cOK σ) {j : Nat} (hj : j < cN σ) {v : Nat} (hv : v ≤ 1000) (hin : ¬ inR (nI v) (nI 1) (nI 1000) = 0) {m1 : Nat} (hm : m1 ≤ 3000) (hin2 : ¬ inR (nI m1) (nI 0) (nI 3000) = 0)  : CT l yX6_loudnessAt (wsO yX6_loudnessAt cX6_loudnessAt 5 (some .int)) d 8 64 D ba [.ref (ad [i]), .int (nI j), .int (nI v), .int (nI m1)] ad (PW i ad σ tl t lo o) (RP i ad σ o (some (.int (if m1 % 6 = 0 then ldz (cH σ j) v (m1 / 6) else nI 0)))) noX := by
  refine CT_of RX6 rfl (by decide +kernel) hl (Nat.le_of_ble_eq_true rfl) ?_
  intro p e s m args below meth c C hr hnm
  refine V_lvE (lv' := [(0, .ref (ad [i])), (1, .int (nI j)), (2, .int (nI v)), (3, .int (nI m1))]) rfl ?_
  have hσ1 := hσ.1
  have hσ2 := hσ.2.1
  have hu := hσ.2.2.1 j hj
  have hu1 := hu.1
  have hu2 := hu.2.1
  have hu3 := hu.2.2.1
  have hu4 := hu.2.2.2.1
  refine V_aload_n C dX6_loudnessAt_0 0 rfl ?_
  refine V_iload_n C dX6_loudnessAt_1 1 rfl ?_
  refine V_callV (r := (RX6, TX6, 8)) C [.int (nI j)] dX6_loudnessAt_2 m_X6_findHall k_X6_findHall tw_225 rfl rfl rfl PW_b rfl rfl (Nat.le_of_ble_eq_true rfl) ⟨by omega, by omega, by omega, by omega⟩ (c_findHall hl (by omega) hσ hj) (kr_some (x := .ref (ad [i, 6, j])) ?_) kx_no
  refine V_astore C [(4, .ref (ad [i, 6, j])), (0, .ref (ad [i])), (1, .int (nI j)), (2, .int (nI v)), (3, .int (nI m1))] dX6_loudnessAt_5 (by decide) rfl ?_
  refine V_iload_n C dX6_loudnessAt_7 3 rfl ?_
  refine V_callS C [.int (nI v)] dX6_loudnessAt_8 m_X6_checkLoudness k_X6_checkLoudness tw_318 rfl rfl (Nat.le_of_ble_eq_true rfl) ⟨by omega, by omega, by omega, by omega⟩ (c_ckLoud_ok hl (by omega) _ hin) (kr_none ?_) kx_no
  refine V_iload_n C dX6_loudnessAt_11 4 rfl ?_
  refine V_iconst (v := nI 0) C dX6_loudnessAt_12 (by decide) ?_
  refine V_sipush (v := nI 3000) C dX6_loudnessAt_13 (by decide) ?_
  have hin16 := inR_le (nI m1) (nI 0) (nI 3000)
  refine V_callS C [.int (nI m1), .int (nI 0), .int (nI 3000)] dX6_loudnessAt_16 m_X6_isWithin k_X6_isWithin tw_102 rfl rfl (Nat.le_of_ble_eq_true rfl) ⟨by omega, by omega, by omega, by omega⟩ (c_isWithin hl (by omega) (nI m1) (nI 0) (nI 3000)) (kr_some (x := .int (nI (inR (nI m1) (nI 0) (nI 3000)))) ?_) kx_no
  refine V_ifn_ne (tgt := 32) C dX6_loudnessAt_19 (by decide) (by omega) (fun hb1 => ?_) (fun hb1 => by exfalso; exact hin2 hb1)
  refine V_aload_n C dX6_loudnessAt_32 1 rfl ?_
  refine V_aload C dX6_loudnessAt_33 0 rfl ?_
  refine V_iload_n C dX6_loudnessAt_35 3 rfl ?_
  refine V_callV (r := (RX6, TX6, 8)) C [.ref (ad [i, 6, j]), .int (nI v)] dX6_loudnessAt_36 m_X6_loudnessesOf k_X6_loudnessesOf tw_372 rfl rfl rfl PW_b rfl rfl (Nat.le_of_ble_eq_true rfl) ⟨by omega, by omega, by omega, by omega⟩ (c_loudOf hl (by omega) hσ hj hv) (kr_some (x := .ref (ad [i, 4])) ?_) kx_no
  refine V_iload_n C dX6_loudnessAt_39 4 rfl ?_
  refine V_callVN (r := (RX2, TX2, 1)) C RX6 [.int (nI m1)] dX6_loudnessAt_40 m_X2_addedAt k_X2_addedAt tw_383 rfl rfl rfl PW_l rfl rfl (Nat.le_of_ble_eq_true rfl) ⟨by omega, by omega, by omega, by omega⟩ (c_addedAt hl (by omega) PW_l PW_a m1 hm) (kr_some (x := .int (if m1 % 6 = 0 then (lds lo (cH σ j) v) (m1 / 6) else nI 0)) ?_) kx_no
  exact V_iret C .int dX6_loudnessAt_43 hr rfl ⟨by rw [lds_z (by omega)], rfl, _, _, _, rfl⟩ (by omega) (by omega)
def metN (s : StdS) (H : Nat → HallS) : Nat → Nat → Nat := fun j x => if metW (H j) s (hDm (H j)) (hDu (H j)) = 0 then x else x + 1
def metC (s : StdS) (H : Nat → HallS) (m : Nat) : Nat := upF (metN s H) m 0
theorem metC_le (s : StdS) (H : Nat → HallS) : ∀ m, metC s H m ≤ m
  | 0 => Nat.le_refl 0
  | m + 1 => by
    have := metC_le s H m
    show metN s H m (metC s H m) ≤ m + 1
    unfold metN
    split <;> omega
set_option maxHeartbeats 4000000 in
theorem lp_hm {p : Program} {l : Launch} {e : Env} {s : State} {m : MethodId} {args : Array Value} {below : List Frame} {meth : Method} {c : Code} {D : va_G} {ba d mc ms : Nat} {ad : Adr} {QR : Option Value → Adr → Wd → Prop} {QX : String → Adr → Wd → Prop} (C : Cx p l s m args meth c D ba RX6 cX6_hallsMeeting 8 [] d) (hl : l.stackTraces = false) (hr : meth.sig.returnType = (some .int)) (hd : 8 ≤ d) {i : Nat} {σ : CS} {lo : Nat → Int32} {o : Wd} (hσ : cOK σ) {q : Nat} (hq : q < cK σ) (hmc : 1 ≤ mc) (hms : 6 ≤ ms) (hq1 : ∀ tl t, QR (some (.int (nI (metC (cS σ q) (cH σ) (cN σ))))) ad (PW i ad σ tl t lo o)) : ∀ (n : Nat) (k : Nat) (tl : Int32) (t : TT), k + n = 8 → V p l e s m args below meth c D ba d mc ms (MO D ba QR QX below args s mc ms) 8 ad (PW i ad σ tl t lo o) 22 [(6, .int (nI k)), (5, .int (nI 8)), (4, .ref (ad [i, 1])), (3, .int (nI (upF (metN (cS σ q) (cH σ)) (min k (cN σ)) 0))), (2, .ref (ad [i, 9, q])), (0, .ref (ad [i]))] [] (0 + 1) (0 + 6) := by
  intro n
  induction n with
  | zero =>
    intro k tl t hk
    have hσ1 := hσ.1
    refine V_iload C dX6_hallsMeeting_22 0 rfl ?_
    refine V_iload C dX6_hallsMeeting_24 1 rfl ?_
    refine V_icmpn_ge (tgt := 60) C dX6_hallsMeeting_26 (by decide) (by omega) (by decide) (fun hb1 => ?_) (fun hb1 => by exfalso; omega)
    refine V_iload_n C dX6_hallsMeeting_60 3 rfl ?_
    exact V_iret C .int dX6_hallsMeeting_61 hr rfl (by rw [upF_x (by omega)]; exact hq1 _ _) (by omega) (by omega)
  | succ n ih =>
    intro k tl t hk
    have hσ1 := hσ.1
    refine V_iload C dX6_hallsMeeting_22 0 rfl ?_
    refine V_iload C dX6_hallsMeeting_24 1 rfl ?_
    refine V_icmpn_ge (tgt := 60) C dX6_hallsMeeting_26 (by decide) (by omega) (by decide) (fun hb1 => by exfalso; omega) (fun hb1 => ?_)
    refine V_aload C dX6_hallsMeeting_29 2 rfl ?_
    refine V_iload C dX6_hallsMeeting_31 0 rfl ?_
    rcases Nat.lt_or_ge k (cN σ) with hks | hks
    · skip
      refine V_aaldn (v := .ref (ad [i, 6, k])) C dX6_hallsMeeting_33 rfl PW_hr (by omega) (by decide) (by rw [adN_lt hks]; rfl) ?_
      refine V_astore C [(7, .ref (ad [i, 6, k])), (6, .int (nI k)), (5, .int (nI 8)), (4, .ref (ad [i, 1])), (3, .int (nI (upF (metN (cS σ q) (cH σ)) (min k (cN σ)) 0))), (2, .ref (ad [i, 9, q])), (0, .ref (ad [i]))] dX6_hallsMeeting_34 (by decide) rfl ?_
      refine V_aload C dX6_hallsMeeting_36 0 rfl ?_
      refine V_ifnull C dX6_hallsMeeting_38 ?_
      refine V_aload_n C dX6_hallsMeeting_41 6 rfl ?_
      refine V_aload C dX6_hallsMeeting_42 0 rfl ?_
      refine V_aload_n C dX6_hallsMeeting_44 5 rfl ?_
      have hmle := metW_le (cH σ k) (cS σ q) (hDm (cH σ k)) (hDu (cH σ k))
      refine V_callV (r := (RX6, TX6, 8)) C [.ref (ad [i, 6, k]), .ref (ad [i, 9, q])] dX6_hallsMeeting_45 m_X6_meetsNow k_X6_meetsNow tw_397 rfl rfl rfl PW_b rfl rfl (Nat.le_of_ble_eq_true rfl) ⟨by omega, by omega, by omega, by omega⟩ (c_meetsNow hl (by omega) hσ hks hq) (kr_some (x := .int (nI (metW (cH σ k) (cS σ q) (hDm (cH σ k)) (hDu (cH σ k))))) ?_) kx_no
      refine V_ifn_eq (tgt := 54) C dX6_hallsMeeting_48 (by decide) (by omega) (fun hb2 => ?_) (fun hb2 => ?_)
      · skip
        refine V_iincn C [(6, .int (nI (k + 1))), (7, .ref (ad [i, 6, k])), (5, .int (nI 8)), (4, .ref (ad [i, 1])), (3, .int (nI (upF (metN (cS σ q) (cH σ)) (min k (cN σ)) 0))), (2, .ref (ad [i, 9, q])), (0, .ref (ad [i]))] dX6_hallsMeeting_54 1 rfl (by decide) rfl ?_
        refine V_goto (tgt := 22) C dX6_hallsMeeting_57 (by decide) ?_
        rw [show upF (metN (cS σ q) (cH σ)) (min k (cN σ)) 0 = upF (metN (cS σ q) (cH σ)) (min (k + 1) (cN σ)) 0 from by rw [upF_s hks]; show _ = metN _ _ _ _; unfold metN; rw [if_pos hb2]]
        refine V_lv [0, 2, 3, 4, 5, 6] rfl ?_
        exact ih (k + 1) _ _ (by omega)
      · skip
        refine V_iincn C [(3, .int (nI (upF (metN (cS σ q) (cH σ)) (min k (cN σ)) 0 + 1))), (7, .ref (ad [i, 6, k])), (6, .int (nI k)), (5, .int (nI 8)), (4, .ref (ad [i, 1])), (2, .ref (ad [i, 9, q])), (0, .ref (ad [i]))] dX6_hallsMeeting_51 4 rfl (by decide) rfl ?_
        refine V_iincn C [(6, .int (nI (k + 1))), (3, .int (nI (upF (metN (cS σ q) (cH σ)) (min k (cN σ)) 0 + 1))), (7, .ref (ad [i, 6, k])), (5, .int (nI 8)), (4, .ref (ad [i, 1])), (2, .ref (ad [i, 9, q])), (0, .ref (ad [i]))] dX6_hallsMeeting_54 2 rfl (by decide) rfl ?_
        refine V_goto (tgt := 22) C dX6_hallsMeeting_57 (by decide) ?_
        rw [show upF (metN (cS σ q) (cH σ)) (min k (cN σ)) 0 + 1 = upF (metN (cS σ q) (cH σ)) (min (k + 1) (cN σ)) 0 from by rw [upF_s hks]; show _ = metN _ _ _ _; unfold metN; rw [if_neg hb2]]
        refine V_lv [0, 3, 4, 1, 5, 6] rfl ?_
        exact ih (k + 1) _ _ (by omega)
    · skip
      refine V_aaldn (v := .null) C dX6_hallsMeeting_33 rfl PW_hr (by omega) (by decide) (by rw [adN_ge (Nat.not_lt.mpr hks)]; rfl) ?_
      refine V_astoreN C [(7, .null), (6, .int (nI k)), (5, .int (nI 8)), (4, .ref (ad [i, 1])), (3, .int (nI (upF (metN (cS σ q) (cH σ)) (min k (cN σ)) 0))), (2, .ref (ad [i, 9, q])), (0, .ref (ad [i]))] dX6_hallsMeeting_34 (by decide) rfl ?_
      refine V_aloadN C dX6_hallsMeeting_36 0 rfl ?_
      refine V_ifnullN (tgt := 54) C dX6_hallsMeeting_38 (by decide) ?_
      refine V_iincn C [(6, .int (nI (k + 1))), (7, .null), (5, .int (nI 8)), (4, .ref (ad [i, 1])), (3, .int (nI (upF (metN (cS σ q) (cH σ)) (min k (cN σ)) 0))), (2, .ref (ad [i, 9, q])), (0, .ref (ad [i]))] dX6_hallsMeeting_54 1 rfl (by decide) rfl ?_
      refine V_goto (tgt := 22) C dX6_hallsMeeting_57 (by decide) ?_
      rw [show upF (metN (cS σ q) (cH σ)) (min k (cN σ)) 0 = upF (metN (cS σ q) (cH σ)) (min (k + 1) (cN σ)) 0 from by rw [upF_e hks]]
      refine V_lv [0, 2, 3, 4, 5, 6] rfl ?_
      exact ih (k + 1) _ _ (by omega)
set_option maxHeartbeats 4000000 in
theorem p_hallsMeeting {l : Launch} {D : va_G} {ba d : Nat} {ad : Adr} (hl : l.stackTraces = false) (hd : 9 ≤ d) {i : Nat} {σ : CS} {tl : Int32} {t : TT} {lo : Nat → Int32} {o : Wd} (hσ : cOK σ) {q : Nat} (hq : q < cK σ)  : CT l yX6_hallsMeeting (wsO yX6_hallsMeeting cX6_hallsMeeting 8 (some .int)) d 8 64 D ba [.ref (ad [i]), .int (nI q)] ad (PW i ad σ tl t lo o) (RP i ad σ o (some (.int (nI (metC (cS σ q) (cH σ) (cN σ)))))) noX := by
  refine CT_of RX6 rfl (by decide +kernel) hl (Nat.le_of_ble_eq_true rfl) ?_
  intro p e s m args below meth c C hr hnm
  refine V_lvE (lv' := [(0, .ref (ad [i])), (1, .int (nI q))]) rfl ?_
  have hσ1 := hσ.1
  have hσ2 := hσ.2.1
  refine V_aload_n C dX6_hallsMeeting_0 0 rfl ?_
  refine V_iload_n C dX6_hallsMeeting_1 1 rfl ?_
  refine V_callV (r := (RX6, TX6, 8)) C [.int (nI q)] dX6_hallsMeeting_2 m_X6_findStandard k_X6_findStandard tw_391 rfl rfl rfl PW_b rfl rfl (Nat.le_of_ble_eq_true rfl) ⟨by omega, by omega, by omega, by omega⟩ (c_findStd hl (by omega) hσ hq) (kr_some (x := .ref (ad [i, 9, q])) ?_) kx_no
  refine V_astore_n C [(2, .ref (ad [i, 9, q])), (0, .ref (ad [i])), (1, .int (nI q))] dX6_hallsMeeting_5 (by decide) rfl ?_
  refine V_iconst (v := nI 0) C dX6_hallsMeeting_6 (by decide) ?_
  refine V_istore_n C [(3, .int (nI 0)), (2, .ref (ad [i, 9, q])), (0, .ref (ad [i])), (1, .int (nI q))] dX6_hallsMeeting_7 (by decide) rfl ?_
  refine V_aload_n C dX6_hallsMeeting_8 2 rfl ?_
  refine V_get (ci := 5) (k := 0) C dX6_hallsMeeting_9 RX6 RX6 TX6 8 fw_X6 rfl (by decide) tw_70 rfl rfl PW_b rfl ?_
  refine V_astore C [(4, .ref (ad [i, 1])), (3, .int (nI 0)), (2, .ref (ad [i, 9, q])), (0, .ref (ad [i])), (1, .int (nI q))] dX6_hallsMeeting_12 (by decide) rfl ?_
  refine V_aload C dX6_hallsMeeting_14 0 rfl ?_
  refine V_alen (v := nI 8) C dX6_hallsMeeting_16 rfl PW_hr rfl ?_
  refine V_istore C [(5, .int (nI 8)), (4, .ref (ad [i, 1])), (3, .int (nI 0)), (2, .ref (ad [i, 9, q])), (0, .ref (ad [i])), (1, .int (nI q))] dX6_hallsMeeting_17 (by decide) rfl ?_
  refine V_iconst (v := nI 0) C dX6_hallsMeeting_19 (by decide) ?_
  refine V_istore C [(6, .int (nI 0)), (5, .int (nI 8)), (4, .ref (ad [i, 1])), (3, .int (nI 0)), (2, .ref (ad [i, 9, q])), (0, .ref (ad [i])), (1, .int (nI q))] dX6_hallsMeeting_20 (by decide) rfl ?_
  refine V_lv [0, 1, 2, 3, 4, 5] rfl ?_
  have K := lp_hm (QR := (RP i ad σ o (some (.int (nI (metC (cS σ q) (cH σ) (cN σ))))))) (QX := noX) (mc := 8) (ms := 64) (e := e) (below := below) C hl hr (by omega) hσ hq (by omega) (by omega) (fun _ _ => ⟨rfl, rfl, _, _, _, rfl⟩) 8 0 tl t (by omega) (lo := lo)
  rw [Nat.zero_min] at K
  exact K
def eaH (s : StdS) (H : Nat → HallS) (m : Nat) : Nat → Nat → Option Nat
  | 0, _ => none
  | n + 1, k => if metW (H k) s m (hDu (H k)) = 0 then eaH s H m n (k + 1) else some k
def eaD (s : StdS) (H : Nat → HallS) (N : Nat) : Nat → Nat → Int32
  | 0, _ => -1
  | n + 1, m => match eaH s H m N 0 with
    | some j => nI j
    | none => eaD s H N n (m + 1)
def sumN (H : Nat → HallS) : Nat → Nat → Nat := fun j x => x + hDm (H j)
def sumD (H : Nat → HallS) (m : Nat) : Nat := upF (sumN H) m 0
theorem sumD_le {σ : CS} (hσ : cOK σ) : ∀ m, m ≤ cN σ → sumD (cH σ) m ≤ 90 * m
  | 0, _ => Nat.le_refl 0
  | m + 1, h => by
    have h1 := sumD_le hσ m (by omega)
    have h2 := (hσ.2.2.1 m (by omega)).2.1
    show sumD (cH σ) m + hDm (cH σ m) ≤ 90 * (m + 1)
    omega
theorem mean_ok0 : ∀ y < 9, ∀ x < 721, 1 ≤ y → FP.ddiv (FP.i2d (nI x)) (FP.i2d (nI y)) &&& 0x7fffffffffffffff ≤ 0x7ff0000000000000 := by decide +kernel
theorem mean_ok {x y : Nat} (h1 : x ≤ 720) (h2 : 1 ≤ y) (h3 : y ≤ 8) : vf_n64 (FP.ddiv (FP.i2d (nI x)) (FP.i2d (nI y))) := mean_ok0 y (by omega) x (by omega) h2
set_option maxHeartbeats 4000000 in
theorem lp_mean {p : Program} {l : Launch} {e : Env} {s : State} {m : MethodId} {args : Array Value} {below : List Frame} {meth : Method} {c : Code} {D : va_G} {ba d mc ms : Nat} {ad : Adr} {QR : Option Value → Adr → Wd → Prop} {QX : String → Adr → Wd → Prop} (C : Cx p l s m args meth c D ba RX6 cX6_meanDamping 6 [] d) (hl : l.stackTraces = false) (hr : meth.sig.returnType = (some .double)) (hd : 2 ≤ d) {i : Nat} {σ : CS} {tl : Int32} {t : TT} {lo : Nat → Int32} {o : Wd} (hσ : cOK σ) (h1 : 0 < cN σ) (hq : QR (some (.double (FP.ddiv (FP.i2d (nI (sumD (cH σ) (cN σ)))) (FP.i2d (nI (cN σ)))))) ad (PW i ad σ tl t lo o)) : ∀ (n : Nat) (k : Nat), k + n = 8 → V p l e s m args below meth c D ba d mc ms (MO D ba QR QX below args s mc ms) 6 ad (PW i ad σ tl t lo o) 22 [(4, .int (nI k)), (3, .int (nI 8)), (2, .ref (ad [i, 1])), (1, .int (nI (upF (sumN (cH σ)) (min k (cN σ)) 0))), (0, .ref (ad [i]))] [] 0 0 := by
  intro n
  induction n with
  | zero =>
    intro k hk
    have hσ1 := hσ.1
    refine V_iload C dX6_meanDamping_22 0 rfl ?_
    refine V_iload_n C dX6_meanDamping_24 1 rfl ?_
    refine V_icmpn_ge (tgt := 53) C dX6_meanDamping_25 (by decide) (by omega) (by decide) (fun hb1 => ?_) (fun hb1 => by exfalso; omega)
    rw [upF_x (show cN σ ≤ k by omega)]
    have hsd := sumD_le hσ (cN σ) (Nat.le_refl _)
    rw [show upF (sumN (cH σ)) (cN σ) 0 = sumD (cH σ) (cN σ) from rfl]
    refine V_iload_n C dX6_meanDamping_53 3 rfl ?_
    refine V_i2d C dX6_meanDamping_54 ?_
    refine V_aload_n C dX6_meanDamping_55 4 rfl ?_
    refine V_get (ci := 5) (k := 2) C dX6_meanDamping_56 RX6 RX6 TX6 8 fw_X6 rfl (by decide) tw_72 rfl rfl PW_b rfl ?_
    refine V_i2d C dX6_meanDamping_59 ?_
    refine V_ddiv C dX6_meanDamping_60 (by exact mean_ok (by omega) h1 hσ1) ?_
    exact V_dret C dX6_meanDamping_61 hr hq (by omega) (by omega)
  | succ n ih =>
    intro k hk
    have hσ1 := hσ.1
    refine V_iload C dX6_meanDamping_22 0 rfl ?_
    refine V_iload_n C dX6_meanDamping_24 1 rfl ?_
    refine V_icmpn_ge (tgt := 53) C dX6_meanDamping_25 (by decide) (by omega) (by decide) (fun hb1 => by exfalso; omega) (fun hb1 => ?_)
    refine V_aload_n C dX6_meanDamping_28 2 rfl ?_
    refine V_iload C dX6_meanDamping_29 0 rfl ?_
    rcases Nat.lt_or_ge k (cN σ) with hks | hks
    · skip
      refine V_aaldn (v := .ref (ad [i, 6, k])) C dX6_meanDamping_31 rfl PW_hr (by omega) (by decide) (by rw [adN_lt hks]; rfl) ?_
      refine V_astore C [(5, .ref (ad [i, 6, k])), (4, .int (nI k)), (3, .int (nI 8)), (2, .ref (ad [i, 1])), (1, .int (nI (upF (sumN (cH σ)) (min k (cN σ)) 0))), (0, .ref (ad [i]))] dX6_meanDamping_32 (by decide) rfl ?_
      refine V_aload C dX6_meanDamping_34 0 rfl ?_
      refine V_ifnull C dX6_meanDamping_36 ?_
      refine V_iload_n C dX6_meanDamping_39 4 rfl ?_
      refine V_aload C dX6_meanDamping_40 0 rfl ?_
      refine V_getN (ci := 0) (k := 2) C dX6_meanDamping_42 RX0 RX0 RX6 TX0 6 fw_X0 rfl (by decide) tw_201 rfl rfl (PW_h hks) rfl ?_
      refine V_iaddn C dX6_meanDamping_45 ?_
      refine V_istore_n C [(1, .int (nI ((upF (sumN (cH σ)) (min k (cN σ)) 0) + (hDm (cH σ k))))), (5, .ref (ad [i, 6, k])), (4, .int (nI k)), (3, .int (nI 8)), (2, .ref (ad [i, 1])), (0, .ref (ad [i]))] dX6_meanDamping_46 (by decide) rfl ?_
      refine V_iincn C [(4, .int (nI (k + 1))), (1, .int (nI ((upF (sumN (cH σ)) (min k (cN σ)) 0) + (hDm (cH σ k))))), (5, .ref (ad [i, 6, k])), (3, .int (nI 8)), (2, .ref (ad [i, 1])), (0, .ref (ad [i]))] dX6_meanDamping_47 2 rfl (by decide) rfl ?_
      refine V_goto (tgt := 22) C dX6_meanDamping_50 (by decide) ?_
      rw [show (upF (sumN (cH σ)) (min k (cN σ)) 0) + (hDm (cH σ k)) = upF (sumN (cH σ)) (min (k + 1) (cN σ)) 0 from by rw [upF_s hks]; rfl]
      refine V_lv [0, 3, 4, 1, 5] rfl ?_
      exact ih (k + 1) (by omega)
    · skip
      refine V_aaldn (v := .null) C dX6_meanDamping_31 rfl PW_hr (by omega) (by decide) (by rw [adN_ge (Nat.not_lt.mpr hks)]; rfl) ?_
      refine V_astoreN C [(5, .null), (4, .int (nI k)), (3, .int (nI 8)), (2, .ref (ad [i, 1])), (1, .int (nI (upF (sumN (cH σ)) (min k (cN σ)) 0))), (0, .ref (ad [i]))] dX6_meanDamping_32 (by decide) rfl ?_
      refine V_aloadN C dX6_meanDamping_34 0 rfl ?_
      refine V_ifnullN (tgt := 47) C dX6_meanDamping_36 (by decide) ?_
      refine V_iincn C [(4, .int (nI (k + 1))), (5, .null), (3, .int (nI 8)), (2, .ref (ad [i, 1])), (1, .int (nI (upF (sumN (cH σ)) (min k (cN σ)) 0))), (0, .ref (ad [i]))] dX6_meanDamping_47 1 rfl (by decide) rfl ?_
      refine V_goto (tgt := 22) C dX6_meanDamping_50 (by decide) ?_
      rw [show upF (sumN (cH σ)) (min k (cN σ)) 0 = upF (sumN (cH σ)) (min (k + 1) (cN σ)) 0 from by rw [upF_e hks]]
      refine V_lv [0, 2, 3, 4, 5] rfl ?_
      exact ih (k + 1) (by omega)
set_option maxHeartbeats 4000000 in
theorem p_mean {l : Launch} {D : va_G} {ba d : Nat} {ad : Adr} (hl : l.stackTraces = false) (hd : 8 ≤ d) {i : Nat} {σ : CS} {tl : Int32} {t : TT} {lo : Nat → Int32} {o : Wd} (hσ : cOK σ) (h1 : 0 < cN σ)  : CT l yX6_meanDamping (wsO yX6_meanDamping cX6_meanDamping 6 (some .double)) d 8 64 D ba [.ref (ad [i])] ad (PW i ad σ tl t lo o) (RP i ad σ o (some (.double (FP.ddiv (FP.i2d (nI (sumD (cH σ) (cN σ)))) (FP.i2d (nI (cN σ))))))) noX := by
  refine CT_of RX6 rfl (by decide +kernel) hl (Nat.le_of_ble_eq_true rfl) ?_
  intro p e s m args below meth c C hr hnm
  refine V_lvE (lv' := [(0, .ref (ad [i]))]) rfl ?_
  have hσ1 := hσ.1
  have hσ2 := hσ.2.1
  refine V_aload_n C dX6_meanDamping_0 0 rfl ?_
  refine V_get (ci := 5) (k := 2) C dX6_meanDamping_1 RX6 RX6 TX6 8 fw_X6 rfl (by decide) tw_72 rfl rfl PW_b rfl ?_
  refine V_ifn_gt (tgt := 9) C dX6_meanDamping_4 (by decide) (by omega) (fun hb1 => ?_) (fun hb1 => by exfalso; omega)
  refine V_iconst (v := nI 0) C dX6_meanDamping_9 (by decide) ?_
  refine V_istore_n C [(1, .int (nI 0)), (0, .ref (ad [i]))] dX6_meanDamping_10 (by decide) rfl ?_
  refine V_aload_n C dX6_meanDamping_11 1 rfl ?_
  refine V_get (ci := 5) (k := 0) C dX6_meanDamping_12 RX6 RX6 TX6 8 fw_X6 rfl (by decide) tw_70 rfl rfl PW_b rfl ?_
  refine V_astore_n C [(2, .ref (ad [i, 1])), (1, .int (nI 0)), (0, .ref (ad [i]))] dX6_meanDamping_15 (by decide) rfl ?_
  refine V_aload_n C dX6_meanDamping_16 0 rfl ?_
  refine V_alen (v := nI 8) C dX6_meanDamping_17 rfl PW_hr rfl ?_
  refine V_istore_n C [(3, .int (nI 8)), (2, .ref (ad [i, 1])), (1, .int (nI 0)), (0, .ref (ad [i]))] dX6_meanDamping_18 (by decide) rfl ?_
  refine V_iconst (v := nI 0) C dX6_meanDamping_19 (by decide) ?_
  refine V_istore C [(4, .int (nI 0)), (3, .int (nI 8)), (2, .ref (ad [i, 1])), (1, .int (nI 0)), (0, .ref (ad [i]))] dX6_meanDamping_20 (by decide) rfl ?_
  refine V_lv [0, 1, 2, 3, 4] rfl ?_
  have K := lp_mean (QR := (RP i ad σ o (some (.double (FP.ddiv (FP.i2d (nI (sumD (cH σ) (cN σ)))) (FP.i2d (nI (cN σ)))))))) (QX := noX) (mc := 8) (ms := 64) (e := e) (below := below) C hl hr (by omega) hσ h1 ⟨rfl, rfl, tl, t, lo, rfl⟩ 8 0 (by omega)
  rw [Nat.zero_min] at K
  exact K
set_option maxHeartbeats 4000000 in
theorem p_mean0 {l : Launch} {D : va_G} {ba d : Nat} {ad : Adr} (hl : l.stackTraces = false) (hd : 8 ≤ d) {i : Nat} {σ : CS} {tl : Int32} {t : TT} {lo : Nat → Int32} {o : Wd} (hσ : cOK σ) (h1 : cN σ = 0)  : CT l yX6_meanDamping (wsO yX6_meanDamping cX6_meanDamping 6 (some .double)) d 8 64 D ba [.ref (ad [i])] ad (PW i ad σ tl t lo o) (RP i ad σ o (some (.double FP.dconst0))) noX := by
  refine CT_of RX6 rfl (by decide +kernel) hl (Nat.le_of_ble_eq_true rfl) ?_
  intro p e s m args below meth c C hr hnm
  refine V_lvE (lv' := [(0, .ref (ad [i]))]) rfl ?_
  have hσ1 := hσ.1
  have hσ2 := hσ.2.1
  refine V_aload_n C dX6_meanDamping_0 0 rfl ?_
  refine V_get (ci := 5) (k := 2) C dX6_meanDamping_1 RX6 RX6 TX6 8 fw_X6 rfl (by decide) tw_72 rfl rfl PW_b rfl ?_
  refine V_ifn_gt (tgt := 9) C dX6_meanDamping_4 (by decide) (by omega) (fun hb1 => by exfalso; omega) (fun hb1 => ?_)
  refine V_dconst0 C dX6_meanDamping_7 ?_
  exact V_dret C dX6_meanDamping_8 hr ⟨rfl, rfl, _, _, _, rfl⟩ (by omega) (by omega)
end
section

abbrev RPa (i : Nat) (ad : Adr) (σ : CS) (o : Wd) (v : Option Value) : Option Value → Adr → Wd → Prop := fun v' ad' w' => v' = v ∧ ((∀ k r, k ≠ i → ad' (k :: r) = ad (k :: r)) ∧ ad' [i] = ad [i]) ∧ ∃ tl t lo, w' = PW i ad' σ tl t lo o
section C19
variable {l : Launch} {D : va_G} {ba d : Nat} {ad : Adr} {w : Wd}
theorem c_sInit' (hl : l.stackTraces = false) (hd : 1 ≤ d) {LU : Lab} {a : Nat} (ha : a = ad LU) (hU : w LU = some (.inr (3, [.int 0, .int 0]))) (ds hb : Nat) : CT l yX4_init (wsO yX4_init cX4_init 3 none) d 0 0 D ba [.ref a, .int (nI ds), .int (nI hb)] ad w (isR none ad (wset w LU (.inr (3, [.int (nI hb), .int (nI ds)])))) noX := by
  subst ha; exact c_sInit hl hd hU ds hb
theorem c_dInit' (hl : l.stackTraces = false) (hd : 1 ≤ d) {LD : Lab} {a : Nat} (ha : a = ad LD) (hD : w LD = some (.inr (2, [.int 0, .int 0, .int 0, .int 0, .int 0]))) (ea li mo lt dy : Nat) : CT l yX3_init (wsO yX3_init cX3_init 6 none) d 0 0 D ba [.ref a, .int (nI ea), .int (nI li), .int (nI mo), .int (nI lt), .int (nI dy)] ad w (isR none ad (wset w LD (.inr (2, [.int (nI ea), .int (nI li), .int (nI mo), .int (nI lt), .int (nI dy)])))) noX := by
  subst ha; exact c_dInit hl hd hD ea li mo lt dy
theorem c_hInit' (hl : l.stackTraces = false) (hd : 1 ≤ d) {LH LS : Lab} {a : Nat} (ha : a = ad LH) (hH : w LH = some (.inr (0, [.null, .int 0, .int 0, .int 0, .int 0, .int 0]))) (hS : w LS = none) (hHS : LH ≠ LS) (dm : Nat) : CT l yX0_init (wsO yX0_init cX0_init 2 none) d 1 6 D ba [.ref a, .int (nI dm)] ad w (fun v ad' w' => v = none ∧ ∃ q, ad' = aset ad LS q ∧ w' = wset (wset w LS (eQ RX4 6 (fun _ => none))) LH (.inr (0, [.ref q, .int (nI 0), .int (nI dm), .int (nI 0), .int (-1), .int (nI 0)]))) noX := by
  subst ha; exact c_hInit hl hd hH hS hHS dm
theorem c_lInit' (hl : l.stackTraces = false) (hd : 1 ≤ d) {LL LA : Lab} {a : Nat} (ha : a = ad LL) (hL : w LL = some (.inr (1, [.null]))) (hA : w LA = none) (hLA : LL ≠ LA) : CT l yX2_init (wsO yX2_init cX2_init 1 none) d 1 501 D ba [.ref a] ad w (fun v ad' w' => v = none ∧ ∃ q, ad' = aset ad LA q ∧ w' = wset (wset w LA (eI 501 (fun _ => 0))) LL (.inr (1, [.ref q]))) noX := by
  subst ha; exact c_lInit hl hd hL hA hLA
theorem c_build' (hl : l.stackTraces = false) (hd : 1 ≤ d) {LH LS : Lab} {a b sa : Nat} {sc dm du dy : Nat} {ce : Int32} {fs : Nat → Option Nat} {Lu : Lab} {us : List Value} (ha : a = ad LH) (hb : b = ad Lu) (hsa : sa = ad LS) (hH : w LH = some (.inr (0, [.ref sa, .int (nI sc), .int (nI dm), .int (nI du), .int ce, .int (nI dy)]))) (hS : w LS = some (eQ RX4 6 fs)) (hu : w Lu = some (.inr (3, us))) (hHS : LH ≠ LS) (huS : Lu ≠ LS) (huH : Lu ≠ LH) (hsc : sc < 6) : CT l yX0_build (wsO yX0_build cX0_build 3 (some .int)) d 0 0 D ba [.ref a, .ref b] ad w (isR (some (.int (nI sc))) ad (wset (wset w LS (eQ RX4 6 (va_up fs sc (some b)))) LH (.inr (0, [.ref sa, .int (nI (sc + 1)), .int (nI dm), .int (nI du), .int ce, .int (nI dy)])))) noX := by
  subst ha; subst hb; subst hsa; exact c_build hl hd hH hS hu hHS huS huH hsc
variable {p : Program} {e : Env} {s : State} {m : MethodId} {args : Array Value} {below : List Frame} {meth : Method} {c : Code} {mc ms nL pc cells slots : Nat} {Q : State → Prop} {lv : List (Nat × Value)}
theorem V_stE {st st' : List Value} (h : st = st') (k : V p l e s m args below meth c D ba d mc ms Q nL ad w pc lv st' cells slots) : V p l e s m args below meth c D ba d mc ms Q nL ad w pc lv st cells slots := h ▸ k
end C19
section P19
variable {i : Nat} {ad : Adr} {σ : CS} {tl : Int32} {t : TT} {lo : Nat → Int32} {o : Wd}
theorem PW_hf {j : Nat} (h : cN σ ≤ j) : PW i ad σ tl t lo o [i, 6, j] = none := put_s.trans (by simp [WC, Nat.not_lt.mpr h])
theorem PW_sf {j : Nat} (h : cN σ ≤ j) : PW i ad σ tl t lo o [i, 7, j] = none := put_s.trans (by simp [WC, Nat.not_lt.mpr h])
theorem PW_uf {j k : Nat} (h : hSc (cH σ j) ≤ k) : PW i ad σ tl t lo o [i, 8, j, k] = none := put_s.trans (by simp [WC, Nat.not_lt.mpr h])
theorem PW_df {j : Nat} (h : cK σ ≤ j) : PW i ad σ tl t lo o [i, 9, j] = none := put_s.trans (by simp [WC, Nat.not_lt.mpr h])
abbrev addH (σ : CS) (v : Nat) : CS := (cN σ + 1, cK σ, cDay σ, cIns σ, fup (cH σ) (cN σ) (0, v, 0, -1, 0, fun _ => (0, 0)), cS σ)
abbrev addD (σ : CS) (s : StdS) : CS := (cN σ, cK σ + 1, cDay σ, cIns σ, cH σ, fup (cS σ) (cK σ) s)
theorem PW_addH {q q2 v : Nat} {e0 : Ent} : wset (wset (wset (wset (wset (PW i ad σ tl t lo o) [i, 6, cN σ] e0) [i, 7, cN σ] (eQ RX4 6 (fun _ => none))) [i, 6, cN σ] (eHall q2 0 v 0 (-1) 0)) [i, 1] (eQ RX0 8 (va_up (adN (cN σ) (fun j => ad [i, 6, j])) (cN σ) (some q)))) [i] (eBur (ad [i, 1]) (ad [i, 2]) (cN σ + 1) (cK σ) (cDay σ) (cIns σ) (ad [i, 3]) (ad [i, 4])) = PW i (aset (aset ad [i, 6, cN σ] q) [i, 7, cN σ] q2) (addH σ v) tl t lo o := by
  obtain ⟨n0, K0, day0, ins0, H0, S0⟩ := σ
  simp only [addH, addD, setH, cN, cK, cDay, cIns, cH, cS, hSc, hDm, hDu, hCe, hDy, hSu] at *
  rw [put_wset, put_wset, put_wset, put_wset, put_wset]
  have hrow : va_up (adN (n0) (fun j => ad [i, 6, j])) (n0) (some q) = adN (n0 + 1) (fun j => aset (aset ad [i, 6, n0] q) [i, 7, n0] q2 [i, 6, j]) := by
    rw [show adN (n0) (fun j => ad [i, 6, j]) = adN (n0) (fun j => aset (aset ad [i, 6, n0] q) [i, 7, n0] q2 [i, 6, j]) from adN_congr (fun j hj => by simp [aset, Nat.ne_of_lt hj])]
    exact adN_up (by simp [aset])
  rw [hrow]
  congr 1
  funext L
  rcases L with _ | ⟨c, _ | ⟨j, _ | ⟨k, _ | ⟨x, y⟩⟩⟩⟩
  · simp [wset, WC, aset, addH, cN, cK, cDay, cIns, cH, cS, hSc, hDm, hDu, hCe, hDy, hSu]
  · by_cases h1 : c = 1
    · subst h1; simp [wset, WC, aset, addH, cN, cK, cDay, cIns, cH, cS, hSc, hDm, hDu, hCe, hDy, hSu]
    · simp [wset, WC, aset, addH, cN, cK, cDay, cIns, cH, cS, hSc, hDm, hDu, hCe, hDy, hSu, h1]
  · by_cases hj : j = n0
    · subst hj
      by_cases h6 : c = 6
      · subst h6; simp [wset, WC, aset, addH, cN, cK, cDay, cIns, cH, cS, hSc, hDm, hDu, hCe, hDy, hSu, fup]
      · by_cases h7 : c = 7
        · subst h7
          simp only [wset, WC, aset, addH, fup, cN, cK, cDay, cIns, cH, cS, hSc, hDm, hDu, hCe, hDy, hSu]
          simp
          funext k
          simp [adN]
        · simp [wset, WC, aset, addH, cN, cK, cDay, cIns, cH, cS, hSc, hDm, hDu, hCe, hDy, hSu, h6, h7]
    · have hlt : (j < n0 + 1) = (j < n0) := by simp only [eq_iff_iff]; omega
      simp [wset, WC, aset, addH, cN, cK, cDay, cIns, cH, cS, hSc, hDm, hDu, hCe, hDy, hSu, hj, fup, hlt]
  · by_cases hj : j = n0
    · subst hj; simp [wset, WC, aset, addH, cN, cK, cDay, cIns, cH, cS, hSc, hDm, hDu, hCe, hDy, hSu, fup]
    · have hlt : (j < n0 + 1) = (j < n0) := by simp only [eq_iff_iff]; omega
      simp [wset, WC, aset, addH, cN, cK, cDay, cIns, cH, cS, hSc, hDm, hDu, hCe, hDy, hSu, hj, fup, hlt]
  · simp [wset, WC]
theorem PW_addD {q ea li mo lt dy : Nat} : wset (wset (wset (PW i ad σ tl t lo o) [i, 9, cK σ] (eStd ea li mo lt dy)) [i, 2] (eQ RX3 5 (va_up (adN (cK σ) (fun j => ad [i, 9, j])) (cK σ) (some q)))) [i] (eBur (ad [i, 1]) (ad [i, 2]) (cN σ) (cK σ + 1) (cDay σ) (cIns σ) (ad [i, 3]) (ad [i, 4])) = PW i (aset ad [i, 9, cK σ] q) (addD σ (ea, li, mo, lt, dy)) tl t lo o := by
  obtain ⟨n0, K0, day0, ins0, H0, S0⟩ := σ
  simp only [addH, addD, setH, cN, cK, cDay, cIns, cH, cS, hSc, hDm, hDu, hCe, hDy, hSu] at *
  rw [put_wset, put_wset, put_wset]
  have hrow : va_up (adN (K0) (fun j => ad [i, 9, j])) (K0) (some q) = adN (K0 + 1) (fun j => aset ad [i, 9, K0] q [i, 9, j]) := by
    rw [show adN (K0) (fun j => ad [i, 9, j]) = adN (K0) (fun j => aset ad [i, 9, K0] q [i, 9, j]) from adN_congr (fun j hj => by simp [aset, Nat.ne_of_lt hj])]
    exact adN_up (by simp [aset])
  rw [hrow]
  congr 1
  funext L
  rcases L with _ | ⟨c, _ | ⟨j, _ | ⟨k, _ | ⟨x, y⟩⟩⟩⟩
  · simp [wset, WC, aset, addD, cN, cK, cDay, cIns, cH, cS, hSc, hDm, hDu, hCe, hDy, hSu]
  · by_cases h1 : c = 2
    · subst h1; simp [wset, WC, aset, addD, cN, cK, cDay, cIns, cH, cS, hSc, hDm, hDu, hCe, hDy, hSu]
    · simp [wset, WC, aset, addD, cN, cK, cDay, cIns, cH, cS, hSc, hDm, hDu, hCe, hDy, hSu, h1]
  · by_cases hj : j = K0
    · subst hj
      by_cases h6 : c = 9
      · subst h6; simp [wset, WC, aset, addD, cN, cK, cDay, cIns, cH, cS, hSc, hDm, hDu, hCe, hDy, hSu, fup]
      · simp [wset, WC, aset, addD, cN, cK, cDay, cIns, cH, cS, hSc, hDm, hDu, hCe, hDy, hSu, h6]
    · have hlt : (j < K0 + 1) = (j < K0) := by simp only [eq_iff_iff]; omega
      simp [wset, WC, aset, addD, cN, cK, cDay, cIns, cH, cS, hSc, hDm, hDu, hCe, hDy, hSu, hj, fup, hlt]
  · simp [wset, WC, aset, addD, cN, cK, cDay, cIns, cH, cS, hSc, hDm, hDu, hCe, hDy, hSu]
  · simp [wset, WC]
theorem PW_addS {j q hb ds : Nat} (hj : j < cN σ) : wset (wset (wset (wset (PW i ad σ tl t lo o) [i, 6, j] (eHall (ad [i, 7, j]) (hSc (cH σ j)) (hDm (cH σ j)) (hDu (cH σ j)) (-1) 0)) [i, 8, j, hSc (cH σ j)] (eSurf hb ds)) [i, 7, j] (eQ RX4 6 (va_up (adN (hSc (cH σ j)) (fun k => ad [i, 8, j, k])) (hSc (cH σ j)) (some q)))) [i, 6, j] (eHall (ad [i, 7, j]) (hSc (cH σ j) + 1) (hDm (cH σ j)) (hDu (cH σ j)) (-1) 0) = PW i (aset ad [i, 8, j, hSc (cH σ j)] q) (setH σ j (hSc (cH σ j) + 1, hDm (cH σ j), hDu (cH σ j), -1, 0, fup (hSu (cH σ j)) (hSc (cH σ j)) (hb, ds))) tl t lo o := by
  obtain ⟨n0, K0, day0, ins0, H0, S0⟩ := σ
  simp only [addH, addD, setH, cN, cK, cDay, cIns, cH, cS, hSc, hDm, hDu, hCe, hDy, hSu] at *
  rw [put_wset, put_wset, put_wset, put_wset]
  have hrow : va_up (adN ((H0 j).1) (fun k => ad [i, 8, j, k])) ((H0 j).1) (some q) = adN ((H0 j).1 + 1) (fun k => aset ad [i, 8, j, (H0 j).1] q [i, 8, j, k]) := by
    rw [show adN ((H0 j).1) (fun k => ad [i, 8, j, k]) = adN ((H0 j).1) (fun k => aset ad [i, 8, j, (H0 j).1] q [i, 8, j, k]) from adN_congr (fun k hk => by simp [aset, Nat.ne_of_lt hk])]
    exact adN_up (by simp [aset])
  rw [hrow]
  congr 1
  funext L
  rcases L with _ | ⟨c, _ | ⟨a, _ | ⟨k, _ | ⟨x, y⟩⟩⟩⟩
  · simp [wset, WC, aset, setH, cN, cK, cDay, cIns, cH, cS, hSc, hDm, hDu, hCe, hDy, hSu]
  · simp [wset, WC, aset, setH, cN, cK, cDay, cIns, cH, cS, hSc, hDm, hDu, hCe, hDy, hSu]
  · by_cases ha : a = j
    · subst ha
      by_cases h6 : c = 6
      · subst h6; simp [wset, WC, aset, setH, cN, cK, cDay, cIns, cH, cS, hSc, hDm, hDu, hCe, hDy, hSu, fup, hj]
      · by_cases h7 : c = 7
        · subst h7
          simp [wset, WC, aset, setH, cN, cK, cDay, cIns, cH, cS, hSc, hDm, hDu, hCe, hDy, hSu, fup, hj]
        · simp [wset, WC, aset, h6, h7, cN, cK, cDay, cIns, cH, cS, hSc, hDm, hDu, hCe, hDy, hSu]
    · simp [wset, WC, aset, fup, ha, cN, cK, cDay, cIns, cH, cS, hSc, hDm, hDu, hCe, hDy, hSu]
  · by_cases ha : a = j
    · subst ha
      by_cases h8 : c = 8
      · subst h8
        by_cases hk : k = (H0 a).1
        · subst hk; simp [wset, WC, cN, cK, cDay, cIns, cH, cS, hSc, hDm, hDu, hCe, hDy, hSu, fup, hj]
        · have hlt : (k < (H0 a).1 + 1) = (k < (H0 a).1) := by simp only [eq_iff_iff]; omega
          simp [wset, WC, cN, cK, cDay, cIns, cH, cS, hSc, hDm, hDu, hCe, hDy, hSu, fup, hj, hk, hlt]
      · simp [wset, WC, h8, cN, cK, cDay, cIns, cH, cS, hSc, hDm, hDu, hCe, hDy, hSu]
    · simp [wset, WC, cN, cK, cDay, cIns, cH, cS, hSc, hDm, hDu, hCe, hDy, hSu, fup, ha]
  · simp [wset, WC]
end P19
set_option maxHeartbeats 4000000 in
theorem p_addHall {l : Launch} {D : va_G} {ba d : Nat} {ad : Adr} (hl : l.stackTraces = false) (hd : 9 ≤ d) {i : Nat} {σ : CS} {tl : Int32} {t : TT} {lo : Nat → Int32} {o : Wd} (hσ : cOK σ) {v : Nat} (hv : v ≤ 90) (hin : ¬ inR (nI v) (nI 0) (nI 90) = 0) (h8 : cN σ < 8)  : CT l yX6_addHall (wsO yX6_addHall cX6_addHall 3 (some .int)) d 8 64 D ba [.ref (ad [i]), .int (nI v)] ad (PW i ad σ tl t lo o) (RPa i ad (addH σ v) o (some (.int (nI (cN σ))))) noX := by
  refine CT_of RX6 rfl (by decide +kernel) hl (Nat.le_of_ble_eq_true rfl) ?_
  intro p e s m args below meth c C hr hnm
  refine V_lvE (lv' := [(0, .ref (ad [i])), (1, .int (nI v))]) rfl ?_
  have hσ1 := hσ.1
  have hσ2 := hσ.2.1
  refine V_iload_n C dX6_addHall_0 1 rfl ?_
  refine V_callS C [.int (nI v)] dX6_addHall_1 m_X6_checkDamping k_X6_checkDamping tw_99 rfl rfl (Nat.le_of_ble_eq_true rfl) ⟨by omega, by omega, by omega, by omega⟩ (c_ckDamp_ok hl (by omega) _ hin) (kr_none ?_) kx_no
  refine V_aload_n C dX6_addHall_4 0 rfl ?_
  refine V_get (ci := 5) (k := 2) C dX6_addHall_5 RX6 RX6 TX6 8 fw_X6 rfl (by decide) tw_72 rfl rfl PW_b rfl ?_
  refine V_aload_n C dX6_addHall_8 0 rfl ?_
  refine V_get (ci := 5) (k := 0) C dX6_addHall_9 RX6 RX6 TX6 8 fw_X6 rfl (by decide) tw_70 rfl rfl PW_b rfl ?_
  refine V_alen (v := nI 8) C dX6_addHall_12 rfl PW_hr rfl ?_
  refine V_icmpn_lt (tgt := 26) C dX6_addHall_13 (by decide) (by omega) (by decide) (fun hb1 => ?_) (fun hb1 => by exfalso; omega)
  refine V_aload_n C dX6_addHall_26 0 rfl ?_
  refine V_get (ci := 5) (k := 2) C dX6_addHall_27 RX6 RX6 TX6 8 fw_X6 rfl (by decide) tw_72 rfl rfl PW_b rfl ?_
  refine V_istore_n C [(2, .int (nI (cN σ))), (0, .ref (ad [i])), (1, .int (nI v))] dX6_addHall_30 (by decide) rfl ?_
  refine V_aload_n C dX6_addHall_31 1 rfl ?_
  refine V_get (ci := 5) (k := 0) C dX6_addHall_32 RX6 RX6 TX6 8 fw_X6 rfl (by decide) tw_70 rfl rfl PW_b rfl ?_
  refine V_iload_n C dX6_addHall_35 0 rfl ?_
  refine V_new (ci := 0) (fs := [.null, .int 0, .int 0, .int 0, .int 0, .int 0]) C ([i, 6, cN σ]) dX6_addHall_36 RX0 TX0 6 tyX0 tyX0_ok fw_X0 rfl tw_25 tw_189 tw_11 (fun j hj => by rcases (show j = 0 ∨ j = 1 ∨ j = 2 ∨ j = 3 ∨ j = 4 ∨ j = 5 by omega) with rfl | rfl | rfl | rfl | rfl | rfl <;> rfl) (PW_hf (Nat.le_refl _)) (by omega) (by omega) (fun q1 => ?_)
  refine V_dup C dX6_addHall_39 rfl ?_
  refine V_iload_n C dX6_addHall_40 2 rfl ?_
  refine V_callIN C RX6 [.int (nI v)] dX6_addHall_41 m_X0_init k_X0_init tw_190 rfl rfl (Nat.le_of_ble_eq_true rfl) ⟨by omega, by omega, by omega, by omega⟩ (c_hInit' (LS := [i, 7, cN σ]) hl (by omega) aset_s.symm wset_s ((wset_n (by simp)).trans (PW_sf (Nat.le_refl _))) (by simp) v) ?_ kx_no
  rintro v2 ad2 w2 ⟨rfl, q2, rfl, rfl⟩
  refine V_stE (st' := [.ref q1, .int (nI (cN σ)), .ref (ad [i, 1])]) rfl ?_
  refine V_aastn (r := (RX0, TX0, 6)) C dX6_addHall_44 ((aset_n (by simp)).symm.trans (aset_n (by simp)).symm) ((wset_n (by simp)).trans ((wset_n (by simp)).trans ((wset_n (by simp)).trans PW_hr))) (aset_s.symm.trans (aset_n (by simp)).symm) wset_s rfl (by omega) (by decide) ?_
  refine V_wd (w' := wset (wset (wset (wset (PW i ad σ tl t lo o) ([i, 6, cN σ]) (.inr (0, [.null, .int 0, .int 0, .int 0, .int 0, .int 0]))) [i, 7, cN σ] (eQ RX4 6 (fun _ => none))) [i, 6, cN σ] (eHall q2 0 v 0 (-1) 0)) ([i, 1]) (eQ RX0 8 (va_up (adN (cN σ) (fun j => ad [i, 6, j])) (cN σ) (some q1)))) rfl ?_
  refine V_aload_n C dX6_addHall_45 1 rfl ?_
  refine V_dup C dX6_addHall_46 rfl ?_
  refine V_get (ci := 5) (k := 2) C dX6_addHall_47 RX6 RX6 TX6 8 fw_X6 rfl (by decide) tw_72 rfl ((aset_n (by simp)).symm.trans (aset_n (by simp)).symm) ((wset_n (by simp)).trans ((wset_n (by simp)).trans ((wset_n (by simp)).trans ((wset_n (by simp)).trans PW_b)))) rfl ?_
  refine V_iconst (v := nI 1) C dX6_addHall_50 (by decide) ?_
  refine V_iaddn C dX6_addHall_51 ?_
  refine V_put (ci := 5) (k := 2) C dX6_addHall_52 RX6 RX6 TX6 8 tyX6 tyX6_ok nmX6 fw_X6 rfl (by decide) tw_72 rfl (Or.inl rfl) rfl rfl ((aset_n (by simp)).symm.trans (aset_n (by simp)).symm) ((wset_n (by simp)).trans ((wset_n (by simp)).trans ((wset_n (by simp)).trans ((wset_n (by simp)).trans PW_b)))) (Nat.le_of_ble_eq_true rfl) ?_
  refine V_wd (w' := wset (wset (wset (wset (wset (PW i ad σ tl t lo o) ([i, 6, cN σ]) (.inr (0, [.null, .int 0, .int 0, .int 0, .int 0, .int 0]))) [i, 7, cN σ] (eQ RX4 6 (fun _ => none))) [i, 6, cN σ] (eHall q2 0 v 0 (-1) 0)) ([i, 1]) (eQ RX0 8 (va_up (adN (cN σ) (fun j => ad [i, 6, j])) (cN σ) (some q1)))) ([i]) (.inr (5, [.ref (ad [i, 1]), .ref (ad [i, 2]), .int (nI ((cN σ) + 1)), .int (nI (cK σ)), .int (cDay σ), .int (cIns σ), .ref (ad [i, 3]), .ref (ad [i, 4])]))) rfl ?_
  refine V_iload_n C dX6_addHall_55 0 rfl ?_
  exact V_iret C .int dX6_addHall_56 hr rfl ⟨rfl, ⟨fun k r hk => by simp [aset, hk], by simp [aset]⟩, _, _, _, PW_addH⟩ (by omega) (by omega)
set_option maxHeartbeats 4000000 in
theorem p_addSurface {l : Launch} {D : va_G} {ba d : Nat} {ad : Adr} (hl : l.stackTraces = false) (hd : 9 ≤ d) {i : Nat} {σ : CS} {tl : Int32} {t : TT} {lo : Nat → Int32} {o : Wd} (hσ : cOK σ) {j : Nat} (hj : j < cN σ) {a b : Nat} (ha : a ≤ 60) (hb : b ≤ 99) (hin1 : ¬ inR (nI a) (nI 1) (nI 60) = 0) (hin2 : ¬ inR (nI b) (nI 0) (nI 99) = 0) (h6 : hSc (cH σ j) < 6)  : CT l yX6_addSurface (wsO yX6_addSurface cX6_addSurface 5 (some .int)) d 8 64 D ba [.ref (ad [i]), .int (nI j), .int (nI a), .int (nI b)] ad (PW i ad σ tl t lo o) (RPa i ad (setH σ j (hSc (cH σ j) + 1, hDm (cH σ j), hDu (cH σ j), -1, 0, fup (hSu (cH σ j)) (hSc (cH σ j)) (b, a))) o (some (.int (nI (hSc (cH σ j)))))) noX := by
  refine CT_of RX6 rfl (by decide +kernel) hl (Nat.le_of_ble_eq_true rfl) ?_
  intro p e s m args below meth c C hr hnm
  refine V_lvE (lv' := [(0, .ref (ad [i])), (1, .int (nI j)), (2, .int (nI a)), (3, .int (nI b))]) rfl ?_
  have hσ1 := hσ.1
  have hσ2 := hσ.2.1
  have hu := hσ.2.2.1 j hj
  have hu1 := hu.1
  have hu2 := hu.2.1
  have hu3 := hu.2.2.1
  have hu4 := hu.2.2.2.1
  refine V_aload_n C dX6_addSurface_0 0 rfl ?_
  refine V_iload_n C dX6_addSurface_1 1 rfl ?_
  refine V_callV (r := (RX6, TX6, 8)) C [.int (nI j)] dX6_addSurface_2 m_X6_findHall k_X6_findHall tw_225 rfl rfl rfl PW_b rfl rfl (Nat.le_of_ble_eq_true rfl) ⟨by omega, by omega, by omega, by omega⟩ (c_findHall hl (by omega) hσ hj) (kr_some (x := .ref (ad [i, 6, j])) ?_) kx_no
  refine V_astore C [(4, .ref (ad [i, 6, j])), (0, .ref (ad [i])), (1, .int (nI j)), (2, .int (nI a)), (3, .int (nI b))] dX6_addSurface_5 (by decide) rfl ?_
  refine V_iload_n C dX6_addSurface_7 3 rfl ?_
  refine V_callS C [.int (nI a)] dX6_addSurface_8 m_X6_checkDistance k_X6_checkDistance tw_246 rfl rfl (Nat.le_of_ble_eq_true rfl) ⟨by omega, by omega, by omega, by omega⟩ (c_ckDist_ok hl (by omega) _ hin1) (kr_none ?_) kx_no
  refine V_iload_n C dX6_addSurface_11 4 rfl ?_
  refine V_iconst (v := nI 0) C dX6_addSurface_12 (by decide) ?_
  refine V_bipush (v := nI 99) C dX6_addSurface_13 (by decide) ?_
  have hin15 := inR_le (nI b) (nI 0) (nI 99)
  refine V_callS C [.int (nI b), .int (nI 0), .int (nI 99)] dX6_addSurface_15 m_X6_isWithin k_X6_isWithin tw_102 rfl rfl (Nat.le_of_ble_eq_true rfl) ⟨by omega, by omega, by omega, by omega⟩ (c_isWithin hl (by omega) (nI b) (nI 0) (nI 99)) (kr_some (x := .int (nI (inR (nI b) (nI 0) (nI 99)))) ?_) kx_no
  refine V_ifn_ne (tgt := 31) C dX6_addSurface_18 (by decide) (by omega) (fun hb1 => ?_) (fun hb1 => by exfalso; exact hin2 hb1)
  refine V_aload C dX6_addSurface_31 0 rfl ?_
  refine V_callVN (r := (RX0, TX0, 6)) C RX6 [] dX6_addSurface_33 m_X0_isFull k_X0_isFull tw_251 rfl rfl rfl (PW_h hj) rfl rfl (Nat.le_of_ble_eq_true rfl) ⟨by omega, by omega, by omega, by omega⟩ (c_isFull hl (by omega) (PW_h hj) (PW_hs hj) hu1) (kr_some (x := .int (nI (if hSc (cH σ j) < 6 then 0 else 1))) ?_) kx_no
  have hle6 : (if hSc (cH σ j) < 6 then 0 else 1) ≤ 1 := by split <;> omega
  refine V_ifn_eq (tgt := 49) C dX6_addSurface_36 (by decide) (by omega) (fun hb2 => ?_) (fun hb2 => by exfalso; rw [if_pos h6] at hb2; omega)
  refine V_aload C dX6_addSurface_49 0 rfl ?_
  refine V_callVN (r := (RX0, TX0, 6)) C RX6 [] dX6_addSurface_51 m_X0_loseCertificate k_X0_loseCertificate tw_256 rfl rfl rfl (PW_h hj) rfl rfl (Nat.le_of_ble_eq_true rfl) ⟨by omega, by omega, by omega, by omega⟩ (c_loseCert hl (by omega) (PW_h hj)) (kr_none ?_) kx_no
  refine V_wd (w' := wset (PW i ad σ tl t lo o) ([i, 6, j]) (.inr (0, [.ref (ad [i, 7, j]), .int (nI (hSc (cH σ j))), .int (nI (hDm (cH σ j))), .int (nI (hDu (cH σ j))), .int (-1), .int (nI 0)]))) rfl ?_
  refine V_aload C dX6_addSurface_54 0 rfl ?_
  refine V_new (ci := 3) (fs := [.int 0, .int 0]) C ([i, 8, j, hSc (cH σ j)]) dX6_addSurface_56 RX4 TX4 2 tyX4 tyX4_ok fw_X4 rfl tw_260 tw_261 tw_13 (fun j hj => by rcases (show j = 0 ∨ j = 1 by omega) with rfl | rfl <;> rfl) ((wset_n (by simp)).trans (PW_uf (Nat.le_refl _))) (by omega) (by omega) (fun q1 => ?_)
  refine V_dup C dX6_addSurface_59 rfl ?_
  refine V_iload_n C dX6_addSurface_60 3 rfl ?_
  refine V_iload_n C dX6_addSurface_61 4 rfl ?_
  refine V_callIN C RX6 [.int (nI a), .int (nI b)] dX6_addSurface_62 m_X4_init k_X4_init tw_262 rfl rfl (Nat.le_of_ble_eq_true rfl) ⟨by omega, by omega, by omega, by omega⟩ (c_sInit' hl (by omega) aset_s.symm wset_s a b) (kr_none ?_) kx_no
  refine V_wd (w' := wset (wset (PW i ad σ tl t lo o) ([i, 6, j]) (.inr (0, [.ref (ad [i, 7, j]), .int (nI (hSc (cH σ j))), .int (nI (hDm (cH σ j))), .int (nI (hDu (cH σ j))), .int (-1), .int (nI 0)]))) ([i, 8, j, hSc (cH σ j)]) (.inr (3, [.int (nI b), .int (nI a)]))) wset_wset ?_
  refine V_callVN (r := (RX0, TX0, 6)) C RX6 [.ref q1] dX6_addSurface_65 m_X0_build k_X0_build tw_274 (aset_n (by simp)).symm rfl rfl ((wset_n (by simp)).trans wset_s) rfl rfl (Nat.le_of_ble_eq_true rfl) ⟨by omega, by omega, by omega, by omega⟩ (c_build' (LH := [i, 6, j]) (LS := [i, 7, j]) hl (by omega) (aset_n (by simp)).symm aset_s.symm (aset_n (by simp)).symm ((wset_n (by simp)).trans wset_s) ((wset_n (by simp)).trans ((wset_n (by simp)).trans (PW_hs hj))) wset_s (by simp) (by simp) (by simp) h6) (kr_some (x := .int (nI (hSc (cH σ j)))) ?_) kx_no
  exact V_iret C .int dX6_addSurface_68 hr rfl ⟨rfl, ⟨fun k r hk => by simp [aset, hk], by simp [aset]⟩, _, _, _, PW_addS hj⟩ (by omega) (by omega)
set_option maxHeartbeats 4000000 in
theorem p_addStd {l : Launch} {D : va_G} {ba d : Nat} {ad : Adr} (hl : l.stackTraces = false) (hd : 9 ≤ d) {i : Nat} {σ : CS} {tl : Int32} {t : TT} {lo : Nat → Int32} {o : Wd} (hσ : cOK σ) {ea li mo lt dy : Nat} (h_ea : ea ≤ 500) (h_li : li ≤ 1000) (h_mo : mo ≤ 99) (h_lt : lt ≤ 3000) (h_dy : dy ≤ 100) (g_ea : ¬ inR (nI ea) (nI 0) (nI 500) = 0) (g_li : ¬ inR (nI li) (nI 1) (nI 1000) = 0) (g_mo : ¬ inR (nI mo) (nI 0) (nI 99) = 0) (g_lt : ¬ inR (nI lt) (nI 0) (nI 3000) = 0) (g_dy : ¬ inR (nI dy) (nI 1) (nI 100) = 0) (h5 : cK σ < 5)  : CT l yX6_addStandard (wsO yX6_addStandard cX6_addStandard 8 (some .int)) d 8 64 D ba [.ref (ad [i]), .int (nI ea), .int (nI li), .int (nI mo), .int (nI lt), .int (nI dy)] ad (PW i ad σ tl t lo o) (RPa i ad (addD σ (ea, li, mo, lt, dy)) o (some (.int (nI (cK σ))))) noX := by
  refine CT_of RX6 rfl (by decide +kernel) hl (Nat.le_of_ble_eq_true rfl) ?_
  intro p e s m args below meth c C hr hnm
  refine V_lvE (lv' := [(0, .ref (ad [i])), (1, .int (nI ea)), (2, .int (nI li)), (3, .int (nI mo)), (4, .int (nI lt)), (5, .int (nI dy))]) rfl ?_
  have hσ1 := hσ.1
  have hσ2 := hσ.2.1
  refine V_iload_n C dX6_addStandard_0 1 rfl ?_
  refine V_iconst (v := nI 0) C dX6_addStandard_1 (by decide) ?_
  refine V_sipush (v := nI 500) C dX6_addStandard_2 (by decide) ?_
  have hin5 := inR_le (nI ea) (nI 0) (nI 500)
  refine V_callS C [.int (nI ea), .int (nI 0), .int (nI 500)] dX6_addStandard_5 m_X6_isWithin k_X6_isWithin tw_102 rfl rfl (Nat.le_of_ble_eq_true rfl) ⟨by omega, by omega, by omega, by omega⟩ (c_isWithin hl (by omega) (nI ea) (nI 0) (nI 500)) (kr_some (x := .int (nI (inR (nI ea) (nI 0) (nI 500)))) ?_) kx_no
  refine V_ifn_eq (tgt := 59) C dX6_addStandard_8 (by decide) (by omega) (fun hb1 => by exfalso; exact g_ea hb1) (fun hb1 => ?_)
  refine V_iload_n C dX6_addStandard_11 2 rfl ?_
  refine V_iconst (v := nI 1) C dX6_addStandard_12 (by decide) ?_
  refine V_sipush (v := nI 1000) C dX6_addStandard_13 (by decide) ?_
  have hin16 := inR_le (nI li) (nI 1) (nI 1000)
  refine V_callS C [.int (nI li), .int (nI 1), .int (nI 1000)] dX6_addStandard_16 m_X6_isWithin k_X6_isWithin tw_102 rfl rfl (Nat.le_of_ble_eq_true rfl) ⟨by omega, by omega, by omega, by omega⟩ (c_isWithin hl (by omega) (nI li) (nI 1) (nI 1000)) (kr_some (x := .int (nI (inR (nI li) (nI 1) (nI 1000)))) ?_) kx_no
  refine V_ifn_eq (tgt := 59) C dX6_addStandard_19 (by decide) (by omega) (fun hb2 => by exfalso; exact g_li hb2) (fun hb2 => ?_)
  refine V_iload_n C dX6_addStandard_22 3 rfl ?_
  refine V_iconst (v := nI 0) C dX6_addStandard_23 (by decide) ?_
  refine V_bipush (v := nI 99) C dX6_addStandard_24 (by decide) ?_
  have hin26 := inR_le (nI mo) (nI 0) (nI 99)
  refine V_callS C [.int (nI mo), .int (nI 0), .int (nI 99)] dX6_addStandard_26 m_X6_isWithin k_X6_isWithin tw_102 rfl rfl (Nat.le_of_ble_eq_true rfl) ⟨by omega, by omega, by omega, by omega⟩ (c_isWithin hl (by omega) (nI mo) (nI 0) (nI 99)) (kr_some (x := .int (nI (inR (nI mo) (nI 0) (nI 99)))) ?_) kx_no
  refine V_ifn_eq (tgt := 59) C dX6_addStandard_29 (by decide) (by omega) (fun hb3 => by exfalso; exact g_mo hb3) (fun hb3 => ?_)
  refine V_iload C dX6_addStandard_32 4 rfl ?_
  refine V_iconst (v := nI 0) C dX6_addStandard_34 (by decide) ?_
  refine V_sipush (v := nI 3000) C dX6_addStandard_35 (by decide) ?_
  have hin38 := inR_le (nI lt) (nI 0) (nI 3000)
  refine V_callS C [.int (nI lt), .int (nI 0), .int (nI 3000)] dX6_addStandard_38 m_X6_isWithin k_X6_isWithin tw_102 rfl rfl (Nat.le_of_ble_eq_true rfl) ⟨by omega, by omega, by omega, by omega⟩ (c_isWithin hl (by omega) (nI lt) (nI 0) (nI 3000)) (kr_some (x := .int (nI (inR (nI lt) (nI 0) (nI 3000)))) ?_) kx_no
  refine V_ifn_eq (tgt := 59) C dX6_addStandard_41 (by decide) (by omega) (fun hb4 => by exfalso; exact g_lt hb4) (fun hb4 => ?_)
  refine V_iload C dX6_addStandard_44 5 rfl ?_
  refine V_iconst (v := nI 1) C dX6_addStandard_46 (by decide) ?_
  refine V_bipush (v := nI 100) C dX6_addStandard_47 (by decide) ?_
  have hin49 := inR_le (nI dy) (nI 1) (nI 100)
  refine V_callS C [.int (nI dy), .int (nI 1), .int (nI 100)] dX6_addStandard_49 m_X6_isWithin k_X6_isWithin tw_102 rfl rfl (Nat.le_of_ble_eq_true rfl) ⟨by omega, by omega, by omega, by omega⟩ (c_isWithin hl (by omega) (nI dy) (nI 1) (nI 100)) (kr_some (x := .int (nI (inR (nI dy) (nI 1) (nI 100)))) ?_) kx_no
  refine V_ifn_eq (tgt := 59) C dX6_addStandard_52 (by decide) (by omega) (fun hb5 => by exfalso; exact g_dy hb5) (fun hb5 => ?_)
  refine V_iconst (v := nI 1) C dX6_addStandard_55 (by decide) ?_
  refine V_goto (tgt := 60) C dX6_addStandard_56 (by decide) ?_
  refine V_istore C [(6, .int (nI 1)), (0, .ref (ad [i])), (1, .int (nI ea)), (2, .int (nI li)), (3, .int (nI mo)), (4, .int (nI lt)), (5, .int (nI dy))] dX6_addStandard_60 (by decide) rfl ?_
  refine V_iload C dX6_addStandard_62 0 rfl ?_
  refine V_ifn_ne (tgt := 77) C dX6_addStandard_64 (by decide) (by decide) (fun hb6 => ?_) (fun hb6 => by exfalso; omega)
  refine V_aload_n C dX6_addStandard_77 1 rfl ?_
  refine V_get (ci := 5) (k := 3) C dX6_addStandard_78 RX6 RX6 TX6 8 fw_X6 rfl (by decide) tw_73 rfl rfl PW_b rfl ?_
  refine V_aload_n C dX6_addStandard_81 1 rfl ?_
  refine V_get (ci := 5) (k := 1) C dX6_addStandard_82 RX6 RX6 TX6 8 fw_X6 rfl (by decide) tw_71 rfl rfl PW_b rfl ?_
  refine V_alen (v := nI 5) C dX6_addStandard_85 rfl PW_sr rfl ?_
  refine V_icmpn_lt (tgt := 99) C dX6_addStandard_86 (by decide) (by omega) (by decide) (fun hb7 => ?_) (fun hb7 => by exfalso; omega)
  refine V_aload_n C dX6_addStandard_99 1 rfl ?_
  refine V_get (ci := 5) (k := 3) C dX6_addStandard_100 RX6 RX6 TX6 8 fw_X6 rfl (by decide) tw_73 rfl rfl PW_b rfl ?_
  refine V_istore C [(7, .int (nI (cK σ))), (6, .int (nI 1)), (0, .ref (ad [i])), (1, .int (nI ea)), (2, .int (nI li)), (3, .int (nI mo)), (4, .int (nI lt)), (5, .int (nI dy))] dX6_addStandard_103 (by decide) rfl ?_
  refine V_aload_n C dX6_addStandard_105 2 rfl ?_
  refine V_get (ci := 5) (k := 1) C dX6_addStandard_106 RX6 RX6 TX6 8 fw_X6 rfl (by decide) tw_71 rfl rfl PW_b rfl ?_
  refine V_iload C dX6_addStandard_109 0 rfl ?_
  refine V_new (ci := 2) (fs := [.int 0, .int 0, .int 0, .int 0, .int 0]) C ([i, 9, cK σ]) dX6_addStandard_111 RX3 TX3 5 tyX3 tyX3_ok fw_X3 rfl tw_27 tw_408 tw_14 (fun j hj => by rcases (show j = 0 ∨ j = 1 ∨ j = 2 ∨ j = 3 ∨ j = 4 by omega) with rfl | rfl | rfl | rfl | rfl <;> rfl) (PW_df (Nat.le_refl _)) (by omega) (by omega) (fun q1 => ?_)
  refine V_dup C dX6_addStandard_114 rfl ?_
  refine V_iload_n C dX6_addStandard_115 3 rfl ?_
  refine V_iload_n C dX6_addStandard_116 4 rfl ?_
  refine V_iload_n C dX6_addStandard_117 5 rfl ?_
  refine V_iload C dX6_addStandard_118 6 rfl ?_
  refine V_iload C dX6_addStandard_120 7 rfl ?_
  refine V_callIN C RX6 [.int (nI ea), .int (nI li), .int (nI mo), .int (nI lt), .int (nI dy)] dX6_addStandard_122 m_X3_init k_X3_init tw_578 rfl rfl (Nat.le_of_ble_eq_true rfl) ⟨by omega, by omega, by omega, by omega⟩ (c_dInit' hl (by omega) aset_s.symm wset_s ea li mo lt dy) (kr_none ?_) kx_no
  refine V_wd (w' := wset (PW i ad σ tl t lo o) ([i, 9, cK σ]) (.inr (2, [.int (nI ea), .int (nI li), .int (nI mo), .int (nI lt), .int (nI dy)]))) wset_wset ?_
  refine V_aastn (r := (RX3, TX3, 5)) C dX6_addStandard_125 (aset_n (by simp)).symm ((wset_n (by simp)).trans PW_sr) aset_s.symm wset_s rfl (by omega) (by decide) ?_
  refine V_wd (w' := wset (wset (PW i ad σ tl t lo o) ([i, 9, cK σ]) (.inr (2, [.int (nI ea), .int (nI li), .int (nI mo), .int (nI lt), .int (nI dy)]))) ([i, 2]) (eQ RX3 5 (va_up (adN (cK σ) (fun j => ad [i, 9, j])) (cK σ) (some q1)))) rfl ?_
  refine V_aload_n C dX6_addStandard_126 2 rfl ?_
  refine V_dup C dX6_addStandard_127 rfl ?_
  refine V_get (ci := 5) (k := 3) C dX6_addStandard_128 RX6 RX6 TX6 8 fw_X6 rfl (by decide) tw_73 rfl (aset_n (by simp)).symm ((wset_n (by simp)).trans ((wset_n (by simp)).trans PW_b)) rfl ?_
  refine V_iconst (v := nI 1) C dX6_addStandard_131 (by decide) ?_
  refine V_iaddn C dX6_addStandard_132 ?_
  refine V_put (ci := 5) (k := 3) C dX6_addStandard_133 RX6 RX6 TX6 8 tyX6 tyX6_ok nmX6 fw_X6 rfl (by decide) tw_73 rfl (Or.inl rfl) rfl rfl (aset_n (by simp)).symm ((wset_n (by simp)).trans ((wset_n (by simp)).trans PW_b)) (Nat.le_of_ble_eq_true rfl) ?_
  refine V_wd (w' := wset (wset (wset (PW i ad σ tl t lo o) ([i, 9, cK σ]) (.inr (2, [.int (nI ea), .int (nI li), .int (nI mo), .int (nI lt), .int (nI dy)]))) ([i, 2]) (eQ RX3 5 (va_up (adN (cK σ) (fun j => ad [i, 9, j])) (cK σ) (some q1)))) ([i]) (.inr (5, [.ref (ad [i, 1]), .ref (ad [i, 2]), .int (nI (cN σ)), .int (nI ((cK σ) + 1)), .int (cDay σ), .int (cIns σ), .ref (ad [i, 3]), .ref (ad [i, 4])]))) rfl ?_
  refine V_iload C dX6_addStandard_136 0 rfl ?_
  exact V_iret C .int dX6_addStandard_138 hr rfl ⟨rfl, ⟨fun k r hk => by simp [aset, hk], by simp [aset]⟩, _, _, _, PW_addD⟩ (by omega) (by omega)
end
section

abbrev cs0 : CS := (0, 0, 0, 0, fun _ => (0, 0, 0, -1, 0, fun _ => (0, 0)), fun _ => (0, 0, 0, 0, 0))
theorem cs0_ok : cOK cs0 := ⟨by decide, by decide, fun j hj => absurd hj (Nat.not_lt_zero j), fun j hj => absurd hj (Nat.not_lt_zero j)⟩
abbrev keeps (i : Nat) (ad ad' : Adr) : Prop := (∀ k r, k ≠ i → ad' (k :: r) = ad (k :: r)) ∧ ad' [i] = ad [i]
theorem PW_new {i : Nat} {ad : Adr} {o : Wd} {q1 q2 q3 q4 q5 : Nat} {E0 E1 E2 E3 E4 : Ent} : wset (wset (wset (wset (wset (wset (wset (wset (wset (wset (wset (put i (fun _ => none) o) [i] E0) [i, 1] (eQ RX0 8 (fun _ => none))) [i] E1) [i, 2] (eQ RX3 5 (fun _ => none))) [i] E2) [i, 3] (.inr (4, [.int 0, .int 0, .int 0, .int 0, .int 0]))) [i] E3) [i, 4] E4) [i, 5] (eI 501 (fun _ => 0))) [i, 4] (.inr (1, [.ref q5]))) [i] (.inr (5, [.ref q1, .ref q2, .int 0, .int 0, .int 0, .int 0, .ref q3, .ref q4])) = PW i (aset (aset (aset (aset (aset ad [i, 1] q1) [i, 2] q2) [i, 3] q3) [i, 4] q4) [i, 5] q5) cs0 0 (0, 0, 0, 0) (fun _ => 0) o := by
  simp only [put_wset]
  congr 1
  funext L
  rcases L with _ | ⟨c, _ | ⟨j, _ | ⟨k, _ | ⟨x, y⟩⟩⟩⟩
  · simp [wset, WC, aset]; rfl
  · by_cases h1 : c = 1
    · subst h1; simp [wset, WC, aset]; funext j; simp [adN]; exact Nat.zero_le _
    by_cases h2 : c = 2
    · subst h2; simp [wset, WC, aset]; funext j; simp [adN]; exact Nat.zero_le _
    by_cases h3 : c = 3
    · subst h3; simp [wset, WC, aset]
    by_cases h4 : c = 4
    · subst h4; simp [wset, WC, aset]
    by_cases h5 : c = 5
    · subst h5; simp [wset, WC, aset]
    simp [wset, WC, h1, h2, h3, h4, h5]
  · simp [wset, WC, show ∀ j, ¬ j < cN cs0 from fun j => Nat.not_lt_zero j, show ∀ j, ¬ j < cK cs0 from fun j => Nat.not_lt_zero j]
  · have h9 : ¬ (j < cN cs0 ∧ k < hSc (cH cs0 j)) := fun z => absurd z.1 (Nat.not_lt_zero j)
    simp only [wset, WC, if_neg h9]; simp
  · simp [wset, WC]
set_option maxHeartbeats 4000000 in
theorem p_init {l : Launch} {D : va_G} {ba d : Nat} {ad : Adr} (hl : l.stackTraces = false) (hd : 2 ≤ d) {i : Nat} {o : Wd} : CT l yX6_init (wsO yX6_init cX6_init 1 none) d 8 600 D ba [.ref (ad [i])] ad (wset (put i (fun _ => none) o) [i] (.inr (5, [.null, .null, .int 0, .int 0, .int 0, .int 0, .null, .null]))) (fun v ad' w' => v = none ∧ keeps i ad ad' ∧ w' = PW i ad' cs0 0 (0, 0, 0, 0) (fun _ => 0) o) noX := by
  refine CT_of RX6 rfl (by decide +kernel) hl (Nat.le_of_ble_eq_true rfl) ?_
  intro p e s m args below meth c C hr hnm
  refine V_lvE (lv' := [(0, .ref (ad [i]))]) rfl ?_
  refine V_aload_n C dX6_init_0 0 rfl ?_
  refine V_obj C dX6_init_1 tw_22 tw_23 tw_24 (by omega) (by simp [Value.category]; try omega) ?_
  refine V_aload_n C dX6_init_4 0 rfl ?_
  refine V_bipush (v := nI 8) C dX6_init_5 (by decide) ?_
  refine V_newQ (N := 8) C ([i, 1]) RX0 dX6_init_7 tw_25 tw_26 (by decide) (by decide) (by decide) ((wset_n (by simp)).trans put_s) (by omega) (by omega) (fun q1 => ?_)
  refine V_put (ci := 5) (k := 0) C dX6_init_10 RX6 RX6 TX6 8 tyX6 tyX6_ok nmX6 fw_X6 rfl (by decide) tw_70 rfl (Or.inr ⟨rfl, hnm, rfl⟩) rfl rfl (aset_n (by simp)).symm ((wset_n (by simp)).trans wset_s) (Nat.le_of_ble_eq_true rfl) ?_
  refine V_wd (w' := wset (wset (wset (put i (fun _ => none) o) [i] (.inr (5, [.null, .null, .int 0, .int 0, .int 0, .int 0, .null, .null]))) ([i, 1]) (eQ RX0 8 (fun _ => none))) ([i]) (.inr (5, [.ref q1, .null, .int 0, .int 0, .int 0, .int 0, .null, .null]))) rfl ?_
  refine V_aload_n C dX6_init_13 0 rfl ?_
  refine V_iconst (v := nI 5) C dX6_init_14 (by decide) ?_
  refine V_newQ (N := 5) C ([i, 2]) RX3 dX6_init_15 tw_27 tw_28 (by decide) (by decide) (by decide) ((wset_n (by simp)).trans ((wset_n (by simp)).trans ((wset_n (by simp)).trans put_s))) (by omega) (by omega) (fun q2 => ?_)
  refine V_put (ci := 5) (k := 1) C dX6_init_18 RX6 RX6 TX6 8 tyX6 tyX6_ok nmX6 fw_X6 rfl (by decide) tw_71 rfl (Or.inr ⟨rfl, hnm, rfl⟩) rfl rfl ((aset_n (by simp)).symm.trans (aset_n (by simp)).symm) ((wset_n (by simp)).trans wset_s) (Nat.le_of_ble_eq_true rfl) ?_
  refine V_wd (w' := wset (wset (wset (wset (wset (put i (fun _ => none) o) [i] (.inr (5, [.null, .null, .int 0, .int 0, .int 0, .int 0, .null, .null]))) ([i, 1]) (eQ RX0 8 (fun _ => none))) ([i]) (.inr (5, [.ref q1, .null, .int 0, .int 0, .int 0, .int 0, .null, .null]))) ([i, 2]) (eQ RX3 5 (fun _ => none))) ([i]) (.inr (5, [.ref q1, .ref q2, .int 0, .int 0, .int 0, .int 0, .null, .null]))) rfl ?_
  refine V_aload_n C dX6_init_21 0 rfl ?_
  refine V_new (ci := 4) (fs := [.int 0, .int 0, .int 0, .int 0, .int 0]) C ([i, 3]) dX6_init_22 RX5 TX5 5 tyX5 tyX5_ok fw_X5 rfl tw_29 tw_30 tw_2 (fun j hj => by rcases (show j = 0 ∨ j = 1 ∨ j = 2 ∨ j = 3 ∨ j = 4 by omega) with rfl | rfl | rfl | rfl | rfl <;> rfl) ((wset_n (by simp)).trans ((wset_n (by simp)).trans ((wset_n (by simp)).trans ((wset_n (by simp)).trans ((wset_n (by simp)).trans put_s))))) (by omega) (by omega) (fun q3 => ?_)
  refine V_dup C dX6_init_25 rfl ?_
  refine V_callIN C RX6 [] dX6_init_26 m_X5_init k_X5_init tw_31 rfl rfl (Nat.le_of_ble_eq_true rfl) ⟨by omega, by omega, by omega, by omega⟩ (c_tInit hl (by omega) q3) (kr_none ?_) kx_no
  refine V_put (ci := 5) (k := 6) C dX6_init_29 RX6 RX6 TX6 8 tyX6 tyX6_ok nmX6 fw_X6 rfl (by decide) tw_76 rfl (Or.inr ⟨rfl, hnm, rfl⟩) rfl rfl (((aset_n (by simp)).symm.trans (aset_n (by simp)).symm).trans (aset_n (by simp)).symm) ((wset_n (by simp)).trans wset_s) (Nat.le_of_ble_eq_true rfl) ?_
  refine V_wd (w' := wset (wset (wset (wset (wset (wset (wset (put i (fun _ => none) o) [i] (.inr (5, [.null, .null, .int 0, .int 0, .int 0, .int 0, .null, .null]))) ([i, 1]) (eQ RX0 8 (fun _ => none))) ([i]) (.inr (5, [.ref q1, .null, .int 0, .int 0, .int 0, .int 0, .null, .null]))) ([i, 2]) (eQ RX3 5 (fun _ => none))) ([i]) (.inr (5, [.ref q1, .ref q2, .int 0, .int 0, .int 0, .int 0, .null, .null]))) ([i, 3]) (.inr (4, [.int 0, .int 0, .int 0, .int 0, .int 0]))) ([i]) (.inr (5, [.ref q1, .ref q2, .int 0, .int 0, .int 0, .int 0, .ref q3, .null]))) rfl ?_
  refine V_aload_n C dX6_init_32 0 rfl ?_
  refine V_new (ci := 1) (fs := [.null]) C ([i, 4]) dX6_init_33 RX2 TX2 1 tyX2 tyX2_ok fw_X2 rfl tw_59 tw_60 tw_3 (fun j hj => by rcases (show j = 0 by omega) with rfl <;> rfl) ((wset_n (by simp)).trans ((wset_n (by simp)).trans ((wset_n (by simp)).trans ((wset_n (by simp)).trans ((wset_n (by simp)).trans ((wset_n (by simp)).trans ((wset_n (by simp)).trans put_s))))))) (by omega) (by omega) (fun q4 => ?_)
  refine V_dup C dX6_init_36 rfl ?_
  refine V_callIN C RX6 [] dX6_init_37 m_X2_init k_X2_init tw_61 rfl rfl (Nat.le_of_ble_eq_true rfl) ⟨by omega, by omega, by omega, by omega⟩ (c_lInit' (LA := [i, 5]) hl (by omega) aset_s.symm wset_s ((wset_n (by simp)).trans ((wset_n (by simp)).trans ((wset_n (by simp)).trans ((wset_n (by simp)).trans ((wset_n (by simp)).trans ((wset_n (by simp)).trans ((wset_n (by simp)).trans ((wset_n (by simp)).trans put_s)))))))) (by simp)) ?_ kx_no
  rintro v2 ad2 w2 ⟨rfl, q5, rfl, rfl⟩
  refine V_stE (st' := [.ref q4, .ref (ad [i])]) rfl ?_
  refine V_put (ci := 5) (k := 7) C dX6_init_40 RX6 RX6 TX6 8 tyX6 tyX6_ok nmX6 fw_X6 rfl (by decide) tw_77 rfl (Or.inr ⟨rfl, hnm, rfl⟩) rfl rfl (((((aset_n (by simp)).symm.trans (aset_n (by simp)).symm).trans (aset_n (by simp)).symm).trans (aset_n (by simp)).symm).trans (aset_n (by simp)).symm) ((wset_n (by simp)).trans ((wset_n (by simp)).trans ((wset_n (by simp)).trans wset_s))) (Nat.le_of_ble_eq_true rfl) ?_
  refine V_wd (w' := wset (wset (wset (wset (wset (wset (wset (wset (wset (wset (wset (put i (fun _ => none) o) [i] (.inr (5, [.null, .null, .int 0, .int 0, .int 0, .int 0, .null, .null]))) ([i, 1]) (eQ RX0 8 (fun _ => none))) ([i]) (.inr (5, [.ref q1, .null, .int 0, .int 0, .int 0, .int 0, .null, .null]))) ([i, 2]) (eQ RX3 5 (fun _ => none))) ([i]) (.inr (5, [.ref q1, .ref q2, .int 0, .int 0, .int 0, .int 0, .null, .null]))) ([i, 3]) (.inr (4, [.int 0, .int 0, .int 0, .int 0, .int 0]))) ([i]) (.inr (5, [.ref q1, .ref q2, .int 0, .int 0, .int 0, .int 0, .ref q3, .null]))) ([i, 4]) (.inr (1, [.null]))) [i, 5] (eI 501 (fun _ => 0))) [i, 4] (.inr (1, [.ref q5]))) ([i]) (.inr (5, [.ref q1, .ref q2, .int 0, .int 0, .int 0, .int 0, .ref q3, .ref q4]))) rfl ?_
  exact V_vret C dX6_init_43 hr ⟨rfl, ⟨fun k r hk => by simp [aset, hk], by simp [aset]⟩, PW_new⟩ (by omega) (by omega)
end
section
/-! ===== rows for the law's own objects: rows of int rows, renaming, shifts, constants ===== -/
section ER
variable {p : Program} {l : Launch} {e : Env} {s : State} {m : MethodId} {args : Array Value} {below : List Frame} {meth : Method} {c : Code} {D : va_G} {ba : Nat} {d mc ms : Nat} {Q : State → Prop} {nL : Nat} {ad : Adr} {w : Wd} {pc : Nat} {lv : List (Nat × Value)} {rest : List Value} {cells slots : Nat}
variable {own : String} {cc : ByteArray} {tb : List ExceptionTableEntry}
variable {QR : Option Value → Adr → Wd → Prop} {QX : String → Adr → Wd → Prop}
theorem Mem.map {ad2 : Adr} {w2 : Wd} {H : Heap} (φ : Lab → Lab) (h : Mem D ba s ad w H) (hw : ∀ L e, w2 L = some e → w (φ L) = some e ∧ ad2 L = ad (φ L)) (hi : ∀ L L', w2 L ≠ none → w2 L' ≠ none → φ L = φ L' → L = L') : Mem D ba s ad2 w2 H := by
  refine ⟨fun L e hL => ?_, fun L1 L2 h1 h2 h3 => ?_⟩
  · obtain ⟨g1, g2⟩ := hw L e hL
    rw [g2]; exact h.1 _ _ g1
  · cases q1 : w2 L1 with
    | none => exact absurd q1 h1
    | some e1 =>
      cases q2 : w2 L2 with
      | none => exact absurd q2 h2
      | some e2 =>
        obtain ⟨g1, g2⟩ := hw L1 e1 q1
        obtain ⟨g3, g4⟩ := hw L2 e2 q2
        refine hi L1 L2 h1 h2 (h.2 _ _ (by rw [g1]; exact fun z => nomatch z) (by rw [g3]; exact fun z => nomatch z) (by rw [← g2, ← g4]; exact h3))
theorem V_map {ad2 : Adr} {w2 : Wd} (φ : Lab → Lab) (hw : ∀ L e, w2 L = some e → w (φ L) = some e ∧ ad2 L = ad (φ L)) (hi : ∀ L L', w2 L ≠ none → w2 L' ≠ none → φ L = φ L' → L = L') (k : V p l e s m args below meth c D ba d mc ms Q nL ad2 w2 pc lv rest cells slots) : V p l e s m args below meth c D ba d mc ms Q nL ad w pc lv rest cells slots := fun H locs ls hM hS hl => k H locs ls (hM.map φ hw hi) hS hl
/-- what was named B is named A, and what was named A is forgotten -/
def wren (w : Wd) (A B : Lab) : Wd := fun L => if L = B then none else if L = A then w B else w L
theorem V_ren {A B : Lab} (hne : A ≠ B) (k : V p l e s m args below meth c D ba d mc ms Q nL (aset ad A (ad B)) (wren w A B) pc lv rest cells slots) : V p l e s m args below meth c D ba d mc ms Q nL ad w pc lv rest cells slots := by
  refine V_map (fun L => if L = A then B else L) (fun L e hL => ?_) (fun L L' h1 h2 h3 => ?_) k
  · unfold wren at hL
    by_cases h1 : L = B
    · rw [if_pos h1] at hL; cases hL
    · rw [if_neg h1] at hL
      by_cases h2 : L = A
      · subst h2
        rw [if_pos rfl] at hL
        exact ⟨by rw [if_pos rfl]; exact hL, by rw [if_pos rfl]; exact aset_s⟩
      · rw [if_neg h2] at hL
        exact ⟨by rw [if_neg h2]; exact hL, by rw [if_neg h2]; exact aset_n h2⟩
  · have n1 : L ≠ B := fun z => h1 (by unfold wren; rw [if_pos z])
    have n2 : L' ≠ B := fun z => h2 (by unfold wren; rw [if_pos z])
    show L = L'
    by_cases q1 : L = A <;> by_cases q2 : L' = A
    · rw [q1, q2]
    · simp only [if_pos q1, if_neg q2] at h3; exact absurd h3.symm n2
    · simp only [if_neg q1, if_pos q2] at h3; exact absurd h3 n1
    · simp only [if_neg q1, if_neg q2] at h3; exact h3
/-- B is forgotten -/
def wdel (w : Wd) (B : Lab) : Wd := fun L => if L = B then none else w L
theorem V_del (B : Lab) (k : V p l e s m args below meth c D ba d mc ms Q nL ad (wdel w B) pc lv rest cells slots) : V p l e s m args below meth c D ba d mc ms Q nL ad w pc lv rest cells slots := by
  refine V_less (fun L e hL => ?_) k
  unfold wdel at hL
  by_cases h1 : L = B
  · rw [if_pos h1] at hL; cases hL
  · rw [if_neg h1] at hL; exact hL
theorem wdel_wset {w : Wd} {B : Lab} {e : Ent} (h : w B = none) : wdel (wset w B e) B = w := by
  funext L
  unfold wdel wset
  by_cases h1 : L = B
  · rw [if_pos h1, h1, h]
  · rw [if_neg h1, if_neg h1]
/-! rows of int rows -/
abbrev eA (n : Nat) (f : Nat → Option Nat) : Ent := .inl (.array .int, n, .inr (.inr (.inr (.inr f))))
theorem V_aaldA (C : Cx p l s m args meth c D ba own cc nL tb d) {n : Nat} {f : Nat → Option Nat} {L : Lab} {a i : Nat} {v : Value} (h : decode cc pc = .ok (.aaload, 1)) (ha : a = ad L) (hw : w L = some (eA n f)) (hi : i < n) (hn : n < 2 ^ 31) (hv : va_rf (f i) = v)
    (kk : V p l e s m args below meth c D ba d mc ms Q nL ad w (pc + 1) lv (v :: rest) cells slots) : V p l e s m args below meth c D ba d mc ms Q nL ad w pc lv (.int (nI i) :: .ref a :: rest) cells slots := by
  intro H locs ls hM hS hl
  subst ha
  subst hv
  obtain ⟨cA, ⟨h1, h2⟩, h3⟩ := (hM.1 _ _ hw).1
  have hin : vp_in (nI i) n := nI_in hi hn
  exact W.aald (v := va_rf (f i)) (ty := .array .int) C.1 C.2.1 h3 (h1 n (fun j => va_rf (f j))) rfl (fun q => by cases q) (by show ¬ (nI i < 0 ∨ (arrV _ _ _).slots.size ≤ _); rw [arrV_size]; exact hin) (by show (arrV _ _ _).slots[_]? = _; rw [nI_clamp (by omega), arrV_read _ _ hi]) rfl rfl h (kk H locs ls hM hS hl)
theorem V_aastA (C : Cx p l s m args meth c D ba own cc nL tb d) {n m1 : Nat} {f : Nat → Option Nat} {g : Nat → Int32} {L Lv : Lab} {a b i : Nat} (h : decode cc pc = .ok (.aastore, 1)) (ha : a = ad L) (hw : w L = some (eA n f)) (hb : b = ad Lv) (hv : w Lv = some (eI m1 g)) (hi : i < n) (hn : n < 2 ^ 31)
    (kk : V p l e s m args below meth c D ba d mc ms Q nL ad (wset w L (eA n (va_up f i (some b)))) (pc + 1) lv rest cells slots) : V p l e s m args below meth c D ba d mc ms Q nL ad w pc lv (.ref b :: .int (nI i) :: .ref a :: rest) cells slots := by
  intro H locs ls hM hS hl
  subst ha
  subst hb
  obtain ⟨cA, ⟨h1, h2⟩, h3⟩ := (hM.1 _ _ hw).1
  obtain ⟨cI, ⟨g1, g2⟩, g3⟩ := (hM.1 _ _ hv).1
  obtain ⟨comp, c2, k, f1, f2, f3, f4, f5⟩ := arrayOverA_spec C.2.2.2.2.2.1.2.2.2.2.2.2.2.1
  have hc : c2 = cA := Option.some.inj (f5.symm.trans h2)
  subst hc
  have hc2 : comp = cI := Option.some.inj (f1.symm.trans g2)
  subst hc2
  obtain ⟨kI, hkI, -⟩ := Vm.findClass_spec f1
  have hin : vp_in (nI i) n := nI_in hi hn
  have h0 : ¬ nI i < 0 := fun q => hin (Or.inl q)
  have hcl : (nI i).toNatClampNeg = i := nI_clamp (by omega)
  refine W.aast C.1 C.2.1 h3 (fun q h => by cases h) (fun h => by cases h) f3 f4 rfl hkI ⟨h0, by show _ < (arrV _ _ _).slots.size; rw [arrV_size, hcl]; exact hi⟩ g3 (fun q h => by cases h) hkI (by show s.vm.assignableAux (255 + 1) comp comp = true; unfold Vm.assignableAux; simp) rfl rfl h fun H1 e1 z oq => ?_
  refine kk H1 _ ls (hM.set hw ⟨_, ⟨h1, h2⟩, ?_⟩ oq) (hS.put z oq (hM.1 _ _ hw).2) hl
  show H1[ad L]? = some (vp_cell _ _)
  rw [e1, hcl]
  rw [vp_cell_q, vp_cell_q, arrV_store]
  congr 2
  funext q
  by_cases hq : q = i
  · subst hq
    simp [updV, va_up, va_rf]
  · simp [updV, va_up, hq]
theorem V_newA (C : Cx p l s m args meth c D ba own cc nL tb d) {i N : Nat} (L : Lab) (h : decode cc pc = .ok (.anewarray i, 3)) (hl1 : Cond.classLink own i "[I" ∈ eg_T) (hb : N * 4 ≤ 536870912) (hL : w L = none) (h1 : cells + 1 ≤ mc) (h2 : slots + N ≤ ms)
    (kk : ∀ a : Nat, V p l e s m args below meth c D ba d mc ms Q nL (aset ad L a) (wset w L (eA N (fun _ => none))) (pc + 3) lv (.ref a :: rest) (cells + 1) (slots + N)) : V p l e s m args below meth c D ba d mc ms Q nL ad w pc lv (.int (nI N) :: rest) cells slots := by
  intro H locs ls hM hS hl
  have hN : (nI N).toNatClampNeg = N := nI_clamp (by omega)
  have es : (FieldType.array FieldType.int).toString = "[I" := by decide +kernel
  refine W.anewA (t := .int) C.1 C.2.1 C.2.2.2.1 (by rw [es]; exact C.2.2.2.2.1 _ hl1) (over_moved (a := #[]) (Vm.Alike.refl _) C.2.2.2.2.2.1.2.2.2.2.2.2.2.1) rfl h rfl (nI_pos (by omega)) (by rw [hN]; exact hb) h1 (by rw [hN]; exact h2) fun cA kA comp f1 f2 f3 f4 => ?_
  rw [hN]
  generalize hH1 : H.push ({ cls := cA, slots := Array.replicate N .null, vm := .none } : Cell) = H1
  have z1 : H1.size = H.size + 1 := by rw [← hH1, Array.size_push]
  have e1 : H1[H.size]? = some (arrV cA N (fun _ => .null)) := by rw [← hH1, Array.getElem?_push_size, ← arrV_new]
  have o1 : ∀ q : Nat, q < H.size → H1[q]? = H[q]? := fun q hq => by rw [← hH1, Array.getElem?_push, if_neg (Nat.ne_of_lt hq)]
  have hAr : ArrOfT s cA (.array .int) := fun N z => ⟨(fun k h => by cases h), kA, f2, comp, f3⟩
  exact kk H.size H1 locs ls (hM.new hL (Nat.le_trans C.2.2.2.2.2.2.1 hS.1) ⟨cA, ⟨hAr, f1⟩, by rw [vp_cell_q]; exact e1⟩ o1) ⟨Nat.le_trans hS.1 (by omega), fun x h1 h2 => (o1 x (Nat.lt_of_lt_of_le h1 hS.1)).trans (hS.2.1 x h1 h2), hS.2.2⟩ hl
theorem V_newIn (C : Cx p l s m args meth c D ba own cc nL tb d) {N : Nat} (L : Lab) (h : decode cc pc = .ok (.newarray .int, 2)) (hl1 : Cond.arrayClass .int ∈ eg_T) (hb : N * 4 ≤ 536870912) (hL : w L = none) (h1 : cells + 1 ≤ mc) (h2 : slots + N ≤ ms)
    (kk : ∀ a : Nat, V p l e s m args below meth c D ba d mc ms Q nL (aset ad L a) (wset w L (eI N (fun _ => 0))) (pc + 2) lv (.ref a :: rest) (cells + 1) (slots + N)) : V p l e s m args below meth c D ba d mc ms Q nL ad w pc lv (.int (nI N) :: rest) cells slots := V_newI C L h hl1 (nI_pos (by omega)) (nI_clamp (by omega)) hb hL h1 h2 kk
theorem V_newQn (C : Cx p l s m args meth c D ba own cc nL tb d) {i N : Nat} (L : Lab) (K : String) (h : decode cc pc = .ok (.anewarray i, 3)) (hl1 : Cond.classLink own i K ∈ eg_T) (hl2 : Cond.arrayOver (.object K) ∈ lw_tbl) (hb : N * 4 ≤ 536870912) (hL : w L = none) (h1 : cells + 1 ≤ mc) (h2 : slots + N ≤ ms)
    (kk : ∀ a : Nat, V p l e s m args below meth c D ba d mc ms Q nL (aset ad L a) (wset w L (eQ K N (fun _ => none))) (pc + 3) lv (.ref a :: rest) (cells + 1) (slots + N)) : V p l e s m args below meth c D ba d mc ms Q nL ad w pc lv (.int (nI N) :: rest) cells slots := V_newQ C L K h hl1 hl2 (nI_pos (by omega)) (nI_clamp (by omega)) hb hL h1 h2 kk
theorem V_aretA (C : Cx p l s m args meth c D ba own cc nL tb d) {a : Nat} (t : FieldType) (h : decode cc pc = .ok (.areturn, 1)) (hr : meth.sig.returnType = some (.array t)) (hq : QR (some (.ref a)) ad w) (h1 : cells ≤ mc) (h2 : slots ≤ ms) : V p l e s m args below meth c D ba d mc ms (MO D ba QR QX below args s mc ms) nL ad w pc lv [.ref a] cells slots := fun H locs ls hM hS hl =>
  W.widen h1 h2 (vx_ret (W.aret (hlocks := C.2.2.2.2.2.2.2.1) C.1 C.2.1 hr (Or.inr ⟨t, rfl⟩) (Or.inr ⟨a, rfl⟩) (fun t ht hW => ⟨_, ad, w, rfl, hq, by rw [ht]; exact hM.moved hW.alike, hS.F ht⟩) hS.2.2 h))
theorem V_ldc (C : Cx p l s m args meth c D ba own cc nL tb d) {i : Nat} {v : Int32} (h : decode cc pc = .ok (.ldc i, 2)) (hw : Cond.constant own i v ∈ eg_T) (k : V p l e s m args below meth c D ba d mc ms Q nL ad w (pc + 2) lv (.int v :: rest) cells slots) : V p l e s m args below meth c D ba d mc ms Q nL ad w pc lv rest cells slots := fun H locs ls hM hS hl => lv_ldc C.1 C.2.1 C.2.2.2.1 (C.2.2.2.2.1 _ hw) h (k H locs ls hM hS hl)
/-- x >> k -/
def sh (x : Int32) (k : Nat) : Int32 := x >>> (nI k &&& 31)
theorem V_ishrn (C : Cx p l s m args meth c D ba own cc nL tb d) {x : Int32} {k : Nat} (h : decode cc pc = .ok (.ishr, 1)) (kk : V p l e s m args below meth c D ba d mc ms Q nL ad w (pc + 1) lv (.int (sh x k) :: rest) cells slots) : V p l e s m args below meth c D ba d mc ms Q nL ad w pc lv (.int (nI k) :: .int x :: rest) cells slots := fun H locs ls hM hS hl => lv_ishr C.1 C.2.1 h (kk H locs ls hM hS hl)
/-- the law's own script -/
theorem V_sldx (C : Cx p l s m args meth c D ba own cc nL tb d) {L : Nat} {xs : Nat → Int32} (hX : va_X (D.2 99 0) L xs s s.heap) (hb : D.2 99 0 < ba) {i : Nat} (hi : i < L) (hL : L < 2 ^ 31) (h : decode cc pc = .ok (.iaload, 1))
    (k : V p l e s m args below meth c D ba d mc ms Q nL ad w (pc + 1) lv (.int (xs i) :: rest) cells slots) : V p l e s m args below meth c D ba d mc ms Q nL ad w pc lv (.int (nI i) :: .ref (D.2 99 0) :: rest) cells slots := V_sld C hX hb (nI_in hi hL) h (by rw [nI_clamp (by omega)]; exact k)
end ER
theorem tk_7 : Cond.constant RL 7 2147483647 ∈ eg_T := eg_in 534 (by decide +kernel) (by decide +kernel)
theorem tk_8 : Cond.constant RL 8 790386105 ∈ eg_T := eg_in 538 (by decide +kernel) (by decide +kernel)
/-- the law's below -/
def bl (v : Int32) (n : Nat) : Nat := v.toBitVec.toNat % 2 ^ 31 % n
theorem bl_lt {v : Int32} {n : Nat} (h : 0 < n) : bl v n < n := Nat.mod_lt _ h
theorem bl_and (v : Int32) : v &&& 2147483647 = nI (v.toBitVec.toNat % 2 ^ 31) := pk_and v 31 (by decide +kernel)
end
section
/-! ===== the law's own bureau (Sim), a function of the same value ===== -/
/-- a surface's row; a standard's row -/
def suF (q : Nat × Nat) : Nat → Int32 := upd (upd (fun _ => 0) 0 (nI q.2)) 1 (nI q.1)
def stF (q : StdS) : Nat → Int32 := upd (upd (upd (upd (upd (fun _ => 0) 0 (nI q.1)) 1 (nI q.2.1)) 2 (nI q.2.2.1)) 3 (nI q.2.2.2.1)) 4 (nI q.2.2.2.2)
theorem suF_0 {q : Nat × Nat} : suF q 0 = nI q.2 := rfl
theorem suF_1 {q : Nat × Nat} : suF q 1 = nI q.1 := rfl
theorem suF_up {q : Nat × Nat} {x : Nat} : upd (suF q) 0 (nI x) = suF (q.1, x) := by
  funext j
  unfold suF upd
  by_cases h0 : j = 0
  · subst h0; rfl
  · by_cases h1 : j = 1
    · subst h1; rfl
    · simp [h0, h1]
abbrev eLH (sa dm du : Nat) (ce : Int32) (dy : Nat) : Ent := .inr (6, [.ref sa, .int (nI dm), .int (nI du), .int ce, .int (nI dy)])
abbrev eLS (day ins : Int32) (a1 a2 : Nat) : Ent := .inr (7, [.int day, .int ins, .ref a1, .ref a2])
def SC (i : Nat) (ad : Adr) (σ : CS) : Wd := fun L => match L with
  | [] => some (eLS (cDay σ) (cIns σ) (ad [i, 1]) (ad [i, 2]))
  | [c] => if c = 1 then some (eQ RX7 (cN σ) (adN (cN σ) (fun j => ad [i, 3, j]))) else if c = 2 then some (eA (cK σ) (adN (cK σ) (fun j => ad [i, 4, j]))) else none
  | [c, j] => if c = 3 then (if j < cN σ then some (eLH (ad [i, 5, j]) (hDm (cH σ j)) (hDu (cH σ j)) (hCe (cH σ j)) (hDy (cH σ j))) else none) else if c = 4 then (if j < cK σ then some (eI 5 (stF (cS σ j))) else none) else if c = 5 then (if j < cN σ then some (eA (hSc (cH σ j)) (adN (hSc (cH σ j)) (fun k => ad [i, 6, j, k]))) else none) else none
  | [c, j, k] => if c = 6 then (if j < cN σ ∧ k < hSc (cH σ j) then some (eI 2 (suF (hSu (cH σ j) k))) else none) else none
  | _ :: _ :: _ :: _ :: _ => none
abbrev SW (i : Nat) (ad : Adr) (σ : CS) (o : Wd) : Wd := put i (SC i ad σ) o
section SWL
variable {i : Nat} {ad : Adr} {σ : CS} {o : Wd}
theorem SW_b : SW i ad σ o [i] = some (eLS (cDay σ) (cIns σ) (ad [i, 1]) (ad [i, 2])) := put_s
theorem SW_hr : SW i ad σ o [i, 1] = some (eQ RX7 (cN σ) (adN (cN σ) (fun j => ad [i, 3, j]))) := put_s
theorem SW_rr : SW i ad σ o [i, 2] = some (eA (cK σ) (adN (cK σ) (fun j => ad [i, 4, j]))) := put_s
theorem SW_9 : SW i ad σ o [i, 9] = none := put_s
theorem SW_h {j : Nat} (h : j < cN σ) : SW i ad σ o [i, 3, j] = some (eLH (ad [i, 5, j]) (hDm (cH σ j)) (hDu (cH σ j)) (hCe (cH σ j)) (hDy (cH σ j))) := put_s.trans (by simp [SC, h])
theorem SW_d {j : Nat} (h : j < cK σ) : SW i ad σ o [i, 4, j] = some (eI 5 (stF (cS σ j))) := put_s.trans (by simp [SC, h])
theorem SW_s {j : Nat} (h : j < cN σ) : SW i ad σ o [i, 5, j] = some (eA (hSc (cH σ j)) (adN (hSc (cH σ j)) (fun k => ad [i, 6, j, k]))) := put_s.trans (by simp [SC, h])
theorem SW_u {j k : Nat} (h : j < cN σ) (hk : k < hSc (cH σ j)) : SW i ad σ o [i, 6, j, k] = some (eI 2 (suF (hSu (cH σ j) k))) := put_s.trans (by simp [SC, h, hk])
theorem SW_hf {j : Nat} (h : cN σ ≤ j) : SW i ad σ o [i, 3, j] = none := put_s.trans (by simp [SC, Nat.not_lt.mpr h])
theorem SW_sf {j : Nat} (h : cN σ ≤ j) : SW i ad σ o [i, 5, j] = none := put_s.trans (by simp [SC, Nat.not_lt.mpr h])
theorem SW_df {j : Nat} (h : cK σ ≤ j) : SW i ad σ o [i, 4, j] = none := put_s.trans (by simp [SC, Nat.not_lt.mpr h])
theorem SW_uf {j k : Nat} (h : hSc (cH σ j) ≤ k) : SW i ad σ o [i, 6, j, k] = none := put_s.trans (by simp [SC, Nat.not_lt.mpr h])
theorem SW_b' {day ins : Int32} : wset (SW i ad σ o) [i] (eLS day ins (ad [i, 1]) (ad [i, 2])) = SW i ad (cN σ, cK σ, day, ins, cH σ, cS σ) o := by
  refine PW_ext (r := []) rfl (fun q hq => ?_)
  rcases q with _ | ⟨c, _ | ⟨j, _ | ⟨k, _ | ⟨x, y⟩⟩⟩⟩ <;> first | rfl | skip
  exact absurd rfl hq
/-- a hall's numbers change, not its surfaces -/
theorem SW_h' {j dm du dy : Nat} {ce : Int32} (hj : j < cN σ) : wset (SW i ad σ o) [i, 3, j] (eLH (ad [i, 5, j]) dm du ce dy) = SW i ad (setH σ j (hSc (cH σ j), dm, du, ce, dy, hSu (cH σ j))) o := by
  refine PW_ext (r := [3, j]) (by simp [SC, hj, fup, setH, cN, cK, cH, cS, hSc, hDm, hDu, hCe, hDy, hSu]) (fun q hq => ?_)
  rcases q with _ | ⟨c, _ | ⟨a, _ | ⟨k, _ | ⟨x, y⟩⟩⟩⟩ <;> first | rfl | skip
  · by_cases ha : a = j
    · subst ha
      have hc : c ≠ 3 := fun z => hq (by rw [z])
      simp [SC, hc, fup, setH, cN, cK, cH, cS, hSc, hDm, hDu, hCe, hDy, hSu]
    · simp [SC, fup, ha, setH, cN, cK, cH, cS, hSc, hDm, hDu, hCe, hDy, hSu]
  · by_cases ha : a = j
    · subst ha
      simp [SC, fup, setH, cN, cK, cH, cS, hSc, hDm, hDu, hCe, hDy, hSu]
    · simp [SC, fup, ha, setH, cN, cK, cH, cS, hSc, hDm, hDu, hCe, hDy, hSu]
/-- a surface's numbers change -/
theorem SW_u' {j k : Nat} {q0 : Nat × Nat} (hj : j < cN σ) (hk : k < hSc (cH σ j)) : wset (SW i ad σ o) [i, 6, j, k] (eI 2 (suF q0)) = SW i ad (setH σ j (hSc (cH σ j), hDm (cH σ j), hDu (cH σ j), hCe (cH σ j), hDy (cH σ j), fup (hSu (cH σ j)) k q0)) o := by
  refine PW_ext (r := [6, j, k]) (by simp [SC, hj, hk, fup, setH, cN, cK, cH, cS, hSc, hDm, hDu, hCe, hDy, hSu]) (fun q hq => ?_)
  rcases q with _ | ⟨c, _ | ⟨a, _ | ⟨b, _ | ⟨x, y⟩⟩⟩⟩ <;> first | rfl | skip
  · by_cases ha : a = j
    · subst ha
      simp [SC, fup, setH, cN, cK, cH, cS, hSc, hDm, hDu, hCe, hDy, hSu]
    · simp [SC, fup, ha, setH, cN, cK, cH, cS, hSc, hDm, hDu, hCe, hDy, hSu]
  · by_cases ha : a = j
    · subst ha
      by_cases hb2 : b = k
      · subst hb2
        have hc : c ≠ 6 := fun z => hq (by rw [z])
        simp [SC, hc, setH, cN, cK, cH, cS, hSc, hDm, hDu, hCe, hDy, hSu]
      · simp [SC, fup, hb2, setH, cN, cK, cH, cS, hSc, hDm, hDu, hCe, hDy, hSu]
    · simp [SC, fup, ha, setH, cN, cK, cH, cS, hSc, hDm, hDu, hCe, hDy, hSu]
theorem SW_ad {ad2 : Adr} (h : ∀ r, ad2 (i :: r) = ad (i :: r)) : SW i ad2 σ o = SW i ad σ o := by
  show put i (SC i ad2 σ) o = put i (SC i ad σ) o
  congr 1
  funext L
  rcases L with _ | ⟨c, _ | ⟨j, _ | ⟨k, _ | ⟨x, y⟩⟩⟩⟩
  · simp only [SC, h]
  · simp only [SC, h]
  · simp only [SC, h]
  · simp only [SC]
  · rfl
/-- .. all that it says of ad -/
theorem SW_ad9 {q : Nat} : SW i (aset ad [i, 9] q) σ o = SW i ad σ o := by
  show put i (SC i (aset ad [i, 9] q) σ) o = put i (SC i ad σ) o
  congr 1
  funext L
  rcases L with _ | ⟨c, _ | ⟨j, _ | ⟨k, _ | ⟨x, y⟩⟩⟩⟩
  · simp [SC, aset]
  · simp [SC, aset]
  · simp [SC, aset]
  · simp only [SC]
  · rfl
end SWL
theorem setH_setH {σ : CS} {j : Nat} {x y : HallS} : setH (setH σ j x) j y = setH σ j y := by
  show (cN σ, cK σ, cDay σ, cIns σ, fup (fup (cH σ) j x) j y, cS σ) = _
  rw [fup_fup]
theorem setH_self {σ : CS} {j : Nat} : setH σ j (cH σ j) = σ := by
  show (cN σ, cK σ, cDay σ, cIns σ, fup (cH σ) j (cH σ j), cS σ) = σ
  rw [show fup (cH σ) j (cH σ j) = cH σ from by funext k; by_cases h : k = j <;> simp [fup, h]]
/-- the law's array of four: how many, how many loud, first, last -/
def tF (t : TT) : Nat → Int32 := upd (upd (upd (upd (fun _ => 0) 0 t.1) 1 t.2.1) 2 t.2.2.1) 3 t.2.2.2
theorem tF_up {t : TT} {a b x y : Int32} : upd (upd (upd (upd (tF t) 0 a) 1 b) 2 x) 3 y = tF (a, b, x, y) := by
  funext j
  unfold tF upd
  by_cases h3 : j = 3
  · simp [h3]
  · by_cases h2 : j = 2
    · simp [h2]
    · by_cases h1 : j = 1
      · simp [h1]
      · by_cases h0 : j = 0
        · simp [h0]
        · simp [h0, h1, h2, h3]
/-- a tally's first moment is -1, or is a moment -/
def tG (t : TT) : Prop := t.2.2.1 = -1 ∨ ¬ t.2.2.1 < 0
theorem tG_hear {th : Int32} {t : TT} {q : Nat × Nat} (h : tG t) (hq : q.1 < 2 ^ 31) : tG (hearT th t q) := by
  show tFi (nI q.1) t.2.2.1 = -1 ∨ ¬ tFi (nI q.1) t.2.2.1 < 0
  unfold tFi
  by_cases c1 : t.2.2.1 = -1
  · rw [if_pos c1]; exact Or.inr (nI_pos hq)
  · rw [if_neg c1]
    by_cases c2 : t.2.2.1 ≤ nI q.1
    · rw [if_pos c2]; exact h
    · rw [if_neg c2]; exact Or.inr (nI_pos hq)
/-- what the law does to one echo -/
theorem law_lo {l1 th x : Int32} (h : ¬ l1 < th) : x + nI 1 = tLo l1 th x := by unfold tLo; rw [if_neg h]
theorem law_lo0 {l1 th x : Int32} (h : l1 < th) : x + nI 0 = tLo l1 th x := by unfold tLo; rw [if_pos h, nI_0, Int32.add_zero]
theorem law_fi0 {mo x : Int32} (hg : x = -1 ∨ ¬ x < 0) (h : x < 0) : mo = tFi mo x := by
  unfold tFi
  rcases hg with z | z
  · rw [if_pos z]
  · exact absurd h z
theorem law_fi {mo x : Int32} (h : ¬ x < 0) : (if mo < x then mo else x) = tFi mo x := by
  unfold tFi
  have hx : ¬ x = -1 := fun z => h (by rw [z]; decide)
  rw [if_neg hx]
  by_cases c : mo < x
  · rw [if_pos c, if_neg (fun z => absurd c (Int32.not_lt.mpr z))]
  · rw [if_neg c, if_pos (Int32.not_lt.mp c)]
theorem law_la {mo x : Int32} : (if x < mo then mo else x) = tLa mo x := by
  unfold tLa
  by_cases c : x < mo
  · rw [if_pos c, if_neg (fun z => absurd c (Int32.not_lt.mpr z))]
  · rw [if_neg c, if_pos (Int32.not_lt.mp c)]
theorem nI_sub0' {a b : Nat} (ha : a < 2 ^ 30) (hb : b < 2 ^ 30) : (if nI a - nI b < nI 0 then nI 0 else nI a - nI b) = nI (a - b) := by
  by_cases h : b ≤ a
  · rw [pk_sub h, if_neg (nI_nlt (Nat.zero_le _) (by omega))]
  · rw [if_pos (by rw [nI_0]; exact pk_sneg hb (by omega)), show a - b = 0 by omega]
end
section

set_option maxHeartbeats 4000000 in
theorem s_below {l : Launch} {D : va_G} {ba d : Nat} {ad : Adr} {w : Wd} (hl : l.stackTraces = false) (hd : 1 ≤ d) (v : Int32) {n : Nat} (h0 : 0 < n) (hn : n < 2 ^ 31) : CT l yL_below (wsO yL_below cL_below 2 (some .int)) d 0 0 D ba [.int v, .int (nI n)] ad w (isR (some (.int (nI (bl v n)))) ad w) noX := by
  refine CT_of RL rfl (by decide +kernel) hl (Nat.le_of_ble_eq_true rfl) ?_
  intro p e s m args below meth c C hr hnm
  refine V_lvE (lv' := [(0, .int v), (1, .int (nI n))]) rfl ?_
  refine V_iload_n C dL_below_0 0 rfl ?_
  refine V_ldc C dL_below_1 tk_7 ?_
  refine V_iand C dL_below_3 ?_
  skip
  refine V_iload_n C dL_below_4 1 rfl ?_
  refine V_stE (st' := [.int (nI n), .int (nI (v.toBitVec.toNat % 2 ^ 31))]) (by rw [bl_and]) ?_
  refine V_iremn C dL_below_5 (Nat.mod_lt _ (by decide)) h0 hn ?_
  exact V_iret C .int dL_below_6 hr rfl ⟨rfl, rfl, rfl⟩ (by omega) (by omega)
set_option maxHeartbeats 4000000 in
theorem s_cell {l : Launch} {D : va_G} {ba d : Nat} {ad : Adr} {w : Wd} (hl : l.stackTraces = false) (hd : 1 ≤ d) {k : Nat} (hk : k < 2 ^ 30) : CT l yL_cell (wsO yL_cell cL_cell 2 (some .int)) d 0 0 D ba [.ref (D.2 99 0), .int (nI k)] ad w (fun v ad' w' => ∃ x, v = some (.int x) ∧ ad' = ad ∧ w' = w) noX := by
  refine CT_of RL rfl (by decide +kernel) hl (Nat.le_of_ble_eq_true rfl) ?_
  intro p e s m args below meth c C hr hnm
  refine V_lvE (lv' := [(0, .ref (D.2 99 0)), (1, .int (nI k))]) rfl ?_
  obtain ⟨L, xs, hb9, hs9, hL9, hX9⟩ := C.2.2.2.2.2.1.2.2.2.2.2.2.2.2
  refine V_iload_n C dL_cell_0 1 rfl ?_
  refine V_aload_n C dL_cell_1 0 rfl ?_
  refine V_slen C hX9 hb9 dL_cell_2 ?_
  refine V_stE (st' := [.int (nI L), .int (nI k)]) rfl ?_
  refine V_icmpn_ge (tgt := 12) C dL_cell_3 (by decide) (by omega) (by omega) (fun hb1 => ?_) (fun hb1 => ?_)
  · skip
    refine V_ldc C dL_cell_12 tk_8 ?_
    refine V_iload_n C dL_cell_14 1 rfl ?_
    refine V_iconst (v := nI 3) C dL_cell_15 (by decide) ?_
    refine V_iaddn C dL_cell_16 ?_
    refine V_imul C dL_cell_17 ?_
    exact V_iret C .int dL_cell_18 hr rfl ⟨_, rfl, rfl, rfl⟩ (by omega) (by omega)
  · skip
    refine V_aload_n C dL_cell_6 0 rfl ?_
    refine V_iload_n C dL_cell_7 1 rfl ?_
    refine V_sldx C hX9 hb9 (by omega) (by omega) dL_cell_8 ?_
    refine V_goto (tgt := 18) C dL_cell_9 (by decide) ?_
    exact V_iret C .int dL_cell_18 hr rfl ⟨_, rfl, rfl, rfl⟩ (by omega) (by omega)
set_option maxHeartbeats 4000000 in
theorem s_hard {l : Launch} {D : va_G} {ba d : Nat} {ad : Adr} {w : Wd} (hl : l.stackTraces = false) (hd : 1 ≤ d) {k hb : Nat} {LH LS LU : Lab} {dm du0 dy n : Nat} {ce : Int32} {f : Nat → Option Nat} {g : Nat → Int32} (hH : w LH = some (eLH (ad LS) dm du0 ce dy)) (hS : w LS = some (eA n f)) (hk : k < n) (hn : n ≤ 6) (hf : f k = some (ad LU)) (hU : w LU = some (eI 2 g)) (hg : g 1 = nI hb) (hhb : hb ≤ 99) {du : Nat} (hdu : du ≤ 100) : CT l yX7_hard (wsO yX7_hard cX7_hard 3 (some .int)) d 0 0 D ba [.ref (ad LH), .int (nI k), .int (nI du)] ad w (isR (some (.int (nI (hb - du / 5)))) ad w) noX := by
  refine CT_of RX7 rfl (by decide +kernel) hl (Nat.le_of_ble_eq_true rfl) ?_
  intro p e s m args below meth c C hr hnm
  refine V_lvE (lv' := [(0, .ref (ad LH)), (1, .int (nI k)), (2, .int (nI du))]) rfl ?_
  refine V_aload_n C dX7_hard_0 0 rfl ?_
  refine V_get (ci := 6) (k := 0) C dX7_hard_1 RX7 RX7 TX7 5 fw_X7 rfl (by decide) tw_528 rfl rfl hH rfl ?_
  refine V_iload_n C dX7_hard_4 1 rfl ?_
  refine V_aaldA (v := .ref (ad LU)) C dX7_hard_5 rfl hS (by omega) (by omega) (by rw [hf]; rfl) ?_
  refine V_iconst (v := nI 1) C dX7_hard_6 (by decide) ?_
  refine V_ialdn (v := (nI hb)) C dX7_hard_7 rfl hU (by decide) (by decide) hg ?_
  refine V_iload_n C dX7_hard_8 2 rfl ?_
  refine V_iconst (v := nI 5) C dX7_hard_9 (by decide) ?_
  refine V_idivn C dX7_hard_10 (by omega) (by omega) (by omega) ?_
  refine V_isub C dX7_hard_11 ?_
  refine V_iconst (v := nI 0) C dX7_hard_12 (by decide) ?_
  refine V_max C dX7_hard_13 tw_488 tw_300 tw_15 tw_301 (by omega) (by simp [Value.category]; try omega) (by omega) (by omega) ?_
  rw [show (if (nI hb - nI (du / 5)) < (nI 0) then (nI 0) else (nI hb - nI (du / 5))) = (nI (hb - du / 5)) from nI_sub0' (by omega) (by omega)]
  exact V_iret C .int dX7_hard_16 hr rfl ⟨rfl, rfl, rfl⟩ (by omega) (by omega)
set_option maxHeartbeats 4000000 in
theorem s_strike {l : Launch} {D : va_G} {ba d : Nat} {ad : Adr} (hl : l.stackTraces = false) (hd : 1 ≤ d) {i : Nat} {σ : CS} {o : Wd} (hσ : cOK σ) {j : Nat} (hj : j < cN σ)  : CT l yX7_strike (wsO yX7_strike cX7_strike 1 none) d 0 0 D ba [.ref (ad [i, 3, j])] ad (SW i ad σ o) (isR none ad (SW i ad (setH σ j (hSc (cH σ j), hDm (cH σ j), hDu (cH σ j), -1, 0, hSu (cH σ j))) o)) noX := by
  refine CT_of RX7 rfl (by decide +kernel) hl (Nat.le_of_ble_eq_true rfl) ?_
  intro p e s m args below meth c C hr hnm
  refine V_lvE (lv' := [(0, .ref (ad [i, 3, j]))]) rfl ?_
  refine V_aload_n C dX7_strike_0 0 rfl ?_
  refine V_iconst (v := -1) C dX7_strike_1 (by decide) ?_
  refine V_put (ci := 6) (k := 3) C dX7_strike_2 RX7 RX7 TX7 5 tyX7 tyX7_ok nmX7 fw_X7 rfl (by decide) tw_535 rfl (Or.inl rfl) rfl rfl rfl (SW_h hj) (Nat.le_of_ble_eq_true rfl) ?_
  refine V_wd (w' := wset (SW i ad σ o) ([i, 3, j]) (.inr (6, [.ref (ad [i, 5, j]), .int (nI (hDm (cH σ j))), .int (nI (hDu (cH σ j))), .int (-1), .int (nI (hDy (cH σ j)))]))) rfl ?_
  refine V_aload_n C dX7_strike_5 0 rfl ?_
  refine V_iconst (v := nI 0) C dX7_strike_6 (by decide) ?_
  refine V_put (ci := 6) (k := 4) C dX7_strike_7 RX7 RX7 TX7 5 tyX7 tyX7_ok nmX7 fw_X7 rfl (by decide) tw_540 rfl (Or.inl rfl) rfl rfl rfl wset_s (Nat.le_of_ble_eq_true rfl) ?_
  refine V_wd (w' := wset (SW i ad σ o) ([i, 3, j]) (.inr (6, [.ref (ad [i, 5, j]), .int (nI (hDm (cH σ j))), .int (nI (hDu (cH σ j))), .int (-1), .int (nI 0)]))) wset_wset ?_
  refine V_wd (w' := SW i ad (setH σ j (hSc (cH σ j), hDm (cH σ j), hDu (cH σ j), -1, 0, hSu (cH σ j))) o) (SW_h' hj) ?_
  exact V_vret C dX7_strike_10 hr ⟨rfl, rfl, rfl⟩ (by omega) (by omega)
theorem rowE_nil {hd dm ds n k l : Nat} (h : nx hd dm l = 0 ∨ 3000 < k * 6 * ds) : rowE hd dm ds (n + 1) k l = [] := by
  rw [rowE]
  by_cases h0 : nx hd dm l = 0
  · rw [if_pos h0]
  · rw [if_neg h0]
    rcases h with h | h
    · exact absurd h h0
    · rw [if_neg (by omega)]
theorem rowE_cons {hd dm ds n k l : Nat} (h : ¬ nx hd dm l = 0) (h2 : k * 6 * ds ≤ 3000) : rowE hd dm ds (n + 1) k l = (k * 6 * ds, nx hd dm l) :: rowE hd dm ds n (k + 1) (nx hd dm l) := by
  rw [rowE, if_neg h, if_pos h2]
theorem tG_fold {th : Int32} : ∀ (E : List (Nat × Nat)) {t : TT}, (∀ q ∈ E, q.1 < 2 ^ 31) → tG t → tG (List.foldl (hearT th) t E)
  | [], _, _, h => h
  | q :: E, t, hE, h => tG_fold E (fun q hq => hE q (List.mem_cons_of_mem _ hq)) (tG_hear h (hE q List.mem_cons_self))
theorem rowE_mo {hd dm ds : Nat} : ∀ n k l, ∀ q ∈ rowE hd dm ds n k l, q.1 ≤ 3000
  | 0, _, _, q, hq => by cases hq
  | n + 1, k, l, q, hq => by
    rw [rowE] at hq
    by_cases h0 : nx hd dm l = 0
    · rw [if_pos h0] at hq; cases hq
    · rw [if_neg h0] at hq
      by_cases h3 : k * 6 * ds ≤ 3000
      · rw [if_pos h3] at hq
        rcases List.mem_cons.mp hq with rfl | hq
        · exact h3
        · exact rowE_mo n (k + 1) (nx hd dm l) q hq
      · rw [if_neg h3] at hq; cases hq
theorem tG_rows {th : Int32} {dm du click : Nat} {su : Nat → Nat × Nat} : ∀ m, tG (upF (rowsT th dm du click su) m t00)
  | 0 => Or.inl rfl
  | m + 1 => tG_fold _ (fun q hq => Nat.lt_of_le_of_lt (rowE_mo _ _ _ q hq) (by decide)) (tG_rows m)
set_option maxHeartbeats 4000000 in
theorem lp_se2 {p : Program} {l : Launch} {e : Env} {s : State} {m : MethodId} {args : Array Value} {below : List Frame} {meth : Method} {c : Code} {D : va_G} {ba d mc ms : Nat} {ad : Adr} {cells slots : Nat} {Q : State → Prop} (C : Cx p l s m args meth c D ba RX7 cX7_echoes 9 [] d) (hl : l.stackTraces = false) (hr : meth.sig.returnType = (some (.array .int))) (hd : 2 ≤ d) {i : Nat} {σ : CS} {o : Wd} (hσ : cOK σ) {j : Nat} (hj : j < cN σ) {click dm du : Nat} (hdm : dm ≤ 90) (hdu : du ≤ 100) (hcl : click ≤ 1000) (th : Int32) {u : Nat} (hcm : cells ≤ mc) (hsm : slots ≤ ms) (hk0 : u < hSc (cH σ j)) {hd0 ds0 : Nat} (hhd : (hSu (cH σ j) u).1 - du / 5 = hd0) (hds0 : (hSu (cH σ j) u).2 = ds0) : ∀ (n : Nat) (k l1 : Nat) (t : TT), k + n = 501 → 1 ≤ k → l1 ≤ 1000 → tG t → V p l e s m args below meth c D ba d mc ms Q 9 ad (wset (SW i ad σ o) [i, 9] (eI 4 (tF (List.foldl (hearT th) t (rowE hd0 dm ds0 n k l1))))) 179 [(6, .int (nI u)), (5, .ref (ad [i, 9])), (0, .ref (ad [i, 3, j])), (1, .int (nI click)), (2, .int th), (3, .int (nI dm)), (4, .int (nI du))] [] cells slots → V p l e s m args below meth c D ba d mc ms Q 9 ad (wset (SW i ad σ o) [i, 9] (eI 4 (tF t))) 51 [(8, .int (nI (k * 6 * ds0))), (7, .int (nI l1)), (6, .int (nI u)), (5, .ref (ad [i, 9])), (0, .ref (ad [i, 3, j])), (1, .int (nI click)), (2, .int th), (3, .int (nI dm)), (4, .int (nI du))] [] cells slots := by
  intro n
  induction n with
  | zero =>
    intro k l1 t hk hk1 hl1 hg K
    have hu := hσ.2.2.1 j hj
    have hu1 := hu.1
    have hu2 := hu.2.1
    have hu3 := hu.2.2.1
    have hu4 := hu.2.2.2.1
    have hσ1 := hσ.1
    have hσ2 := hσ.2.1
    have hs9 := hu.2.2.2.2 u hk0
    have hd9 : hd0 ≤ 99 := by omega
    have hds1 : 1 ≤ ds0 := by omega
    have hds2 : ds0 ≤ 60 := by omega
    have hmul : k * 6 * ds0 = 501 * 6 * ds0 := by rw [show k = 501 by omega]
    refine V_iload C dX7_echoes_51 0 rfl ?_
    refine V_sipush (v := nI 3000) C dX7_echoes_53 (by decide) ?_
    refine V_icmpn_gt (tgt := 179) C dX7_echoes_56 (by decide) (by omega) (by decide) (fun hb1 => ?_) (fun hb1 => by exfalso; omega)
    refine V_lv [2, 3, 4, 5, 6, 7, 8] rfl ?_
    exact K
  | succ n ih =>
    intro k l1 t hk hk1 hl1 hg K
    have hu := hσ.2.2.1 j hj
    have hu1 := hu.1
    have hu2 := hu.2.1
    have hu3 := hu.2.2.1
    have hu4 := hu.2.2.2.1
    have hσ1 := hσ.1
    have hσ2 := hσ.2.1
    have hs9 := hu.2.2.2.2 u hk0
    have hd9 : hd0 ≤ 99 := by omega
    have hds1 : 1 ≤ ds0 := by omega
    have hds2 : ds0 ≤ 60 := by omega
    have hmul : k * 6 * ds0 ≤ 3000 * 60 := Nat.mul_le_mul (by omega) hds2
    have hnx := nx_b (dm := dm) hd9 hl1
    refine V_iload C dX7_echoes_51 0 rfl ?_
    refine V_sipush (v := nI 3000) C dX7_echoes_53 (by decide) ?_
    refine V_icmpn_gt (tgt := 179) C dX7_echoes_56 (by decide) (by omega) (by decide) (fun hb1 => ?_) (fun hb1 => ?_)
    · skip
      refine V_lv [2, 3, 4, 5, 6, 7, 8] rfl ?_
      exact (by rw [rowE_nil (Or.inr (by omega))] at K; exact K)
    · skip
      refine V_iload C dX7_echoes_59 1 rfl ?_
      refine V_aload_n C dX7_echoes_61 4 rfl ?_
      refine V_iload C dX7_echoes_62 2 rfl ?_
      refine V_iload C dX7_echoes_64 8 rfl ?_
      refine V_callV (r := (RX7, TX7, 5)) C [.int (nI u), .int (nI du)] dX7_echoes_66 m_X7_hard k_X7_hard tw_493 rfl rfl rfl ((wset_n (by simp)).trans (SW_h hj)) rfl rfl (Nat.le_of_ble_eq_true rfl) ⟨by omega, by omega, by omega, by omega⟩ (s_hard hl (by omega) (LU := [i, 6, j, u]) ((wset_n (by simp)).trans (SW_h hj)) ((wset_n (by simp)).trans (SW_s hj)) hk0 hu1 (by rw [adN_lt hk0]) ((wset_n (by simp)).trans (SW_u hj hk0)) rfl (by have := (hu.2.2.2.2 u hk0).1; omega) hdu) (kr_some (x := .int (nI ((hSu (cH σ j) u).1 - du / 5))) ?_) kx_no
      refine V_stE (st' := [.int (nI hd0), .int (nI l1)]) (by rw [hhd]) ?_
      refine V_imuln C dX7_echoes_69 ?_
      refine V_bipush (v := nI 100) C dX7_echoes_70 (by decide) ?_
      refine V_idivn C dX7_echoes_72 (by have := nx_b (dm := dm) hd9 hl1; omega) (by decide) (by decide) ?_
      refine V_istore C [(7, .int (nI ((l1 * hd0) / 100))), (8, .int (nI (k * 6 * ds0))), (6, .int (nI u)), (5, .ref (ad [i, 9])), (0, .ref (ad [i, 3, j])), (1, .int (nI click)), (2, .int th), (3, .int (nI dm)), (4, .int (nI du))] dX7_echoes_73 (by decide) rfl ?_
      refine V_iload C dX7_echoes_75 0 rfl ?_
      refine V_bipush (v := nI 100) C dX7_echoes_77 (by decide) ?_
      refine V_iload_n C dX7_echoes_79 7 rfl ?_
      refine V_isubn C dX7_echoes_80 (by omega) ?_
      refine V_imuln C dX7_echoes_81 ?_
      refine V_bipush (v := nI 100) C dX7_echoes_82 (by decide) ?_
      refine V_idivn C dX7_echoes_84 (by have := nx_b (dm := dm) hd9 hl1; omega) (by decide) (by decide) ?_
      rw [show l1 * hd0 / 100 * (100 - dm) / 100 = nx hd0 dm l1 from rfl]
      refine V_istore C [(7, .int (nI (nx hd0 dm l1))), (8, .int (nI (k * 6 * ds0))), (6, .int (nI u)), (5, .ref (ad [i, 9])), (0, .ref (ad [i, 3, j])), (1, .int (nI click)), (2, .int th), (3, .int (nI dm)), (4, .int (nI du))] dX7_echoes_85 (by decide) rfl ?_
      refine V_iload C dX7_echoes_87 0 rfl ?_
      refine V_ifn_ne (tgt := 95) C dX7_echoes_89 (by decide) (by omega) (fun hb2 => ?_) (fun hb2 => ?_)
      · skip
        refine V_aload C dX7_echoes_95 3 rfl ?_
        refine V_iconst (v := nI 0) C dX7_echoes_97 (by decide) ?_
        refine V_dup2 C dX7_echoes_98 rfl rfl ?_
        refine V_ialdn (v := t.1) C dX7_echoes_99 rfl wset_s (by decide) (by decide) rfl ?_
        refine V_iconst (v := nI 1) C dX7_echoes_100 (by decide) ?_
        refine V_iadd C dX7_echoes_101 ?_
        refine V_iastn C dX7_echoes_102 rfl wset_s (by omega) (by decide) ?_
        refine V_wd (w' := wset (SW i ad σ o) ([i, 9]) (eI 4 (upd (tF t) 0 (t.1 + (nI 1))))) wset_wset ?_
        refine V_aload C dX7_echoes_103 3 rfl ?_
        refine V_iconst (v := nI 1) C dX7_echoes_105 (by decide) ?_
        refine V_dup2 C dX7_echoes_106 rfl rfl ?_
        refine V_ialdn (v := t.2.1) C dX7_echoes_107 rfl wset_s (by decide) (by decide) rfl ?_
        refine V_iload C dX7_echoes_108 0 rfl ?_
        refine V_iload_n C dX7_echoes_110 6 rfl ?_
        refine V_icmp_lt (tgt := 118) C dX7_echoes_111 (by decide) (fun hb3 => ?_) (fun hb3 => ?_)
        · skip
          refine V_iconst (v := nI 0) C dX7_echoes_118 (by decide) ?_
          refine V_iadd C dX7_echoes_119 ?_
          refine V_iastn C dX7_echoes_120 rfl wset_s (by omega) (by decide) ?_
          refine V_wd (w' := wset (SW i ad σ o) ([i, 9]) (eI 4 (upd (upd (tF t) 0 (t.1 + (nI 1))) 1 (t.2.1 + (nI 0))))) wset_wset ?_
          refine V_aload C dX7_echoes_121 3 rfl ?_
          refine V_iconst (v := nI 2) C dX7_echoes_123 (by decide) ?_
          refine V_aload C dX7_echoes_124 3 rfl ?_
          refine V_iconst (v := nI 2) C dX7_echoes_126 (by decide) ?_
          refine V_ialdn (v := t.2.2.1) C dX7_echoes_127 rfl wset_s (by decide) (by decide) rfl ?_
          refine V_if_ge (tgt := 136) C dX7_echoes_128 (by decide) (fun hb4 => ?_) (fun hb4 => ?_)
          · skip
            refine V_aload C dX7_echoes_136 3 rfl ?_
            refine V_iconst (v := nI 2) C dX7_echoes_138 (by decide) ?_
            refine V_ialdn (v := t.2.2.1) C dX7_echoes_139 rfl wset_s (by decide) (by decide) rfl ?_
            refine V_iload C dX7_echoes_140 1 rfl ?_
            refine V_min C dX7_echoes_142 tw_494 tw_495 tw_15 tw_496 (by omega) (by simp [Value.category]; try omega) (by omega) (by omega) ?_
            refine V_iastn C dX7_echoes_145 rfl wset_s (by omega) (by decide) ?_
            refine V_wd (w' := wset (SW i ad σ o) ([i, 9]) (eI 4 (upd (upd (upd (tF t) 0 (t.1 + (nI 1))) 1 (t.2.1 + (nI 0))) 2 (if (nI (k * 6 * ds0)) < t.2.2.1 then (nI (k * 6 * ds0)) else t.2.2.1)))) wset_wset ?_
            refine V_aload C dX7_echoes_146 3 rfl ?_
            refine V_iconst (v := nI 3) C dX7_echoes_148 (by decide) ?_
            refine V_aload C dX7_echoes_149 3 rfl ?_
            refine V_iconst (v := nI 3) C dX7_echoes_151 (by decide) ?_
            refine V_ialdn (v := t.2.2.2) C dX7_echoes_152 rfl wset_s (by decide) (by decide) rfl ?_
            refine V_iload C dX7_echoes_153 1 rfl ?_
            refine V_max C dX7_echoes_155 tw_488 tw_300 tw_15 tw_301 (by omega) (by simp [Value.category]; try omega) (by omega) (by omega) ?_
            refine V_iastn C dX7_echoes_158 rfl wset_s (by omega) (by decide) ?_
            refine V_wd (w' := wset (SW i ad σ o) ([i, 9]) (eI 4 (upd (upd (upd (upd (tF t) 0 (t.1 + (nI 1))) 1 (t.2.1 + (nI 0))) 2 (if (nI (k * 6 * ds0)) < t.2.2.1 then (nI (k * 6 * ds0)) else t.2.2.1)) 3 (if t.2.2.2 < (nI (k * 6 * ds0)) then (nI (k * 6 * ds0)) else t.2.2.2)))) wset_wset ?_
            refine V_iload C dX7_echoes_159 1 rfl ?_
            refine V_bipush (v := nI 6) C dX7_echoes_161 (by decide) ?_
            refine V_aload_n C dX7_echoes_163 4 rfl ?_
            refine V_get (ci := 6) (k := 0) C dX7_echoes_164 RX7 RX7 TX7 5 fw_X7 rfl (by decide) tw_528 rfl rfl ((wset_n (by simp)).trans (SW_h hj)) rfl ?_
            refine V_iload C dX7_echoes_167 2 rfl ?_
            refine V_aaldA (v := .ref (ad [i, 6, j, u])) C dX7_echoes_169 rfl ((wset_n (by simp)).trans (SW_s hj)) (by omega) (by omega) (by rw [adN_lt hk0]; rfl) ?_
            refine V_iconst (v := nI 0) C dX7_echoes_170 (by decide) ?_
            refine V_ialdn (v := (nI ds0)) C dX7_echoes_171 rfl ((wset_n (by simp)).trans (SW_u hj hk0)) (by decide) (by decide) (congrArg nI hds0) ?_
            refine V_imuln C dX7_echoes_172 ?_
            refine V_iaddn C dX7_echoes_173 ?_
            refine V_istore C [(8, .int (nI ((k * 6 * ds0) + (6 * ds0)))), (7, .int (nI (nx hd0 dm l1))), (6, .int (nI u)), (5, .ref (ad [i, 9])), (0, .ref (ad [i, 3, j])), (1, .int (nI click)), (2, .int th), (3, .int (nI dm)), (4, .int (nI du))] dX7_echoes_174 (by decide) rfl ?_
            refine V_goto (tgt := 51) C dX7_echoes_176 (by decide) ?_
            refine V_wd (w' := wset (SW i ad σ o) [i, 9] (eI 4 (tF (hearT th t (k * 6 * ds0, nx hd0 dm l1))))) (congrArg (fun f => wset (SW i ad σ o) [i, 9] (eI 4 f)) (tF_up.trans (congrArg tF (Prod.ext rfl (Prod.ext (law_lo0 (x := t.2.1) hb3) (Prod.ext (law_fi (Int32.not_lt.mpr hb4)) law_la)))))) ?_
            rw [show k * 6 * ds0 + 6 * ds0 = (k + 1) * 6 * ds0 from by rw [Nat.add_mul, Nat.add_mul, Nat.one_mul]]
            refine V_lv [0, 1, 2, 3, 4, 5, 6, 7, 8] rfl ?_
            exact ih (k + 1) (nx hd0 dm l1) (hearT th t (k * 6 * ds0, nx hd0 dm l1)) (by omega) (by omega) (by have := nx_b (dm := dm) hd9 hl1; omega) (tG_hear hg (by show k * 6 * ds0 < 2 ^ 31; omega)) (by rw [rowE_cons hb2 hb1] at K; exact K)
          · skip
            refine V_iload C dX7_echoes_131 1 rfl ?_
            refine V_goto (tgt := 145) C dX7_echoes_133 (by decide) ?_
            refine V_iastn C dX7_echoes_145 rfl wset_s (by omega) (by decide) ?_
            refine V_wd (w' := wset (SW i ad σ o) ([i, 9]) (eI 4 (upd (upd (upd (tF t) 0 (t.1 + (nI 1))) 1 (t.2.1 + (nI 0))) 2 (nI (k * 6 * ds0))))) wset_wset ?_
            refine V_aload C dX7_echoes_146 3 rfl ?_
            refine V_iconst (v := nI 3) C dX7_echoes_148 (by decide) ?_
            refine V_aload C dX7_echoes_149 3 rfl ?_
            refine V_iconst (v := nI 3) C dX7_echoes_151 (by decide) ?_
            refine V_ialdn (v := t.2.2.2) C dX7_echoes_152 rfl wset_s (by decide) (by decide) rfl ?_
            refine V_iload C dX7_echoes_153 1 rfl ?_
            refine V_max C dX7_echoes_155 tw_488 tw_300 tw_15 tw_301 (by omega) (by simp [Value.category]; try omega) (by omega) (by omega) ?_
            refine V_iastn C dX7_echoes_158 rfl wset_s (by omega) (by decide) ?_
            refine V_wd (w' := wset (SW i ad σ o) ([i, 9]) (eI 4 (upd (upd (upd (upd (tF t) 0 (t.1 + (nI 1))) 1 (t.2.1 + (nI 0))) 2 (nI (k * 6 * ds0))) 3 (if t.2.2.2 < (nI (k * 6 * ds0)) then (nI (k * 6 * ds0)) else t.2.2.2)))) wset_wset ?_
            refine V_iload C dX7_echoes_159 1 rfl ?_
            refine V_bipush (v := nI 6) C dX7_echoes_161 (by decide) ?_
            refine V_aload_n C dX7_echoes_163 4 rfl ?_
            refine V_get (ci := 6) (k := 0) C dX7_echoes_164 RX7 RX7 TX7 5 fw_X7 rfl (by decide) tw_528 rfl rfl ((wset_n (by simp)).trans (SW_h hj)) rfl ?_
            refine V_iload C dX7_echoes_167 2 rfl ?_
            refine V_aaldA (v := .ref (ad [i, 6, j, u])) C dX7_echoes_169 rfl ((wset_n (by simp)).trans (SW_s hj)) (by omega) (by omega) (by rw [adN_lt hk0]; rfl) ?_
            refine V_iconst (v := nI 0) C dX7_echoes_170 (by decide) ?_
            refine V_ialdn (v := (nI ds0)) C dX7_echoes_171 rfl ((wset_n (by simp)).trans (SW_u hj hk0)) (by decide) (by decide) (congrArg nI hds0) ?_
            refine V_imuln C dX7_echoes_172 ?_
            refine V_iaddn C dX7_echoes_173 ?_
            refine V_istore C [(8, .int (nI ((k * 6 * ds0) + (6 * ds0)))), (7, .int (nI (nx hd0 dm l1))), (6, .int (nI u)), (5, .ref (ad [i, 9])), (0, .ref (ad [i, 3, j])), (1, .int (nI click)), (2, .int th), (3, .int (nI dm)), (4, .int (nI du))] dX7_echoes_174 (by decide) rfl ?_
            refine V_goto (tgt := 51) C dX7_echoes_176 (by decide) ?_
            refine V_wd (w' := wset (SW i ad σ o) [i, 9] (eI 4 (tF (hearT th t (k * 6 * ds0, nx hd0 dm l1))))) (congrArg (fun f => wset (SW i ad σ o) [i, 9] (eI 4 f)) (tF_up.trans (congrArg tF (Prod.ext rfl (Prod.ext (law_lo0 (x := t.2.1) hb3) (Prod.ext (law_fi0 hg (Int32.not_le.mp hb4)) law_la)))))) ?_
            rw [show k * 6 * ds0 + 6 * ds0 = (k + 1) * 6 * ds0 from by rw [Nat.add_mul, Nat.add_mul, Nat.one_mul]]
            refine V_lv [0, 1, 2, 3, 4, 5, 6, 7, 8] rfl ?_
            exact ih (k + 1) (nx hd0 dm l1) (hearT th t (k * 6 * ds0, nx hd0 dm l1)) (by omega) (by omega) (by have := nx_b (dm := dm) hd9 hl1; omega) (tG_hear hg (by show k * 6 * ds0 < 2 ^ 31; omega)) (by rw [rowE_cons hb2 hb1] at K; exact K)
        · skip
          refine V_iconst (v := nI 1) C dX7_echoes_114 (by decide) ?_
          refine V_goto (tgt := 119) C dX7_echoes_115 (by decide) ?_
          refine V_iadd C dX7_echoes_119 ?_
          refine V_iastn C dX7_echoes_120 rfl wset_s (by omega) (by decide) ?_
          refine V_wd (w' := wset (SW i ad σ o) ([i, 9]) (eI 4 (upd (upd (tF t) 0 (t.1 + (nI 1))) 1 (t.2.1 + (nI 1))))) wset_wset ?_
          refine V_aload C dX7_echoes_121 3 rfl ?_
          refine V_iconst (v := nI 2) C dX7_echoes_123 (by decide) ?_
          refine V_aload C dX7_echoes_124 3 rfl ?_
          refine V_iconst (v := nI 2) C dX7_echoes_126 (by decide) ?_
          refine V_ialdn (v := t.2.2.1) C dX7_echoes_127 rfl wset_s (by decide) (by decide) rfl ?_
          refine V_if_ge (tgt := 136) C dX7_echoes_128 (by decide) (fun hb5 => ?_) (fun hb5 => ?_)
          · skip
            refine V_aload C dX7_echoes_136 3 rfl ?_
            refine V_iconst (v := nI 2) C dX7_echoes_138 (by decide) ?_
            refine V_ialdn (v := t.2.2.1) C dX7_echoes_139 rfl wset_s (by decide) (by decide) rfl ?_
            refine V_iload C dX7_echoes_140 1 rfl ?_
            refine V_min C dX7_echoes_142 tw_494 tw_495 tw_15 tw_496 (by omega) (by simp [Value.category]; try omega) (by omega) (by omega) ?_
            refine V_iastn C dX7_echoes_145 rfl wset_s (by omega) (by decide) ?_
            refine V_wd (w' := wset (SW i ad σ o) ([i, 9]) (eI 4 (upd (upd (upd (tF t) 0 (t.1 + (nI 1))) 1 (t.2.1 + (nI 1))) 2 (if (nI (k * 6 * ds0)) < t.2.2.1 then (nI (k * 6 * ds0)) else t.2.2.1)))) wset_wset ?_
            refine V_aload C dX7_echoes_146 3 rfl ?_
            refine V_iconst (v := nI 3) C dX7_echoes_148 (by decide) ?_
            refine V_aload C dX7_echoes_149 3 rfl ?_
            refine V_iconst (v := nI 3) C dX7_echoes_151 (by decide) ?_
            refine V_ialdn (v := t.2.2.2) C dX7_echoes_152 rfl wset_s (by decide) (by decide) rfl ?_
            refine V_iload C dX7_echoes_153 1 rfl ?_
            refine V_max C dX7_echoes_155 tw_488 tw_300 tw_15 tw_301 (by omega) (by simp [Value.category]; try omega) (by omega) (by omega) ?_
            refine V_iastn C dX7_echoes_158 rfl wset_s (by omega) (by decide) ?_
            refine V_wd (w' := wset (SW i ad σ o) ([i, 9]) (eI 4 (upd (upd (upd (upd (tF t) 0 (t.1 + (nI 1))) 1 (t.2.1 + (nI 1))) 2 (if (nI (k * 6 * ds0)) < t.2.2.1 then (nI (k * 6 * ds0)) else t.2.2.1)) 3 (if t.2.2.2 < (nI (k * 6 * ds0)) then (nI (k * 6 * ds0)) else t.2.2.2)))) wset_wset ?_
            refine V_iload C dX7_echoes_159 1 rfl ?_
            refine V_bipush (v := nI 6) C dX7_echoes_161 (by decide) ?_
            refine V_aload_n C dX7_echoes_163 4 rfl ?_
            refine V_get (ci := 6) (k := 0) C dX7_echoes_164 RX7 RX7 TX7 5 fw_X7 rfl (by decide) tw_528 rfl rfl ((wset_n (by simp)).trans (SW_h hj)) rfl ?_
            refine V_iload C dX7_echoes_167 2 rfl ?_
            refine V_aaldA (v := .ref (ad [i, 6, j, u])) C dX7_echoes_169 rfl ((wset_n (by simp)).trans (SW_s hj)) (by omega) (by omega) (by rw [adN_lt hk0]; rfl) ?_
            refine V_iconst (v := nI 0) C dX7_echoes_170 (by decide) ?_
            refine V_ialdn (v := (nI ds0)) C dX7_echoes_171 rfl ((wset_n (by simp)).trans (SW_u hj hk0)) (by decide) (by decide) (congrArg nI hds0) ?_
            refine V_imuln C dX7_echoes_172 ?_
            refine V_iaddn C dX7_echoes_173 ?_
            refine V_istore C [(8, .int (nI ((k * 6 * ds0) + (6 * ds0)))), (7, .int (nI (nx hd0 dm l1))), (6, .int (nI u)), (5, .ref (ad [i, 9])), (0, .ref (ad [i, 3, j])), (1, .int (nI click)), (2, .int th), (3, .int (nI dm)), (4, .int (nI du))] dX7_echoes_174 (by decide) rfl ?_
            refine V_goto (tgt := 51) C dX7_echoes_176 (by decide) ?_
            refine V_wd (w' := wset (SW i ad σ o) [i, 9] (eI 4 (tF (hearT th t (k * 6 * ds0, nx hd0 dm l1))))) (congrArg (fun f => wset (SW i ad σ o) [i, 9] (eI 4 f)) (tF_up.trans (congrArg tF (Prod.ext rfl (Prod.ext (law_lo (x := t.2.1) hb3) (Prod.ext (law_fi (Int32.not_lt.mpr hb5)) law_la)))))) ?_
            rw [show k * 6 * ds0 + 6 * ds0 = (k + 1) * 6 * ds0 from by rw [Nat.add_mul, Nat.add_mul, Nat.one_mul]]
            refine V_lv [0, 1, 2, 3, 4, 5, 6, 7, 8] rfl ?_
            exact ih (k + 1) (nx hd0 dm l1) (hearT th t (k * 6 * ds0, nx hd0 dm l1)) (by omega) (by omega) (by have := nx_b (dm := dm) hd9 hl1; omega) (tG_hear hg (by show k * 6 * ds0 < 2 ^ 31; omega)) (by rw [rowE_cons hb2 hb1] at K; exact K)
          · skip
            refine V_iload C dX7_echoes_131 1 rfl ?_
            refine V_goto (tgt := 145) C dX7_echoes_133 (by decide) ?_
            refine V_iastn C dX7_echoes_145 rfl wset_s (by omega) (by decide) ?_
            refine V_wd (w' := wset (SW i ad σ o) ([i, 9]) (eI 4 (upd (upd (upd (tF t) 0 (t.1 + (nI 1))) 1 (t.2.1 + (nI 1))) 2 (nI (k * 6 * ds0))))) wset_wset ?_
            refine V_aload C dX7_echoes_146 3 rfl ?_
            refine V_iconst (v := nI 3) C dX7_echoes_148 (by decide) ?_
            refine V_aload C dX7_echoes_149 3 rfl ?_
            refine V_iconst (v := nI 3) C dX7_echoes_151 (by decide) ?_
            refine V_ialdn (v := t.2.2.2) C dX7_echoes_152 rfl wset_s (by decide) (by decide) rfl ?_
            refine V_iload C dX7_echoes_153 1 rfl ?_
            refine V_max C dX7_echoes_155 tw_488 tw_300 tw_15 tw_301 (by omega) (by simp [Value.category]; try omega) (by omega) (by omega) ?_
            refine V_iastn C dX7_echoes_158 rfl wset_s (by omega) (by decide) ?_
            refine V_wd (w' := wset (SW i ad σ o) ([i, 9]) (eI 4 (upd (upd (upd (upd (tF t) 0 (t.1 + (nI 1))) 1 (t.2.1 + (nI 1))) 2 (nI (k * 6 * ds0))) 3 (if t.2.2.2 < (nI (k * 6 * ds0)) then (nI (k * 6 * ds0)) else t.2.2.2)))) wset_wset ?_
            refine V_iload C dX7_echoes_159 1 rfl ?_
            refine V_bipush (v := nI 6) C dX7_echoes_161 (by decide) ?_
            refine V_aload_n C dX7_echoes_163 4 rfl ?_
            refine V_get (ci := 6) (k := 0) C dX7_echoes_164 RX7 RX7 TX7 5 fw_X7 rfl (by decide) tw_528 rfl rfl ((wset_n (by simp)).trans (SW_h hj)) rfl ?_
            refine V_iload C dX7_echoes_167 2 rfl ?_
            refine V_aaldA (v := .ref (ad [i, 6, j, u])) C dX7_echoes_169 rfl ((wset_n (by simp)).trans (SW_s hj)) (by omega) (by omega) (by rw [adN_lt hk0]; rfl) ?_
            refine V_iconst (v := nI 0) C dX7_echoes_170 (by decide) ?_
            refine V_ialdn (v := (nI ds0)) C dX7_echoes_171 rfl ((wset_n (by simp)).trans (SW_u hj hk0)) (by decide) (by decide) (congrArg nI hds0) ?_
            refine V_imuln C dX7_echoes_172 ?_
            refine V_iaddn C dX7_echoes_173 ?_
            refine V_istore C [(8, .int (nI ((k * 6 * ds0) + (6 * ds0)))), (7, .int (nI (nx hd0 dm l1))), (6, .int (nI u)), (5, .ref (ad [i, 9])), (0, .ref (ad [i, 3, j])), (1, .int (nI click)), (2, .int th), (3, .int (nI dm)), (4, .int (nI du))] dX7_echoes_174 (by decide) rfl ?_
            refine V_goto (tgt := 51) C dX7_echoes_176 (by decide) ?_
            refine V_wd (w' := wset (SW i ad σ o) [i, 9] (eI 4 (tF (hearT th t (k * 6 * ds0, nx hd0 dm l1))))) (congrArg (fun f => wset (SW i ad σ o) [i, 9] (eI 4 f)) (tF_up.trans (congrArg tF (Prod.ext rfl (Prod.ext (law_lo (x := t.2.1) hb3) (Prod.ext (law_fi0 hg (Int32.not_le.mp hb5)) law_la)))))) ?_
            rw [show k * 6 * ds0 + 6 * ds0 = (k + 1) * 6 * ds0 from by rw [Nat.add_mul, Nat.add_mul, Nat.one_mul]]
            refine V_lv [0, 1, 2, 3, 4, 5, 6, 7, 8] rfl ?_
            exact ih (k + 1) (nx hd0 dm l1) (hearT th t (k * 6 * ds0, nx hd0 dm l1)) (by omega) (by omega) (by have := nx_b (dm := dm) hd9 hl1; omega) (tG_hear hg (by show k * 6 * ds0 < 2 ^ 31; omega)) (by rw [rowE_cons hb2 hb1] at K; exact K)
      · skip
        refine V_goto (tgt := 179) C dX7_echoes_92 (by decide) ?_
        refine V_lv [2, 3, 4, 5, 6, 7, 8] rfl ?_
        exact (by rw [rowE_nil (Or.inl hb2)] at K; exact K)
set_option maxHeartbeats 4000000 in
theorem lp_se1 {p : Program} {l : Launch} {e : Env} {s : State} {m : MethodId} {args : Array Value} {below : List Frame} {meth : Method} {c : Code} {D : va_G} {ba d mc ms : Nat} {ad : Adr} {QR : Option Value → Adr → Wd → Prop} {QX : String → Adr → Wd → Prop} (C : Cx p l s m args meth c D ba RX7 cX7_echoes 9 [] d) (hl : l.stackTraces = false) (hr : meth.sig.returnType = (some (.array .int))) (hd : 3 ≤ d) {i : Nat} {σ : CS} {o : Wd} (hσ : cOK σ) {j : Nat} (hj : j < cN σ) {click dm du : Nat} (hdm : dm ≤ 90) (hdu : du ≤ 100) (hcl : click ≤ 1000) (th : Int32) (hmc : 1 ≤ mc) (hms : 4 ≤ ms) (hq : QR (some (.ref (ad [i, 9]))) ad (wset (SW i ad σ o) [i, 9] (eI 4 (tF (upF (rowsT th dm du click (hSu (cH σ j))) (hSc (cH σ j)) t00))))) : ∀ (n : Nat) (u : Nat), u + n = hSc (cH σ j) → V p l e s m args below meth c D ba d mc ms (MO D ba QR QX below args s mc ms) 9 ad (wset (SW i ad σ o) [i, 9] (eI 4 (tF (upF (rowsT th dm du click (hSu (cH σ j))) u t00)))) 24 [(6, .int (nI u)), (5, .ref (ad [i, 9])), (0, .ref (ad [i, 3, j])), (1, .int (nI click)), (2, .int th), (3, .int (nI dm)), (4, .int (nI du))] [] (0 + 1) (0 + 4) := by
  intro n
  induction n with
  | zero =>
    intro u hk
    have hu := hσ.2.2.1 j hj
    have hu1 := hu.1
    have hu2 := hu.2.1
    have hu3 := hu.2.2.1
    have hu4 := hu.2.2.2.1
    have hσ1 := hσ.1
    have hσ2 := hσ.2.1
    refine V_iload C dX7_echoes_24 0 rfl ?_
    refine V_aload_n C dX7_echoes_26 2 rfl ?_
    refine V_get (ci := 6) (k := 0) C dX7_echoes_27 RX7 RX7 TX7 5 fw_X7 rfl (by decide) tw_528 rfl rfl ((wset_n (by simp)).trans (SW_h hj)) rfl ?_
    refine V_alen (v := nI (hSc (cH σ j))) C dX7_echoes_30 rfl ((wset_n (by simp)).trans (SW_s hj)) rfl ?_
    refine V_icmpn_ge (tgt := 185) C dX7_echoes_31 (by decide) (by omega) (by omega) (fun hb1 => ?_) (fun hb1 => by exfalso; omega)
    refine V_aload C dX7_echoes_185 1 rfl ?_
    exact V_aretA C .int dX7_echoes_187 hr (by rw [show u = hSc (cH σ j) by omega]; exact hq) (by omega) (by omega)
  | succ n ih =>
    intro u hk
    have hu := hσ.2.2.1 j hj
    have hu1 := hu.1
    have hu2 := hu.2.1
    have hu3 := hu.2.2.1
    have hu4 := hu.2.2.2.1
    have hσ1 := hσ.1
    have hσ2 := hσ.2.1
    refine V_iload C dX7_echoes_24 0 rfl ?_
    refine V_aload_n C dX7_echoes_26 2 rfl ?_
    refine V_get (ci := 6) (k := 0) C dX7_echoes_27 RX7 RX7 TX7 5 fw_X7 rfl (by decide) tw_528 rfl rfl ((wset_n (by simp)).trans (SW_h hj)) rfl ?_
    refine V_alen (v := nI (hSc (cH σ j))) C dX7_echoes_30 rfl ((wset_n (by simp)).trans (SW_s hj)) rfl ?_
    refine V_icmpn_ge (tgt := 185) C dX7_echoes_31 (by decide) (by omega) (by omega) (fun hb1 => by exfalso; omega) (fun hb1 => ?_)
    have hk0 : u < hSc (cH σ j) := by omega
    refine V_iload_n C dX7_echoes_34 3 rfl ?_
    refine V_istore C [(7, .int (nI click)), (6, .int (nI u)), (5, .ref (ad [i, 9])), (0, .ref (ad [i, 3, j])), (1, .int (nI click)), (2, .int th), (3, .int (nI dm)), (4, .int (nI du))] dX7_echoes_35 (by decide) rfl ?_
    refine V_bipush (v := nI 6) C dX7_echoes_37 (by decide) ?_
    refine V_aload_n C dX7_echoes_39 3 rfl ?_
    refine V_get (ci := 6) (k := 0) C dX7_echoes_40 RX7 RX7 TX7 5 fw_X7 rfl (by decide) tw_528 rfl rfl ((wset_n (by simp)).trans (SW_h hj)) rfl ?_
    refine V_iload C dX7_echoes_43 1 rfl ?_
    refine V_aaldA (v := .ref (ad [i, 6, j, u])) C dX7_echoes_45 rfl ((wset_n (by simp)).trans (SW_s hj)) (by omega) (by omega) (by rw [adN_lt hk0]; rfl) ?_
    refine V_iconst (v := nI 0) C dX7_echoes_46 (by decide) ?_
    refine V_ialdn (v := (nI ((hSu (cH σ j) u).2))) C dX7_echoes_47 rfl ((wset_n (by simp)).trans (SW_u hj hk0)) (by decide) (by decide) rfl ?_
    refine V_imuln C dX7_echoes_48 ?_
    refine V_istore C [(8, .int (nI (6 * ((hSu (cH σ j) u).2)))), (7, .int (nI click)), (6, .int (nI u)), (5, .ref (ad [i, 9])), (0, .ref (ad [i, 3, j])), (1, .int (nI click)), (2, .int th), (3, .int (nI dm)), (4, .int (nI du))] dX7_echoes_49 (by decide) rfl ?_
    rw [show 6 * (hSu (cH σ j) u).2 = 1 * 6 * (hSu (cH σ j) u).2 by omega]
    refine V_lv [0, 1, 2, 3, 4, 5, 6, 7, 8] rfl ?_
    refine lp_se2 C hl hr (by omega) hσ hj hdm hdu hcl th (by omega) (by omega) hk0 rfl rfl 500 1 click _ (by omega) (by omega) hcl (tG_rows _) ?_
    refine V_wd (w' := wset (SW i ad σ o) [i, 9] (eI 4 (tF (upF (rowsT th dm du click (hSu (cH σ j))) (u + 1) t00)))) rfl ?_
    refine V_iincn C [(6, .int (nI (u + 1))), (5, .ref (ad [i, 9])), (0, .ref (ad [i, 3, j])), (1, .int (nI click)), (2, .int th), (3, .int (nI dm)), (4, .int (nI du))] dX7_echoes_179 0 rfl (by decide) rfl ?_
    refine V_goto (tgt := 24) C dX7_echoes_182 (by decide) ?_
    refine V_lv [0, 1, 2, 3, 4, 5, 6] rfl ?_
    exact ih (u + 1) (by omega)
set_option maxHeartbeats 4000000 in
theorem s_echoes {l : Launch} {D : va_G} {ba d : Nat} {ad : Adr} (hl : l.stackTraces = false) (hd : 4 ≤ d) {i : Nat} {σ : CS} {o : Wd} (hσ : cOK σ) {j : Nat} (hj : j < cN σ) {click dm du : Nat} (hdm : dm ≤ 90) (hdu : du ≤ 100) (hcl : click ≤ 1000) (th : Int32)  : CT l yX7_echoes (wsO yX7_echoes cX7_echoes 9 (some (.array .int))) d 1 4 D ba [.ref (ad [i, 3, j]), .int (nI click), .int th, .int (nI dm), .int (nI du)] ad (SW i ad σ o) (fun v ad' w' => ∃ q, v = some (.ref q) ∧ ad' = aset ad [i, 9] q ∧ w' = wset (SW i ad σ o) [i, 9] (eI 4 (tF (upF (rowsT th dm du click (hSu (cH σ j))) (hSc (cH σ j)) t00)))) noX := by
  refine CT_of RX7 rfl (by decide +kernel) hl (Nat.le_of_ble_eq_true rfl) ?_
  intro p e s m args below meth c C hr hnm
  refine V_lvE (lv' := [(0, .ref (ad [i, 3, j])), (1, .int (nI click)), (2, .int th), (3, .int (nI dm)), (4, .int (nI du))]) rfl ?_
  refine V_iconst (v := nI 4) C dX7_echoes_0 (by decide) ?_
  refine V_newIn (N := 4) C [i, 9] dX7_echoes_1 tw_69 (by decide) SW_9 (by omega) (by omega) (fun q => ?_)
  obtain ⟨ad1, hA⟩ : ∃ z, z = aset ad [i, 9] q := ⟨_, rfl⟩
  have hq9 : q = ad1 [i, 9] := by rw [hA]; exact aset_s.symm
  have hN3 : ad [i, 3, j] = ad1 [i, 3, j] := by rw [hA]; exact (aset_n (by simp)).symm
  rw [← hA, hN3]
  refine V_wd (w' := wset (SW i ad1 σ o) [i, 9] (eI 4 (fun _ => 0))) (by rw [hA, SW_ad9]) ?_
  refine V_stE (st' := [.ref (ad1 [i, 9])]) (by rw [hq9]) ?_
  refine V_dup C dX7_echoes_3 rfl ?_
  refine V_iconst (v := nI 0) C dX7_echoes_4 (by decide) ?_
  refine V_iconst (v := nI 0) C dX7_echoes_5 (by decide) ?_
  refine V_iastn C dX7_echoes_6 rfl wset_s (by omega) (by decide) ?_
  refine V_wd (w' := wset (SW i ad1 σ o) ([i, 9]) (eI 4 (upd (fun _ => 0) 0 (nI 0)))) wset_wset ?_
  refine V_dup C dX7_echoes_7 rfl ?_
  refine V_iconst (v := nI 1) C dX7_echoes_8 (by decide) ?_
  refine V_iconst (v := nI 0) C dX7_echoes_9 (by decide) ?_
  refine V_iastn C dX7_echoes_10 rfl wset_s (by omega) (by decide) ?_
  refine V_wd (w' := wset (SW i ad1 σ o) ([i, 9]) (eI 4 (upd (upd (fun _ => 0) 0 (nI 0)) 1 (nI 0)))) wset_wset ?_
  refine V_dup C dX7_echoes_11 rfl ?_
  refine V_iconst (v := nI 2) C dX7_echoes_12 (by decide) ?_
  refine V_iconst (v := -1) C dX7_echoes_13 (by decide) ?_
  refine V_iastn C dX7_echoes_14 rfl wset_s (by omega) (by decide) ?_
  refine V_wd (w' := wset (SW i ad1 σ o) ([i, 9]) (eI 4 (upd (upd (upd (fun _ => 0) 0 (nI 0)) 1 (nI 0)) 2 (-1)))) wset_wset ?_
  refine V_dup C dX7_echoes_15 rfl ?_
  refine V_iconst (v := nI 3) C dX7_echoes_16 (by decide) ?_
  refine V_iconst (v := -1) C dX7_echoes_17 (by decide) ?_
  refine V_iastn C dX7_echoes_18 rfl wset_s (by omega) (by decide) ?_
  refine V_wd (w' := wset (SW i ad1 σ o) ([i, 9]) (eI 4 (upd (upd (upd (upd (fun _ => 0) 0 (nI 0)) 1 (nI 0)) 2 (-1)) 3 (-1)))) wset_wset ?_
  refine V_astore C [(5, .ref (ad1 [i, 9])), (0, .ref (ad1 [i, 3, j])), (1, .int (nI click)), (2, .int th), (3, .int (nI dm)), (4, .int (nI du))] dX7_echoes_19 (by decide) rfl ?_
  refine V_iconst (v := nI 0) C dX7_echoes_21 (by decide) ?_
  refine V_istore C [(6, .int (nI 0)), (5, .ref (ad1 [i, 9])), (0, .ref (ad1 [i, 3, j])), (1, .int (nI click)), (2, .int th), (3, .int (nI dm)), (4, .int (nI du))] dX7_echoes_22 (by decide) rfl ?_
  refine V_wd (w' := wset (SW i ad1 σ o) [i, 9] (eI 4 (tF (upF (rowsT th dm du click (hSu (cH σ j))) 0 t00)))) rfl ?_
  refine V_lv [0, 1, 2, 3, 4, 5, 6] rfl ?_
  exact lp_se1 C hl hr (by omega) hσ hj hdm hdu hcl th (by omega) (by omega) ⟨q, by rw [hq9], hA, by rw [hA, SW_ad9]⟩ (hSc (cH σ j)) 0 (by omega)
section BK
variable {p : Program} {l : Launch} {e : Env} {s : State} {m : MethodId} {args : Array Value} {below : List Frame} {meth : Method} {c : Code} {D : va_G} {ba d mc ms nL pc cells slots : Nat} {ad : Adr} {Q : State → Prop} {lv : List (Nat × Value)} {rest : List Value} {i : Nat} {σ : CS} {o : Wd}
theorem V_back9 {q : Nat} {e0 : Ent} (k : V p l e s m args below meth c D ba d mc ms Q nL ad (SW i ad σ o) pc lv rest cells slots) : V p l e s m args below meth c D ba d mc ms Q nL (aset ad [i, 9] q) (wset (SW i ad σ o) [i, 9] e0) pc lv rest cells slots := by
  refine V_del [i, 9] ?_
  rw [wdel_wset SW_9]
  refine V_adr (ad' := ad) (fun L hL => ?_) k
  by_cases h : L = [i, 9]
  · exact absurd (by rw [h]; exact SW_9) hL
  · exact (aset_n h).symm
end BK
theorem rowE_lz {th : Int32} (E : List (Nat × Nat)) : ∀ t : TT, ∃ a b : Nat, (List.foldl (hearT th) t E).1 = t.1 + nI a ∧ (List.foldl (hearT th) t E).2.1 = t.2.1 + nI b ∧ b ≤ a ∧ a ≤ E.length := by
  induction E with
  | nil => exact fun t => ⟨0, 0, by rw [nI_0, Int32.add_zero]; rfl, by rw [nI_0, Int32.add_zero]; rfl, Nat.le_refl _, Nat.le_refl _⟩
  | cons q E ih =>
    intro t
    obtain ⟨a, b, h1, h2, h3, h4⟩ := ih (hearT th t q)
    have e1 : (hearT th t q).1 = t.1 + nI 1 := rfl
    by_cases hc : nI q.2 < th
    · have e2 : (hearT th t q).2.1 = t.2.1 := by show tLo (nI q.2) th t.2.1 = _; unfold tLo; rw [if_pos hc]
      refine ⟨a + 1, b, ?_, ?_, by omega, by simp only [List.length_cons]; omega⟩
      · rw [List.foldl_cons, h1, e1, Int32.add_assoc, nI_add, Nat.add_comm]
      · rw [List.foldl_cons, h2, e2]
    · have e2 : (hearT th t q).2.1 = t.2.1 + nI 1 := by show tLo (nI q.2) th t.2.1 = _; unfold tLo; rw [if_neg hc]
      refine ⟨a + 1, b + 1, ?_, ?_, by omega, by simp only [List.length_cons]; omega⟩
      · rw [List.foldl_cons, h1, e1, Int32.add_assoc, nI_add, Nat.add_comm]
      · rw [List.foldl_cons, h2, e2, Int32.add_assoc, nI_add, Nat.add_comm]
theorem rowE_len {hd dm ds : Nat} : ∀ n k l, (rowE hd dm ds n k l).length ≤ n
  | 0, _, _ => Nat.le_refl 0
  | n + 1, k, l => by
    rw [rowE]
    split
    · exact Nat.zero_le _
    · split
      · simp only [List.length_cons]
        have := rowE_len (hd := hd) (dm := dm) (ds := ds) n (k + 1) (nx hd dm l)
        omega
      · exact Nat.zero_le _
theorem rows_nat {th : Int32} {dm du click : Nat} {su : Nat → Nat × Nat} : ∀ m, ∃ a b : Nat, (upF (rowsT th dm du click su) m t00).1 = nI a ∧ (upF (rowsT th dm du click su) m t00).2.1 = nI b ∧ b ≤ a ∧ a ≤ 500 * m
  | 0 => ⟨0, 0, rfl, rfl, Nat.le_refl _, Nat.le_refl _⟩
  | m + 1 => by
    obtain ⟨a, b, h1, h2, h3, h4⟩ := rows_nat (th := th) (dm := dm) (du := du) (click := click) (su := su) m
    obtain ⟨a', b', g1, g2, g3, g4⟩ := rowE_lz (th := th) (rowE ((su m).1 - du / 5) dm (su m).2 500 1 click) (upF (rowsT th dm du click su) m t00)
    have hl := rowE_len (hd := (su m).1 - du / 5) (dm := dm) (ds := (su m).2) 500 1 click
    refine ⟨a + a', b + b', ?_, ?_, by omega, by omega⟩
    · show (List.foldl (hearT th) (upF (rowsT th dm du click su) m t00) (rowE ((su m).1 - du / 5) dm (su m).2 500 1 click)).1 = _
      rw [g1, h1, nI_add]
    · show (List.foldl (hearT th) (upF (rowsT th dm du click su) m t00) (rowE ((su m).1 - du / 5) dm (su m).2 500 1 click)).2.1 = _
      rw [g2, h2, nI_add]
theorem tlyW_z {hh : HallS} {q : StdS} {dm du mo : Nat} (hs : hSc hh ≤ 6) (hm : mo < 2 ^ 31) (h : (tlyW hh q dm du).1 = 0) : ¬ nI mo < (tlyW hh q dm du).2.1 := by
  obtain ⟨a, b, h1, h2, h3, h4⟩ := rows_nat (th := nI q.2.1) (dm := dm) (du := du) (click := 1000) (su := hSu hh) (hSc hh)
  have e1 : (tlyW hh q dm du).1 = nI a := h1
  have e2 : (tlyW hh q dm du).2.1 = nI b := h2
  have ha : a = 0 := Nat.eq_zero_of_not_pos (fun z => nI_ne0 z (by omega) (e1.symm.trans h))
  rw [e2]
  exact nI_nlt (by omega) hm
set_option maxHeartbeats 4000000 in
theorem s_meets {l : Launch} {D : va_G} {ba d : Nat} {ad : Adr} (hl : l.stackTraces = false) (hd : 5 ≤ d) {i : Nat} {σ : CS} {o : Wd} (hσ : cOK σ) {j : Nat} (hj : j < cN σ) {q : Nat} (hq : q < cK σ) {dm du : Nat} (hdm : dm ≤ 90) (hdu : du ≤ 100) : CT l yX7_meets (wsO yX7_meets cX7_meets 5 (some .boolean)) d 1 4 D ba [.ref (ad [i, 3, j]), .ref (ad [i, 4, q]), .int (nI dm), .int (nI du)] ad (SW i ad σ o) (isR (some (.int (nI (metW (cH σ j) (cS σ q) dm du)))) ad (SW i ad σ o)) noX := by
  refine CT_of RX7 rfl (by decide +kernel) hl (Nat.le_of_ble_eq_true rfl) ?_
  intro p e s m args below meth c C hr hnm
  refine V_lvE (lv' := [(0, .ref (ad [i, 3, j])), (1, .ref (ad [i, 4, q])), (2, .int (nI dm)), (3, .int (nI du))]) rfl ?_
  have hu := hσ.2.2.1 j hj
  have hu1 := hu.1
  have hu2 := hu.2.1
  have hu3 := hu.2.2.1
  have hu4 := hu.2.2.2.1
  have hσ1 := hσ.1
  have hσ2 := hσ.2.1
  have hd9 := hσ.2.2.2 q hq
  have hd8 := hd9.2.2.2.1
  refine V_aload_n C dX7_meets_0 0 rfl ?_
  refine V_sipush (v := nI 1000) C dX7_meets_1 (by decide) ?_
  refine V_aload_n C dX7_meets_4 1 rfl ?_
  refine V_iconst (v := nI 1) C dX7_meets_5 (by decide) ?_
  refine V_ialdn (v := (nI ((cS σ q).2.1))) C dX7_meets_6 rfl (SW_d hq) (by decide) (by decide) rfl ?_
  refine V_iload_n C dX7_meets_7 2 rfl ?_
  refine V_iload_n C dX7_meets_8 3 rfl ?_
  refine V_callV (r := (RX7, TX7, 5)) C [.int (nI 1000), .int (nI ((cS σ q).2.1)), .int (nI dm), .int (nI du)] dX7_meets_9 m_X7_echoes k_X7_echoes tw_506 rfl rfl rfl (SW_h hj) rfl rfl (Nat.le_of_ble_eq_true rfl) ⟨by omega, by omega, by omega, by omega⟩ (s_echoes hl (by omega) hσ hj hdm hdu (by decide) (nI (cS σ q).2.1)) ?_ kx_no
  rintro v2 ad2 w2 ⟨q9, rfl, rfl, rfl⟩
  obtain ⟨ad1, hA⟩ : ∃ z, z = aset ad [i, 9] q9 := ⟨_, rfl⟩
  have hq9 : q9 = ad1 [i, 9] := by rw [hA]; exact aset_s.symm
  have hN4 : ad [i, 4, q] = ad1 [i, 4, q] := by rw [hA]; exact (aset_n (by simp)).symm
  refine V_lv [1] rfl ?_
  refine V_lvE (lv' := [(1, .ref (ad1 [i, 4, q]))]) (by rw [← hN4]; rfl) ?_
  refine V_stE (st' := [.ref (ad1 [i, 9])]) (by rw [hq9]; rfl) ?_
  refine V_wd (w' := wset (SW i ad σ o) [i, 9] (eI 4 (tF (tlyW (cH σ j) (cS σ q) dm du)))) rfl ?_
  rw [← hA]
  refine V_astore C [(4, .ref (ad1 [i, 9])), (1, .ref (ad1 [i, 4, q]))] dX7_meets_12 (by decide) rfl ?_
  refine V_aload C dX7_meets_14 0 rfl ?_
  refine V_iconst (v := nI 0) C dX7_meets_16 (by decide) ?_
  refine V_ialdn (v := ((tlyW (cH σ j) (cS σ q) dm du).1)) C dX7_meets_17 rfl wset_s (by decide) (by decide) rfl ?_
  refine V_if_eq (tgt := 41) C dX7_meets_18 (by decide) (fun hb1 => ?_) (fun hb1 => ?_)
  · skip
    refine V_aload C dX7_meets_41 0 rfl ?_
    refine V_iconst (v := nI 1) C dX7_meets_43 (by decide) ?_
    refine V_ialdn (v := ((tlyW (cH σ j) (cS σ q) dm du).2.1)) C dX7_meets_44 rfl wset_s (by decide) (by decide) rfl ?_
    refine V_aload_n C dX7_meets_45 1 rfl ?_
    refine V_iconst (v := nI 2) C dX7_meets_46 (by decide) ?_
    refine V_ialdn (v := (nI ((cS σ q).2.2.1))) C dX7_meets_47 rfl ((wset_n (by simp)).trans (SW_d hq)) (by decide) (by decide) rfl ?_
    refine V_icmp_gt (tgt := 55) C dX7_meets_48 (by decide) (fun hb2 => ?_) (fun hb2 => ?_)
    · skip
      exact absurd hb2 (tlyW_z hu1 (by omega) hb1)
    · skip
      refine V_iconst (v := nI 1) C dX7_meets_51 (by decide) ?_
      refine V_goto (tgt := 56) C dX7_meets_52 (by decide) ?_
      refine V_lv [] rfl ?_
      rw [hA]
      refine V_back9 ?_
      exact V_iret C .boolean dX7_meets_56 hr rfl ⟨by rw [metW, okT, okS, if_pos hb1], rfl, rfl⟩ (by omega) (by omega)
  · skip
    refine V_aload C dX7_meets_21 0 rfl ?_
    refine V_iconst (v := nI 2) C dX7_meets_23 (by decide) ?_
    refine V_ialdn (v := ((tlyW (cH σ j) (cS σ q) dm du).2.2.1)) C dX7_meets_24 rfl wset_s (by decide) (by decide) rfl ?_
    refine V_aload_n C dX7_meets_25 1 rfl ?_
    refine V_iconst (v := nI 0) C dX7_meets_26 (by decide) ?_
    refine V_ialdn (v := (nI ((cS σ q).1))) C dX7_meets_27 rfl ((wset_n (by simp)).trans (SW_d hq)) (by decide) (by decide) rfl ?_
    refine V_icmp_lt (tgt := 55) C dX7_meets_28 (by decide) (fun hb3 => ?_) (fun hb3 => ?_)
    · skip
      refine V_iconst (v := nI 0) C dX7_meets_55 (by decide) ?_
      refine V_lv [] rfl ?_
      rw [hA]
      refine V_back9 ?_
      exact V_iret C .boolean dX7_meets_56 hr rfl ⟨by rw [metW, okT, okS, if_neg hb1, if_pos hb3], rfl, rfl⟩ (by omega) (by omega)
    · skip
      refine V_aload C dX7_meets_31 0 rfl ?_
      refine V_iconst (v := nI 3) C dX7_meets_33 (by decide) ?_
      refine V_ialdn (v := ((tlyW (cH σ j) (cS σ q) dm du).2.2.2)) C dX7_meets_34 rfl wset_s (by decide) (by decide) rfl ?_
      refine V_aload_n C dX7_meets_35 1 rfl ?_
      refine V_iconst (v := nI 3) C dX7_meets_36 (by decide) ?_
      refine V_ialdn (v := (nI ((cS σ q).2.2.2.1))) C dX7_meets_37 rfl ((wset_n (by simp)).trans (SW_d hq)) (by decide) (by decide) rfl ?_
      refine V_icmp_gt (tgt := 55) C dX7_meets_38 (by decide) (fun hb4 => ?_) (fun hb4 => ?_)
      · skip
        refine V_iconst (v := nI 0) C dX7_meets_55 (by decide) ?_
        refine V_lv [] rfl ?_
        rw [hA]
        refine V_back9 ?_
        exact V_iret C .boolean dX7_meets_56 hr rfl ⟨by rw [metW, okT, okS, if_neg hb1, if_neg hb3, if_pos hb4], rfl, rfl⟩ (by omega) (by omega)
      · skip
        refine V_aload C dX7_meets_41 0 rfl ?_
        refine V_iconst (v := nI 1) C dX7_meets_43 (by decide) ?_
        refine V_ialdn (v := ((tlyW (cH σ j) (cS σ q) dm du).2.1)) C dX7_meets_44 rfl wset_s (by decide) (by decide) rfl ?_
        refine V_aload_n C dX7_meets_45 1 rfl ?_
        refine V_iconst (v := nI 2) C dX7_meets_46 (by decide) ?_
        refine V_ialdn (v := (nI ((cS σ q).2.2.1))) C dX7_meets_47 rfl ((wset_n (by simp)).trans (SW_d hq)) (by decide) (by decide) rfl ?_
        refine V_icmp_gt (tgt := 55) C dX7_meets_48 (by decide) (fun hb5 => ?_) (fun hb5 => ?_)
        · skip
          refine V_iconst (v := nI 0) C dX7_meets_55 (by decide) ?_
          refine V_lv [] rfl ?_
          rw [hA]
          refine V_back9 ?_
          exact V_iret C .boolean dX7_meets_56 hr rfl ⟨by rw [metW, okT, okS, if_neg hb1, if_neg hb3, if_neg hb4, if_pos hb5], rfl, rfl⟩ (by omega) (by omega)
        · skip
          refine V_iconst (v := nI 1) C dX7_meets_51 (by decide) ?_
          refine V_goto (tgt := 56) C dX7_meets_52 (by decide) ?_
          refine V_lv [] rfl ?_
          rw [hA]
          refine V_back9 ?_
          exact V_iret C .boolean dX7_meets_56 hr rfl ⟨by rw [metW, okT, okS, if_neg hb1, if_neg hb3, if_neg hb4, if_neg hb5], rfl, rfl⟩ (by omega) (by omega)
end
section

set_option maxHeartbeats 4000000 in
theorem s_strikeG {l : Launch} {D : va_G} {ba d : Nat} {ad : Adr} {w : Wd} (hl : l.stackTraces = false) (hd : 1 ≤ d) {LH : Lab} {sa dm du dy : Nat} {ce : Int32} (hH : w LH = some (eLH sa dm du ce dy)) : CT l yX7_strike (wsO yX7_strike cX7_strike 1 none) d 0 0 D ba [.ref (ad LH)] ad w (isR none ad (wset w LH (eLH sa dm du (-1) 0))) noX := by
  refine CT_of RX7 rfl (by decide +kernel) hl (Nat.le_of_ble_eq_true rfl) ?_
  intro p e s m args below meth c C hr hnm
  refine V_lvE (lv' := [(0, .ref (ad LH))]) rfl ?_
  refine V_aload_n C dX7_strike_0 0 rfl ?_
  refine V_iconst (v := -1) C dX7_strike_1 (by decide) ?_
  refine V_put (ci := 6) (k := 3) C dX7_strike_2 RX7 RX7 TX7 5 tyX7 tyX7_ok nmX7 fw_X7 rfl (by decide) tw_535 rfl (Or.inl rfl) rfl rfl rfl hH (Nat.le_of_ble_eq_true rfl) ?_
  refine V_wd (w' := wset w LH (.inr (6, [.ref sa, .int (nI dm), .int (nI du), .int (-1), .int (nI dy)]))) rfl ?_
  refine V_aload_n C dX7_strike_5 0 rfl ?_
  refine V_iconst (v := nI 0) C dX7_strike_6 (by decide) ?_
  refine V_put (ci := 6) (k := 4) C dX7_strike_7 RX7 RX7 TX7 5 tyX7 tyX7_ok nmX7 fw_X7 rfl (by decide) tw_540 rfl (Or.inl rfl) rfl rfl rfl wset_s (Nat.le_of_ble_eq_true rfl) ?_
  refine V_wd (w' := wset w LH (.inr (6, [.ref sa, .int (nI dm), .int (nI du), .int (-1), .int (nI 0)]))) wset_wset ?_
  exact V_vret C dX7_strike_10 hr ⟨rfl, rfl, rfl⟩ (by omega) (by omega)
set_option maxHeartbeats 4000000 in
theorem lp_with {p : Program} {l : Launch} {e : Env} {s : State} {m : MethodId} {args : Array Value} {below : List Frame} {meth : Method} {c : Code} {D : va_G} {ba d mc ms : Nat} {ad : Adr} {w : Wd} {cells slots : Nat} {QR : Option Value → Adr → Wd → Prop} {QX : String → Adr → Wd → Prop} (C : Cx p l s m args meth c D ba RX8 cX8_with 4 [] d) (hl : l.stackTraces = false) (hr : meth.sig.returnType = (some (.array (.array .int)))) (hd : 1 ≤ d) {LA LR LN : Lab} {n0 m1 : Nat} {Lr : Nat → Lab} {mr : Nat → Nat} {fr : Nat → Nat → Int32} {g : Nat → Int32} (hA : w LA = some (eA n0 (adN n0 (fun k => ad (Lr k))))) (hr0 : ∀ k, k < n0 → w (Lr k) = some (eI (mr k) (fr k))) (hR : w LR = some (eI m1 g)) (hN : w LN = none) (hn8 : n0 ≤ 8) (hcm : cells ≤ mc) (hsm : slots ≤ ms) (hq : QR (some (.ref (ad LN))) ad (wset w LN (eA (n0 + 1) (va_up (adN n0 (fun k => ad (Lr k))) n0 (some (ad LR)))))) : ∀ (n : Nat) (k : Nat), k + n = n0 → V p l e s m args below meth c D ba d mc ms (MO D ba QR QX below args s mc ms) 4 ad (wset w LN (eA (n0 + 1) (adN k (fun j => ad (Lr j))))) 10 [(3, .int (nI k)), (2, .ref (ad LN)), (0, .ref (ad LA)), (1, .ref (ad LR))] [] cells slots := by
  intro n
  induction n with
  | zero =>
    intro k hk
    have neA : LA ≠ LN := fun z => by rw [z, hN] at hA; cases hA
    have neR : LR ≠ LN := fun z => by rw [z, hN] at hR; cases hR
    have neL : ∀ k, k < n0 → Lr k ≠ LN := fun k hk z => by have h := hr0 k hk; rw [z, hN] at h; cases h
    refine V_iload_n C dX8_with_10 0 rfl ?_
    refine V_aload_n C dX8_with_11 2 rfl ?_
    refine V_alen (v := nI n0) C dX8_with_12 rfl ((wset_n neA).trans hA) rfl ?_
    refine V_icmpn_ge (tgt := 28) C dX8_with_13 (by decide) (by omega) (by omega) (fun hb1 => ?_) (fun hb1 => by exfalso; omega)
    refine V_wd (w' := wset w LN (eA (n0 + 1) (adN n0 (fun j => ad (Lr j))))) (by rw [show k = n0 by omega]) ?_
    refine V_aload_n C dX8_with_28 1 rfl ?_
    refine V_aload_n C dX8_with_29 2 rfl ?_
    refine V_alen (v := nI n0) C dX8_with_30 rfl ((wset_n neA).trans hA) rfl ?_
    refine V_aload_n C dX8_with_31 3 rfl ?_
    refine V_aastA C dX8_with_32 rfl wset_s rfl ((wset_n neR).trans hR) (by omega) (by omega) ?_
    refine V_wd (w' := wset (wset w LN (eA (n0 + 1) (adN n0 (fun j => ad (Lr j))))) LN (eA (n0 + 1) (va_up (adN n0 (fun j => ad (Lr j))) n0 (some (ad LR))))) rfl ?_
    refine V_wd (w' := wset w LN (eA (n0 + 1) (va_up (adN n0 (fun k => ad (Lr k))) n0 (some (ad LR))))) wset_wset ?_
    refine V_aload_n C dX8_with_33 1 rfl ?_
    exact V_aretA C (.array .int) dX8_with_34 hr hq (by omega) (by omega)
  | succ n ih =>
    intro k hk
    have neA : LA ≠ LN := fun z => by rw [z, hN] at hA; cases hA
    have neR : LR ≠ LN := fun z => by rw [z, hN] at hR; cases hR
    have neL : ∀ k, k < n0 → Lr k ≠ LN := fun k hk z => by have h := hr0 k hk; rw [z, hN] at h; cases h
    refine V_iload_n C dX8_with_10 0 rfl ?_
    refine V_aload_n C dX8_with_11 2 rfl ?_
    refine V_alen (v := nI n0) C dX8_with_12 rfl ((wset_n neA).trans hA) rfl ?_
    refine V_icmpn_ge (tgt := 28) C dX8_with_13 (by decide) (by omega) (by omega) (fun hb1 => by exfalso; omega) (fun hb1 => ?_)
    refine V_aload_n C dX8_with_16 1 rfl ?_
    refine V_iload_n C dX8_with_17 0 rfl ?_
    refine V_aload_n C dX8_with_18 2 rfl ?_
    refine V_iload_n C dX8_with_19 0 rfl ?_
    have hk2 : k < n0 := by omega
    refine V_aaldA (v := .ref (ad (Lr k))) C dX8_with_20 rfl ((wset_n neA).trans hA) (by omega) (by omega) (by rw [adN_lt hk2]; rfl) ?_
    refine V_aastA C dX8_with_21 rfl wset_s rfl ((wset_n (neL k hk2)).trans (hr0 k hk2)) (by omega) (by omega) ?_
    refine V_wd (w' := wset (wset w LN (eA (n0 + 1) (adN k (fun j => ad (Lr j))))) LN (eA (n0 + 1) (va_up (adN k (fun j => ad (Lr j))) k (some (ad (Lr k)))))) rfl ?_
    refine V_iincn C [(3, .int (nI (k + 1))), (2, .ref (ad LN)), (0, .ref (ad LA)), (1, .ref (ad LR))] dX8_with_22 0 rfl (by decide) rfl ?_
    refine V_goto (tgt := 10) C dX8_with_25 (by decide) ?_
    refine V_wd (w' := wset w LN (eA (n0 + 1) (adN (k + 1) (fun j => ad (Lr j))))) (by rw [wset_wset, adN_up rfl]) ?_
    refine V_lv [0, 1, 2, 3] rfl ?_
    exact ih (k + 1) (by omega)
set_option maxHeartbeats 4000000 in
theorem s_with {l : Launch} {D : va_G} {ba d : Nat} {ad : Adr} {w : Wd} (hl : l.stackTraces = false) (hd : 1 ≤ d) {LA LR LN : Lab} {n0 m1 : Nat} {Lr : Nat → Lab} {mr : Nat → Nat} {fr : Nat → Nat → Int32} {g : Nat → Int32} (hA : w LA = some (eA n0 (adN n0 (fun k => ad (Lr k))))) (hr0 : ∀ k, k < n0 → w (Lr k) = some (eI (mr k) (fr k))) (hR : w LR = some (eI m1 g)) (hN : w LN = none) (hn8 : n0 ≤ 8)  : CT l yX8_with (wsO yX8_with cX8_with 4 (some (.array (.array .int)))) d 1 9 D ba [.ref (ad LA), .ref (ad LR)] ad w (fun v ad' w' => ∃ q, v = some (.ref q) ∧ ad' = aset ad LN q ∧ w' = wset w LN (eA (n0 + 1) (va_up (adN n0 (fun k => ad (Lr k))) n0 (some (ad LR))))) noX := by
  refine CT_of RX8 rfl (by decide +kernel) hl (Nat.le_of_ble_eq_true rfl) ?_
  intro p e s m args below meth c C hr hnm
  refine V_lvE (lv' := [(0, .ref (ad LA)), (1, .ref (ad LR))]) rfl ?_
  have neA : LA ≠ LN := fun z => by rw [z, hN] at hA; cases hA
  have neR : LR ≠ LN := fun z => by rw [z, hN] at hR; cases hR
  have neL : ∀ k, k < n0 → Lr k ≠ LN := fun k hk z => by have h := hr0 k hk; rw [z, hN] at h; cases h
  refine V_aload_n C dX8_with_0 0 rfl ?_
  refine V_alen (v := nI n0) C dX8_with_1 rfl hA rfl ?_
  refine V_iconst (v := nI 1) C dX8_with_2 (by decide) ?_
  refine V_iaddn C dX8_with_3 ?_
  refine V_newA (N := n0 + 1) C LN dX8_with_4 tw_555 (by omega) hN (by omega) (by omega) (fun q => ?_)
  obtain ⟨ad1, hA1⟩ : ∃ z, z = aset ad LN q := ⟨_, rfl⟩
  have hq9 : q = ad1 LN := by rw [hA1]; exact aset_s.symm
  have hNA : ad LA = ad1 LA := by rw [hA1]; exact (aset_n neA).symm
  have hNR : ad LR = ad1 LR := by rw [hA1]; exact (aset_n neR).symm
  have hNL : adN n0 (fun k => ad (Lr k)) = adN n0 (fun k => ad1 (Lr k)) := adN_congr (fun k hk => by rw [hA1]; exact (aset_n (neL k hk)).symm)
  rw [← hA1, hNA, hNR]
  refine V_stE (st' := [.ref (ad1 LN)]) (by rw [hq9]) ?_
  refine V_astore_n C [(2, .ref (ad1 LN)), (0, .ref (ad1 LA)), (1, .ref (ad1 LR))] dX8_with_7 (by decide) rfl ?_
  refine V_iconst (v := nI 0) C dX8_with_8 (by decide) ?_
  refine V_istore_n C [(3, .int (nI 0)), (2, .ref (ad1 LN)), (0, .ref (ad1 LA)), (1, .ref (ad1 LR))] dX8_with_9 (by decide) rfl ?_
  refine V_wd (w' := wset w LN (eA (n0 + 1) (adN 0 (fun j => ad1 (Lr j))))) (by congr 1) ?_
  exact lp_with (ad := ad1) C hl hr (by omega) (by rw [hA, hNL]) hr0 hR hN hn8 (by omega) (by omega) ⟨q, by rw [hq9], hA1, by rw [hNL]⟩ n0 0 (by omega)
def hI (h : HallS) : Prop := (hCe h = -1 ∧ hDy h = 0) ∨ ∃ q : Nat, q < 5 ∧ hCe h = nI q ∧ 1 ≤ hDy h
def cI (σ : CS) : Prop := ∀ j, j < cN σ → hI (cH σ j)
theorem hI_lt {h : HallS} (hi : hI h) (hc : hCe h < 0) : hCe h = -1 ∧ hDy h = 0 := by
  rcases hi with z | ⟨q, h5, hq, hy⟩
  · exact z
  · rw [hq] at hc; exact absurd hc (nI_pos (by omega))
theorem hI_ge {h : HallS} (hi : hI h) (hc : ¬ hCe h < 0) : ¬ hCe h = -1 ∧ 1 ≤ hDy h := by
  rcases hi with ⟨z, -⟩ | ⟨q, h5, hq, hy⟩
  · rw [z] at hc; exact absurd (by decide) hc
  · exact ⟨fun z => by rw [z] at hc; exact hc (by decide), hy⟩
theorem cI_set {σ : CS} {j : Nat} {h : HallS} (hσ : cI σ) (hh : hI h) : cI (setH σ j h) := by
  intro a ha
  show hI (fup (cH σ) j h a)
  by_cases hj : a = j
  · subst hj; rw [fup_s]; exact hh
  · rw [fup_n hj]; exact hσ a ha
theorem certN_T {H : Nat → HallS} {k x : Nat} (h : hCe (H k) = -1) : x + 0 = certN H k x := by unfold certN; rw [if_pos h]; rfl
theorem certN_F {H : Nat → HallS} {k x : Nat} (h : ¬ hCe (H k) = -1) : x + 1 = certN H k x := by unfold certN; rw [if_neg h]
theorem upF_succ {α : Type} {g : Nat → α → α} {m : Nat} {x : α} : upF g (m + 1) x = g m (upF g m x) := rfl
theorem upF_cert_le {H : Nat → HallS} : ∀ m, upF (certN H) m 0 ≤ m := certs_le H
set_option maxHeartbeats 4000000 in
theorem lp_cert {p : Program} {l : Launch} {e : Env} {s : State} {m : MethodId} {args : Array Value} {below : List Frame} {meth : Method} {c : Code} {D : va_G} {ba d mc ms : Nat} {ad : Adr} {QR : Option Value → Adr → Wd → Prop} {QX : String → Adr → Wd → Prop} (C : Cx p l s m args meth c D ba RX8 cX8_certified 6 [] d) (hl : l.stackTraces = false) (hr : meth.sig.returnType = (some .int)) (hd : 1 ≤ d) {i : Nat} {σ : CS} {o : Wd} (hσ : cOK σ) (hI0 : cI σ) (hq : QR (some (.int (nI (certs (cH σ) (cN σ))))) ad (SW i ad σ o)) : ∀ (n : Nat) (k : Nat), k + n = cN σ → V p l e s m args below meth c D ba d mc ms (MO D ba QR QX below args s mc ms) 6 ad (SW i ad σ o) 13 [(4, .int (nI k)), (3, .int (nI (cN σ))), (2, .ref (ad [i, 1])), (1, .int (nI (upF (certN (cH σ)) k 0))), (0, .ref (ad [i]))] [] 0 0 := by
  intro n
  induction n with
  | zero =>
    intro k hk
    have hσ1 := hσ.1
    refine V_iload C dX8_certified_13 0 rfl ?_
    refine V_iload_n C dX8_certified_15 1 rfl ?_
    refine V_icmpn_ge (tgt := 47) C dX8_certified_16 (by decide) (by omega) (by omega) (fun hb1 => ?_) (fun hb1 => by exfalso; omega)
    refine V_iload_n C dX8_certified_47 3 rfl ?_
    exact V_iret C .int dX8_certified_48 hr rfl (by rw [show k = cN σ by omega]; exact hq) (by omega) (by omega)
  | succ n ih =>
    intro k hk
    have hσ1 := hσ.1
    refine V_iload C dX8_certified_13 0 rfl ?_
    refine V_iload_n C dX8_certified_15 1 rfl ?_
    refine V_icmpn_ge (tgt := 47) C dX8_certified_16 (by decide) (by omega) (by omega) (fun hb1 => by exfalso; omega) (fun hb1 => ?_)
    refine V_aload_n C dX8_certified_19 2 rfl ?_
    refine V_iload C dX8_certified_20 0 rfl ?_
    have hk2 : k < cN σ := by omega
    have hle := upF_cert_le (H := cH σ) k
    refine V_aaldn (v := .ref (ad [i, 3, k])) C dX8_certified_22 rfl SW_hr (by omega) (by omega) (by rw [adN_lt hk2]; rfl) ?_
    refine V_astore C [(5, .ref (ad [i, 3, k])), (4, .int (nI k)), (3, .int (nI (cN σ))), (2, .ref (ad [i, 1])), (1, .int (nI (upF (certN (cH σ)) k 0))), (0, .ref (ad [i]))] dX8_certified_23 (by decide) rfl ?_
    refine V_iload_n C dX8_certified_25 4 rfl ?_
    refine V_aload C dX8_certified_26 0 rfl ?_
    refine V_get (ci := 6) (k := 3) C dX8_certified_28 RX7 RX7 TX7 5 fw_X7 rfl (by decide) tw_536 rfl rfl (SW_h hk2) rfl ?_
    refine V_if_lt (tgt := 38) C dX8_certified_31 (by decide) (fun hb2 => ?_) (fun hb2 => ?_)
    · skip
      refine V_iconst (v := nI 0) C dX8_certified_38 (by decide) ?_
      refine V_iaddn C dX8_certified_39 ?_
      refine V_istore_n C [(1, .int (nI ((upF (certN (cH σ)) k 0) + 0))), (5, .ref (ad [i, 3, k])), (4, .int (nI k)), (3, .int (nI (cN σ))), (2, .ref (ad [i, 1])), (0, .ref (ad [i]))] dX8_certified_40 (by decide) rfl ?_
      refine V_iincn C [(4, .int (nI (k + 1))), (1, .int (nI ((upF (certN (cH σ)) k 0) + 0))), (5, .ref (ad [i, 3, k])), (3, .int (nI (cN σ))), (2, .ref (ad [i, 1])), (0, .ref (ad [i]))] dX8_certified_41 2 rfl (by decide) rfl ?_
      refine V_goto (tgt := 13) C dX8_certified_44 (by decide) ?_
      rw [show (upF (certN (cH σ)) k 0) + 0 = upF (certN (cH σ)) (k + 1) 0 from certN_T (hI_lt (hI0 k hk2) hb2).1]
      refine V_lv [0, 3, 4, 1, 5] rfl ?_
      exact ih (k + 1) (by omega)
    · skip
      refine V_iconst (v := nI 1) C dX8_certified_34 (by decide) ?_
      refine V_goto (tgt := 39) C dX8_certified_35 (by decide) ?_
      refine V_iaddn C dX8_certified_39 ?_
      refine V_istore_n C [(1, .int (nI ((upF (certN (cH σ)) k 0) + 1))), (5, .ref (ad [i, 3, k])), (4, .int (nI k)), (3, .int (nI (cN σ))), (2, .ref (ad [i, 1])), (0, .ref (ad [i]))] dX8_certified_40 (by decide) rfl ?_
      refine V_iincn C [(4, .int (nI (k + 1))), (1, .int (nI ((upF (certN (cH σ)) k 0) + 1))), (5, .ref (ad [i, 3, k])), (3, .int (nI (cN σ))), (2, .ref (ad [i, 1])), (0, .ref (ad [i]))] dX8_certified_41 2 rfl (by decide) rfl ?_
      refine V_goto (tgt := 13) C dX8_certified_44 (by decide) ?_
      rw [show (upF (certN (cH σ)) k 0) + 1 = upF (certN (cH σ)) (k + 1) 0 from certN_F (hI_ge (hI0 k hk2) hb2).1]
      refine V_lv [0, 3, 4, 1, 5] rfl ?_
      exact ih (k + 1) (by omega)
set_option maxHeartbeats 4000000 in
theorem s_certified {l : Launch} {D : va_G} {ba d : Nat} {ad : Adr} (hl : l.stackTraces = false) (hd : 1 ≤ d) {i : Nat} {σ : CS} {o : Wd} (hσ : cOK σ) (hI0 : cI σ)  : CT l yX8_certified (wsO yX8_certified cX8_certified 6 (some .int)) d 0 0 D ba [.ref (ad [i])] ad (SW i ad σ o) (isR (some (.int (nI (certs (cH σ) (cN σ))))) ad (SW i ad σ o)) noX := by
  refine CT_of RX8 rfl (by decide +kernel) hl (Nat.le_of_ble_eq_true rfl) ?_
  intro p e s m args below meth c C hr hnm
  refine V_lvE (lv' := [(0, .ref (ad [i]))]) rfl ?_
  refine V_iconst (v := nI 0) C dX8_certified_0 (by decide) ?_
  refine V_istore_n C [(1, .int (nI 0)), (0, .ref (ad [i]))] dX8_certified_1 (by decide) rfl ?_
  refine V_aload_n C dX8_certified_2 1 rfl ?_
  refine V_get (ci := 7) (k := 2) C dX8_certified_3 RX8 RX8 TX8 4 fw_X8 rfl (by decide) tw_647 rfl rfl SW_b rfl ?_
  refine V_astore_n C [(2, .ref (ad [i, 1])), (1, .int (nI 0)), (0, .ref (ad [i]))] dX8_certified_6 (by decide) rfl ?_
  refine V_aload_n C dX8_certified_7 0 rfl ?_
  refine V_alen (v := nI (cN σ)) C dX8_certified_8 rfl SW_hr rfl ?_
  refine V_istore_n C [(3, .int (nI (cN σ))), (2, .ref (ad [i, 1])), (1, .int (nI 0)), (0, .ref (ad [i]))] dX8_certified_9 (by decide) rfl ?_
  refine V_iconst (v := nI 0) C dX8_certified_10 (by decide) ?_
  refine V_istore C [(4, .int (nI 0)), (3, .int (nI (cN σ))), (2, .ref (ad [i, 1])), (1, .int (nI 0)), (0, .ref (ad [i]))] dX8_certified_11 (by decide) rfl ?_
  refine V_lv [0, 1, 2, 3, 4] rfl ?_
  exact lp_cert C hl hr (by omega) hσ hI0 ⟨rfl, rfl, rfl⟩ (cN σ) 0 (by omega)
def passF : Nat → Nat → CS → CS
  | 0, _, σ => σ
  | n + 1, k, σ => passF n (k + 1) (setH σ k (oldH 1 (cH σ k)))
abbrev dayUp (σ : CS) : CS := (cN σ, cK σ, cDay σ + nI 1, cIns σ, cH σ, cS σ)
theorem passF_eq {σ : CS} : ∀ n k, passF n k (cN σ, cK σ, cDay σ, cIns σ, olderH 1 (cH σ) k, cS σ) = (cN σ, cK σ, cDay σ, cIns σ, olderH 1 (cH σ) (k + n), cS σ)
  | 0, k => rfl
  | n + 1, k => by
    show passF n (k + 1) (cN σ, cK σ, cDay σ, cIns σ, fup (olderH 1 (cH σ) k) k (oldH 1 (olderH 1 (cH σ) k k)), cS σ) = _
    rw [olderH_s, passF_eq n (k + 1), show k + 1 + n = k + (n + 1) by omega]
theorem passF_all {σ : CS} : passF (cN σ) 0 σ = (cN σ, cK σ, cDay σ, cIns σ, olderH 1 (cH σ) (cN σ), cS σ) := by
  have h := passF_eq (σ := σ) (cN σ) 0
  rw [olderH_0, Nat.zero_add] at h
  exact h
theorem hI_old {h : HallS} (hi : hI h) : hI (oldH 1 h) := by
  by_cases hc : 1 < hDy h
  · rcases hi with ⟨z, z2⟩ | ⟨q, h5, hq, hy⟩
    · omega
    · refine Or.inr ⟨q, h5, ?_, ?_⟩
      · show (if 1 < hDy h then hCe h else -1) = nI q
        rw [if_pos hc]; exact hq
      · show 1 ≤ hDy h - 1
        omega
  · refine Or.inl ⟨?_, ?_⟩
    · show (if 1 < hDy h then hCe h else -1) = -1
      rw [if_neg hc]
    · show hDy h - 1 = 0
      omega
theorem old_eq {h : HallS} {du dy : Nat} {ce : Int32} (h1 : du = min 100 (hDu h + 1)) (h2 : ce = if 1 < hDy h then hCe h else -1) (h3 : dy = hDy h - 1) : ((hSc h, hDm h, du, ce, dy, hSu h) : HallS) = oldH 1 h := by
  subst h1; subst h2; subst h3; rfl
set_option maxHeartbeats 4000000 in
theorem lp_passS {p : Program} {l : Launch} {e : Env} {s : State} {m : MethodId} {args : Array Value} {below : List Frame} {meth : Method} {c : Code} {D : va_G} {ba d mc ms : Nat} {ad : Adr} {QR : Option Value → Adr → Wd → Prop} {QX : String → Adr → Wd → Prop} (C : Cx p l s m args meth c D ba RX8 cX8_pass 5 [] d) (hl : l.stackTraces = false) (hr : meth.sig.returnType = none) (hd : 2 ≤ d) {i : Nat} {o : Wd}  : ∀ (n : Nat) (k : Nat) (σ : CS), k + n = cN σ → cOK σ → cI σ → QR none ad (SW i ad (dayUp (passF n k σ)) o) → V p l e s m args below meth c D ba d mc ms (MO D ba QR QX below args s mc ms) 5 ad (SW i ad σ o) 10 [(3, .int (nI k)), (2, .int (nI (cN σ))), (1, .ref (ad [i, 1])), (0, .ref (ad [i]))] [] 0 0 := by
  intro n
  induction n with
  | zero =>
    intro k σ hk hσ hI0 hq
    have hσ1 := hσ.1
    refine V_iload_n C dX8_pass_10 0 rfl ?_
    refine V_iload_n C dX8_pass_11 1 rfl ?_
    refine V_icmpn_ge (tgt := 82) C dX8_pass_12 (by decide) (by omega) (by omega) (fun hb1 => ?_) (fun hb1 => by exfalso; omega)
    refine V_aload_n C dX8_pass_82 3 rfl ?_
    refine V_dup C dX8_pass_83 rfl ?_
    refine V_get (ci := 7) (k := 0) C dX8_pass_84 RX8 RX8 TX8 4 fw_X8 rfl (by decide) tw_644 rfl rfl SW_b rfl ?_
    refine V_iconst (v := nI 1) C dX8_pass_87 (by decide) ?_
    refine V_iadd C dX8_pass_88 ?_
    refine V_put (ci := 7) (k := 0) C dX8_pass_89 RX8 RX8 TX8 4 tyX8 tyX8_ok nmX8 fw_X8 rfl (by decide) tw_644 rfl (Or.inl rfl) rfl rfl rfl SW_b (Nat.le_of_ble_eq_true rfl) ?_
    refine V_wd (w' := wset (SW i ad σ o) ([i]) (.inr (7, [.int ((cDay σ) + (nI 1)), .int (cIns σ), .ref (ad [i, 1]), .ref (ad [i, 2])]))) rfl ?_
    refine V_wd (w' := SW i ad (dayUp σ) o) SW_b' ?_
    exact V_vret C dX8_pass_92 hr hq (by omega) (by omega)
  | succ n ih =>
    intro k σ hk hσ hI0 hq
    have hσ1 := hσ.1
    refine V_iload_n C dX8_pass_10 0 rfl ?_
    refine V_iload_n C dX8_pass_11 1 rfl ?_
    refine V_icmpn_ge (tgt := 82) C dX8_pass_12 (by decide) (by omega) (by omega) (fun hb1 => by exfalso; omega) (fun hb1 => ?_)
    refine V_aload_n C dX8_pass_15 2 rfl ?_
    refine V_iload_n C dX8_pass_16 0 rfl ?_
    have hk2 : k < cN σ := by omega
    have hu := hσ.2.2.1 k hk2
    have hu3 := hu.2.2.1
    have hu4 := hu.2.2.2.1
    refine V_aaldn (v := .ref (ad [i, 3, k])) C dX8_pass_17 rfl SW_hr (by omega) (by omega) (by rw [adN_lt hk2]; rfl) ?_
    refine V_astore C [(4, .ref (ad [i, 3, k])), (3, .int (nI k)), (2, .int (nI (cN σ))), (1, .ref (ad [i, 1])), (0, .ref (ad [i]))] dX8_pass_18 (by decide) rfl ?_
    refine V_aload C dX8_pass_20 0 rfl ?_
    refine V_get (ci := 6) (k := 2) C dX8_pass_22 RX7 RX7 TX7 5 fw_X7 rfl (by decide) tw_533 rfl rfl (SW_h hk2) rfl ?_
    refine V_bipush (v := nI 100) C dX8_pass_25 (by decide) ?_
    refine V_icmpn_ge (tgt := 41) C dX8_pass_27 (by decide) (by omega) (by decide) (fun hb2 => ?_) (fun hb2 => ?_)
    · skip
      refine V_aload C dX8_pass_41 0 rfl ?_
      refine V_get (ci := 6) (k := 3) C dX8_pass_43 RX7 RX7 TX7 5 fw_X7 rfl (by decide) tw_536 rfl rfl (SW_h hk2) rfl ?_
      refine V_if_ge (tgt := 52) C dX8_pass_46 (by decide) (fun hb3 => ?_) (fun hb3 => ?_)
      · skip
        refine V_aload C dX8_pass_52 0 rfl ?_
        refine V_dup C dX8_pass_54 rfl ?_
        refine V_get (ci := 6) (k := 4) C dX8_pass_55 RX7 RX7 TX7 5 fw_X7 rfl (by decide) tw_538 rfl rfl (SW_h hk2) rfl ?_
        have hy := (hI_ge (hI0 k hk2) (Int32.not_lt.mpr hb3)).2
        refine V_iconst (v := nI 1) C dX8_pass_58 (by decide) ?_
        refine V_isubn C dX8_pass_59 (by omega) ?_
        refine V_put (ci := 6) (k := 4) C dX8_pass_60 RX7 RX7 TX7 5 tyX7 tyX7_ok nmX7 fw_X7 rfl (by decide) tw_538 rfl (Or.inl rfl) rfl rfl rfl (SW_h hk2) (Nat.le_of_ble_eq_true rfl) ?_
        refine V_wd (w' := wset (SW i ad σ o) ([i, 3, k]) (.inr (6, [.ref (ad [i, 5, k]), .int (nI (hDm (cH σ k))), .int (nI (hDu (cH σ k))), .int (hCe (cH σ k)), .int (nI ((hDy (cH σ k)) - 1))]))) rfl ?_
        refine V_aload C dX8_pass_63 0 rfl ?_
        refine V_get (ci := 6) (k := 4) C dX8_pass_65 RX7 RX7 TX7 5 fw_X7 rfl (by decide) tw_538 rfl rfl wset_s rfl ?_
        refine V_ifn_ne (tgt := 76) C dX8_pass_68 (by decide) (by omega) (fun hb4 => ?_) (fun hb4 => ?_)
        · skip
          refine V_wd (w' := SW i ad (setH σ k (oldH 1 (cH σ k))) o) ((SW_h' hk2).trans (congrArg (fun h => SW i ad (setH σ k h) o) (old_eq (h := cH σ k) (du := (hDu (cH σ k))) (ce := (hCe (cH σ k))) (dy := ((hDy (cH σ k)) - 1)) (by omega) (by rw [if_pos (by omega)]) (by omega)))) ?_
          refine V_iincn C [(3, .int (nI (k + 1))), (4, .ref (ad [i, 3, k])), (2, .int (nI (cN σ))), (1, .ref (ad [i, 1])), (0, .ref (ad [i]))] dX8_pass_76 1 rfl (by decide) rfl ?_
          refine V_goto (tgt := 10) C dX8_pass_79 (by decide) ?_
          refine V_lv [0, 2, 3, 4] rfl ?_
          exact ih (k + 1) (setH σ k (oldH 1 (cH σ k))) (by show k + 1 + n = cN σ; omega) (cOK_set hσ (oldH_ok hu)) (cI_set hI0 (hI_old (hI0 k hk2))) (by rw [passF] at hq; exact hq)
        · skip
          refine V_aload C dX8_pass_71 0 rfl ?_
          refine V_callV (r := (RX7, TX7, 5)) C [] dX8_pass_73 m_X7_strike k_X7_strike tw_617 rfl rfl rfl wset_s rfl rfl (Nat.le_of_ble_eq_true rfl) ⟨by omega, by omega, by omega, by omega⟩ (s_strikeG hl (by omega) wset_s) (kr_none ?_) kx_no
          refine V_wd (w' := wset (SW i ad σ o) ([i, 3, k]) (.inr (6, [.ref (ad [i, 5, k]), .int (nI (hDm (cH σ k))), .int (nI (hDu (cH σ k))), .int (-1), .int (nI 0)]))) wset_wset ?_
          refine V_wd (w' := SW i ad (setH σ k (oldH 1 (cH σ k))) o) ((SW_h' hk2).trans (congrArg (fun h => SW i ad (setH σ k h) o) (old_eq (h := cH σ k) (du := (hDu (cH σ k))) (ce := (-1)) (dy := 0) (by omega) (by rw [if_neg (by omega)]) (by omega)))) ?_
          refine V_iincn C [(3, .int (nI (k + 1))), (4, .ref (ad [i, 3, k])), (2, .int (nI (cN σ))), (1, .ref (ad [i, 1])), (0, .ref (ad [i]))] dX8_pass_76 1 rfl (by decide) rfl ?_
          refine V_goto (tgt := 10) C dX8_pass_79 (by decide) ?_
          refine V_lv [0, 2, 3, 4] rfl ?_
          exact ih (k + 1) (setH σ k (oldH 1 (cH σ k))) (by show k + 1 + n = cN σ; omega) (cOK_set hσ (oldH_ok hu)) (cI_set hI0 (hI_old (hI0 k hk2))) (by rw [passF] at hq; exact hq)
      · skip
        refine V_goto (tgt := 76) C dX8_pass_49 (by decide) ?_
        have hz := (hI_lt (hI0 k hk2) (Int32.not_le.mp hb3))
        refine V_wd (w' := SW i ad (setH σ k (oldH 1 (cH σ k))) o) ((congrArg (fun s => SW i ad s o) setH_self.symm).trans (congrArg (fun h => SW i ad (setH σ k h) o) (old_eq (h := cH σ k) (du := (hDu (cH σ k))) (ce := (hCe (cH σ k))) (dy := (hDy (cH σ k))) (by omega) (by rw [if_neg (by omega)]; exact hz.1) (by omega)))) ?_
        refine V_iincn C [(3, .int (nI (k + 1))), (4, .ref (ad [i, 3, k])), (2, .int (nI (cN σ))), (1, .ref (ad [i, 1])), (0, .ref (ad [i]))] dX8_pass_76 1 rfl (by decide) rfl ?_
        refine V_goto (tgt := 10) C dX8_pass_79 (by decide) ?_
        refine V_lv [0, 2, 3, 4] rfl ?_
        exact ih (k + 1) (setH σ k (oldH 1 (cH σ k))) (by show k + 1 + n = cN σ; omega) (cOK_set hσ (oldH_ok hu)) (cI_set hI0 (hI_old (hI0 k hk2))) (by rw [passF] at hq; exact hq)
    · skip
      refine V_aload C dX8_pass_30 0 rfl ?_
      refine V_dup C dX8_pass_32 rfl ?_
      refine V_get (ci := 6) (k := 2) C dX8_pass_33 RX7 RX7 TX7 5 fw_X7 rfl (by decide) tw_533 rfl rfl (SW_h hk2) rfl ?_
      refine V_iconst (v := nI 1) C dX8_pass_36 (by decide) ?_
      refine V_iaddn C dX8_pass_37 ?_
      refine V_put (ci := 6) (k := 2) C dX8_pass_38 RX7 RX7 TX7 5 tyX7 tyX7_ok nmX7 fw_X7 rfl (by decide) tw_533 rfl (Or.inl rfl) rfl rfl rfl (SW_h hk2) (Nat.le_of_ble_eq_true rfl) ?_
      refine V_wd (w' := wset (SW i ad σ o) ([i, 3, k]) (.inr (6, [.ref (ad [i, 5, k]), .int (nI (hDm (cH σ k))), .int (nI ((hDu (cH σ k)) + 1)), .int (hCe (cH σ k)), .int (nI (hDy (cH σ k)))]))) rfl ?_
      refine V_aload C dX8_pass_41 0 rfl ?_
      refine V_get (ci := 6) (k := 3) C dX8_pass_43 RX7 RX7 TX7 5 fw_X7 rfl (by decide) tw_536 rfl rfl wset_s rfl ?_
      refine V_if_ge (tgt := 52) C dX8_pass_46 (by decide) (fun hb5 => ?_) (fun hb5 => ?_)
      · skip
        refine V_aload C dX8_pass_52 0 rfl ?_
        refine V_dup C dX8_pass_54 rfl ?_
        refine V_get (ci := 6) (k := 4) C dX8_pass_55 RX7 RX7 TX7 5 fw_X7 rfl (by decide) tw_538 rfl rfl wset_s rfl ?_
        have hy := (hI_ge (hI0 k hk2) (Int32.not_lt.mpr hb5)).2
        refine V_iconst (v := nI 1) C dX8_pass_58 (by decide) ?_
        refine V_isubn C dX8_pass_59 (by omega) ?_
        refine V_put (ci := 6) (k := 4) C dX8_pass_60 RX7 RX7 TX7 5 tyX7 tyX7_ok nmX7 fw_X7 rfl (by decide) tw_538 rfl (Or.inl rfl) rfl rfl rfl wset_s (Nat.le_of_ble_eq_true rfl) ?_
        refine V_wd (w' := wset (SW i ad σ o) ([i, 3, k]) (.inr (6, [.ref (ad [i, 5, k]), .int (nI (hDm (cH σ k))), .int (nI ((hDu (cH σ k)) + 1)), .int (hCe (cH σ k)), .int (nI ((hDy (cH σ k)) - 1))]))) wset_wset ?_
        refine V_aload C dX8_pass_63 0 rfl ?_
        refine V_get (ci := 6) (k := 4) C dX8_pass_65 RX7 RX7 TX7 5 fw_X7 rfl (by decide) tw_538 rfl rfl wset_s rfl ?_
        refine V_ifn_ne (tgt := 76) C dX8_pass_68 (by decide) (by omega) (fun hb6 => ?_) (fun hb6 => ?_)
        · skip
          refine V_wd (w' := SW i ad (setH σ k (oldH 1 (cH σ k))) o) ((SW_h' hk2).trans (congrArg (fun h => SW i ad (setH σ k h) o) (old_eq (h := cH σ k) (du := ((hDu (cH σ k)) + 1)) (ce := (hCe (cH σ k))) (dy := ((hDy (cH σ k)) - 1)) (by omega) (by rw [if_pos (by omega)]) (by omega)))) ?_
          refine V_iincn C [(3, .int (nI (k + 1))), (4, .ref (ad [i, 3, k])), (2, .int (nI (cN σ))), (1, .ref (ad [i, 1])), (0, .ref (ad [i]))] dX8_pass_76 1 rfl (by decide) rfl ?_
          refine V_goto (tgt := 10) C dX8_pass_79 (by decide) ?_
          refine V_lv [0, 2, 3, 4] rfl ?_
          exact ih (k + 1) (setH σ k (oldH 1 (cH σ k))) (by show k + 1 + n = cN σ; omega) (cOK_set hσ (oldH_ok hu)) (cI_set hI0 (hI_old (hI0 k hk2))) (by rw [passF] at hq; exact hq)
        · skip
          refine V_aload C dX8_pass_71 0 rfl ?_
          refine V_callV (r := (RX7, TX7, 5)) C [] dX8_pass_73 m_X7_strike k_X7_strike tw_617 rfl rfl rfl wset_s rfl rfl (Nat.le_of_ble_eq_true rfl) ⟨by omega, by omega, by omega, by omega⟩ (s_strikeG hl (by omega) wset_s) (kr_none ?_) kx_no
          refine V_wd (w' := wset (SW i ad σ o) ([i, 3, k]) (.inr (6, [.ref (ad [i, 5, k]), .int (nI (hDm (cH σ k))), .int (nI ((hDu (cH σ k)) + 1)), .int (-1), .int (nI 0)]))) wset_wset ?_
          refine V_wd (w' := SW i ad (setH σ k (oldH 1 (cH σ k))) o) ((SW_h' hk2).trans (congrArg (fun h => SW i ad (setH σ k h) o) (old_eq (h := cH σ k) (du := ((hDu (cH σ k)) + 1)) (ce := (-1)) (dy := 0) (by omega) (by rw [if_neg (by omega)]) (by omega)))) ?_
          refine V_iincn C [(3, .int (nI (k + 1))), (4, .ref (ad [i, 3, k])), (2, .int (nI (cN σ))), (1, .ref (ad [i, 1])), (0, .ref (ad [i]))] dX8_pass_76 1 rfl (by decide) rfl ?_
          refine V_goto (tgt := 10) C dX8_pass_79 (by decide) ?_
          refine V_lv [0, 2, 3, 4] rfl ?_
          exact ih (k + 1) (setH σ k (oldH 1 (cH σ k))) (by show k + 1 + n = cN σ; omega) (cOK_set hσ (oldH_ok hu)) (cI_set hI0 (hI_old (hI0 k hk2))) (by rw [passF] at hq; exact hq)
      · skip
        refine V_goto (tgt := 76) C dX8_pass_49 (by decide) ?_
        have hz := (hI_lt (hI0 k hk2) (Int32.not_le.mp hb5))
        refine V_wd (w' := SW i ad (setH σ k (oldH 1 (cH σ k))) o) ((SW_h' hk2).trans (congrArg (fun h => SW i ad (setH σ k h) o) (old_eq (h := cH σ k) (du := ((hDu (cH σ k)) + 1)) (ce := (hCe (cH σ k))) (dy := (hDy (cH σ k))) (by omega) (by rw [if_neg (by omega)]; exact hz.1) (by omega)))) ?_
        refine V_iincn C [(3, .int (nI (k + 1))), (4, .ref (ad [i, 3, k])), (2, .int (nI (cN σ))), (1, .ref (ad [i, 1])), (0, .ref (ad [i]))] dX8_pass_76 1 rfl (by decide) rfl ?_
        refine V_goto (tgt := 10) C dX8_pass_79 (by decide) ?_
        refine V_lv [0, 2, 3, 4] rfl ?_
        exact ih (k + 1) (setH σ k (oldH 1 (cH σ k))) (by show k + 1 + n = cN σ; omega) (cOK_set hσ (oldH_ok hu)) (cI_set hI0 (hI_old (hI0 k hk2))) (by rw [passF] at hq; exact hq)
set_option maxHeartbeats 4000000 in
theorem s_pass {l : Launch} {D : va_G} {ba d : Nat} {ad : Adr} (hl : l.stackTraces = false) (hd : 2 ≤ d) {i : Nat} {σ : CS} {o : Wd} (hσ : cOK σ) (hI0 : cI σ)  : CT l yX8_pass (wsO yX8_pass cX8_pass 5 none) d 0 0 D ba [.ref (ad [i])] ad (SW i ad σ o) (isR none ad (SW i ad (dayUp (cN σ, cK σ, cDay σ, cIns σ, olderH 1 (cH σ) (cN σ), cS σ)) o)) noX := by
  refine CT_of RX8 rfl (by decide +kernel) hl (Nat.le_of_ble_eq_true rfl) ?_
  intro p e s m args below meth c C hr hnm
  refine V_lvE (lv' := [(0, .ref (ad [i]))]) rfl ?_
  have hσ1 := hσ.1
  refine V_aload_n C dX8_pass_0 0 rfl ?_
  refine V_get (ci := 7) (k := 2) C dX8_pass_1 RX8 RX8 TX8 4 fw_X8 rfl (by decide) tw_647 rfl rfl SW_b rfl ?_
  refine V_astore_n C [(1, .ref (ad [i, 1])), (0, .ref (ad [i]))] dX8_pass_4 (by decide) rfl ?_
  refine V_aload_n C dX8_pass_5 0 rfl ?_
  refine V_alen (v := nI (cN σ)) C dX8_pass_6 rfl SW_hr rfl ?_
  refine V_istore_n C [(2, .int (nI (cN σ))), (1, .ref (ad [i, 1])), (0, .ref (ad [i]))] dX8_pass_7 (by decide) rfl ?_
  refine V_iconst (v := nI 0) C dX8_pass_8 (by decide) ?_
  refine V_istore_n C [(3, .int (nI 0)), (2, .int (nI (cN σ))), (1, .ref (ad [i, 1])), (0, .ref (ad [i]))] dX8_pass_9 (by decide) rfl ?_
  refine V_lv [0, 1, 2, 3] rfl ?_
  exact lp_passS C hl hr (by omega) (cN σ) 0 σ (by omega) hσ hI0 ⟨rfl, rfl, by rw [passF_all]⟩
set_option maxHeartbeats 4000000 in
theorem s_hInit {l : Launch} {D : va_G} {ba d : Nat} {ad : Adr} {w : Wd} (hl : l.stackTraces = false) (hd : 1 ≤ d) {LH LS : Lab} (hH : w LH = some (.inr (6, [.null, .int 0, .int 0, .int 0, .int 0]))) (hS : w LS = none) (hHS : LH ≠ LS) : CT l yX7_init (wsO yX7_init cX7_init 1 none) d 1 0 D ba [.ref (ad LH)] ad w (fun v ad' w' => v = none ∧ ∃ q, ad' = aset ad LS q ∧ w' = wset (wset w LS (eA 0 (fun _ => none))) LH (eLH q 0 0 (-1) 0)) noX := by
  refine CT_of RX7 rfl (by decide +kernel) hl (Nat.le_of_ble_eq_true rfl) ?_
  intro p e s m args below meth c C hr hnm
  refine V_lvE (lv' := [(0, .ref (ad LH))]) rfl ?_
  refine V_aload_n C dX7_init_0 0 rfl ?_
  refine V_obj C dX7_init_1 tw_525 tw_23 tw_24 (by omega) (by simp [Value.category]; try omega) ?_
  refine V_aload_n C dX7_init_4 0 rfl ?_
  refine V_iconst (v := nI 0) C dX7_init_5 (by decide) ?_
  refine V_newA (N := 0) C LS dX7_init_6 tw_526 (by decide) hS (by omega) (by omega) (fun q => ?_)
  refine V_put (ci := 6) (k := 0) C dX7_init_9 RX7 RX7 TX7 5 tyX7 tyX7_ok nmX7 fw_X7 rfl (by decide) tw_528 rfl (Or.inl rfl) rfl rfl (aset_n hHS).symm ((wset_n hHS).trans hH) (Nat.le_of_ble_eq_true rfl) ?_
  refine V_wd (w' := wset (wset w LS (eA 0 (fun _ => none))) LH (.inr (6, [.ref q, .int 0, .int 0, .int 0, .int 0]))) rfl ?_
  refine V_aload_n C dX7_init_12 0 rfl ?_
  refine V_iconst (v := -1) C dX7_init_13 (by decide) ?_
  refine V_put (ci := 6) (k := 3) C dX7_init_14 RX7 RX7 TX7 5 tyX7 tyX7_ok nmX7 fw_X7 rfl (by decide) tw_535 rfl (Or.inl rfl) rfl rfl (aset_n hHS).symm wset_s (Nat.le_of_ble_eq_true rfl) ?_
  refine V_wd (w' := wset (wset w LS (eA 0 (fun _ => none))) LH (.inr (6, [.ref q, .int 0, .int 0, .int (-1), .int 0]))) wset_wset ?_
  exact V_vret C dX7_init_17 hr ⟨rfl, q, rfl, rfl⟩ (by omega) (by omega)
end
section
/-! ===== both bureaus side by side ===== -/
section K24
variable {p : Program} {l : Launch} {e : Env} {s : State} {m : MethodId} {args : Array Value} {below : List Frame} {meth : Method} {c : Code} {D : va_G} {ba d mc ms nL npc pc cells slots : Nat} {ad : Adr} {w : Wd} {Q : State → Prop} {lv : List (Nat × Value)} {rest : List Value} {i : Nat} {σ : CS} {o : Wd}
theorem kr_RP {x : Value} (k : ∀ tl t lo, V p l e s m args below meth c D ba d mc ms Q nL ad (PW i ad σ tl t lo o) npc lv (x :: rest) cells slots) : ∀ (v : Option Value) (ad' : Adr) (w' : Wd), RP i ad σ o (some x) v ad' w' → V p l e s m args below meth c D ba d mc ms Q nL ad' w' npc lv (v.toList ++ rest) cells slots := by
  rintro v ad' w' ⟨rfl, rfl, tl, t, lo, rfl⟩
  exact k tl t lo
theorem kr_RPa {x : Value} (k : ∀ ad2, keeps i ad ad2 → ∀ tl t lo, V p l e s m args below meth c D ba d mc ms Q nL ad2 (PW i ad2 σ tl t lo o) npc lv (x :: rest) cells slots) : ∀ (v : Option Value) (ad' : Adr) (w' : Wd), RPa i ad σ o (some x) v ad' w' → V p l e s m args below meth c D ba d mc ms Q nL ad' w' npc lv (v.toList ++ rest) cells slots := by
  rintro v ad' w' ⟨rfl, h, tl, t, lo, rfl⟩
  exact k ad' h tl t lo
end K24
theorem inR_ok {v a b : Nat} (h1 : a ≤ v) (h2 : v ≤ b) (hb : b < 2 ^ 31) : ¬ inR (nI v) (nI a) (nI b) = 0 := by
  unfold inR
  rw [if_neg (nI_nlt h1 (by omega)), if_neg (nI_nlt h2 hb)]
  decide
abbrev nW : Wd := fun _ => none
theorem wren_put {i : Nat} {f o : Wd} {A B : Lab} : wren (put i f o) (i :: A) (i :: B) = put i (wren f A B) o := by
  funext L
  cases L with
  | nil => simp [wren, put]
  | cons j q =>
    by_cases hj : j = i
    · subst hj; simp [wren, put]
    · simp [wren, put, hj]
section SWM
variable {i : Nat} {ad : Adr} {σ : CS} {tl : Int32} {t : TT} {lo : Nat → Int32} {o : Wd}
theorem PW_ad {ad2 : Adr} (h : ∀ r, ad2 (i :: r) = ad (i :: r)) : PW i ad2 σ tl t lo o = PW i ad σ tl t lo o := by
  show put i (WC i ad2 σ tl t lo) o = put i (WC i ad σ tl t lo) o
  congr 1
  funext L
  rcases L with _ | ⟨c, _ | ⟨j, _ | ⟨k, _ | ⟨x, y⟩⟩⟩⟩
  · simp only [WC, h]
  · simp only [WC, h]
  · simp only [WC, h]
  · simp only [WC]
  · rfl
theorem SW_ad6 {j q : Nat} : SW i (aset ad [i, 6, j, hSc (cH σ j)] q) σ o = SW i ad σ o := by
  show put i (SC i (aset ad [i, 6, j, hSc (cH σ j)] q) σ) o = put i (SC i ad σ) o
  congr 1
  funext L
  rcases L with _ | ⟨c, _ | ⟨a, _ | ⟨k, _ | ⟨x, y⟩⟩⟩⟩
  · simp [SC, aset]
  · simp [SC, aset]
  · have hr : adN (hSc (cH σ a)) (fun k => aset ad [i, 6, j, hSc (cH σ j)] q [i, 6, a, k]) = adN (hSc (cH σ a)) (fun k => ad [i, 6, a, k]) := adN_congr (fun k hk => aset_n (by
      intro z
      simp only [List.cons.injEq, and_true, true_and] at z
      obtain ⟨rfl, rfl⟩ := z
      exact absurd hk (Nat.lt_irrefl _)))
    simp only [SC, hr]
    simp [aset]
  · simp only [SC]
  · rfl
theorem SW_ad4 {q : Nat} : SW i (aset ad [i, 4, cK σ] q) σ o = SW i ad σ o := by
  show put i (SC i (aset ad [i, 4, cK σ] q) σ) o = put i (SC i ad σ) o
  congr 1
  funext L
  rcases L with _ | ⟨c, _ | ⟨a, _ | ⟨k, _ | ⟨x, y⟩⟩⟩⟩
  · simp [SC, aset]
  · have hr : adN (cK σ) (fun k => aset ad [i, 4, cK σ] q [i, 4, k]) = adN (cK σ) (fun k => ad [i, 4, k]) := adN_congr (fun k hk => aset_n (by
      intro z
      simp only [List.cons.injEq, and_true, true_and] at z
      exact absurd hk (by rw [z]; exact Nat.lt_irrefl _)))
    simp only [SC, hr]
    simp [aset]
  · simp [SC, aset]
  · simp only [SC]
  · rfl
/-- a hall more -/
theorem SW_addH {q3 q5 q9 v : Nat} {E1 E2 E3 : Ent} (h9 : q9 = ad [i, 9]) : wren (wset (wset (wset (wset (wset (wset (wset (SW i ad σ o) [i, 9] E1) [i, 3, cN σ] E2) [i, 5, cN σ] (eA 0 (fun _ => none))) [i, 3, cN σ] E3) [i, 9] (eQ RX7 (cN σ + 1) (va_up (adN (cN σ) (fun j => ad [i, 3, j])) (cN σ) (some q3)))) [i, 3, cN σ] (eLH q5 v 0 (-1) 0)) [i] (eLS (cDay σ) (cIns σ) q9 (ad [i, 2]))) [i, 1] [i, 9] = SW i (aset (aset (aset ad [i, 3, cN σ] q3) [i, 5, cN σ] q5) [i, 1] (aset (aset ad [i, 3, cN σ] q3) [i, 5, cN σ] q5 [i, 9])) (addH σ v) o := by
  subst h9
  obtain ⟨n0, K0, day0, ins0, H0, S0⟩ := σ
  simp only [addH, addD, setH, cN, cK, cDay, cIns, cH, cS, hSc, hDm, hDu, hCe, hDy, hSu] at *
  rw [put_wset, put_wset, put_wset, put_wset, put_wset, put_wset, put_wset, wren_put]
  have hrow : va_up (adN n0 (fun j => ad [i, 3, j])) n0 (some q3) = adN (n0 + 1) (fun j => aset (aset (aset ad [i, 3, n0] q3) [i, 5, n0] q5) [i, 1] (aset (aset ad [i, 3, n0] q3) [i, 5, n0] q5 [i, 9]) [i, 3, j]) := by
    rw [show adN n0 (fun j => ad [i, 3, j]) = adN n0 (fun j => aset (aset (aset ad [i, 3, n0] q3) [i, 5, n0] q5) [i, 1] (aset (aset ad [i, 3, n0] q3) [i, 5, n0] q5 [i, 9]) [i, 3, j]) from adN_congr (fun j hj => by simp [aset, Nat.ne_of_lt hj])]
    exact adN_up (by simp [aset])
  rw [hrow]
  congr 1
  funext L
  rcases L with _ | ⟨c, _ | ⟨j, _ | ⟨k, _ | ⟨x, y⟩⟩⟩⟩
  · simp [wren, wset, SC, aset, cN, cK, cDay, cIns, cH, cS]
  · by_cases h1 : c = 1
    · subst h1; simp [wren, wset, SC, aset, cN]
    · by_cases h2 : c = 9
      · subst h2; simp [wren, wset, SC, aset]
      · simp [wren, wset, SC, aset, cN, cK, h1, h2]
  · by_cases hj : j = n0
    · subst hj
      by_cases h3 : c = 3
      · subst h3; simp [wren, wset, SC, aset, cN, cH, fup]
      · by_cases h5 : c = 5
        · subst h5
          simp only [wren, wset, SC, aset, fup, cN, cK, cH, cS, hSc]
          simp
          funext k
          simp [adN]
        · simp [wren, wset, SC, aset, cN, cK, cH, cS, fup, h3, h5]
    · have hlt : (j < n0 + 1) = (j < n0) := by simp only [eq_iff_iff]; omega
      simp [wren, wset, SC, aset, cN, cK, cH, cS, hj, fup, hlt]
  · by_cases hj : j = n0
    · subst hj; simp [wren, wset, SC, cN, cH, fup]; exact fun _ => Nat.zero_le _
    · have hlt : (j < n0 + 1) = (j < n0) := by simp only [eq_iff_iff]; omega
      simp [wren, wset, SC, cN, cH, hj, fup, hlt]
  · simp [wren, wset, SC]
/-- a surface more -/
theorem SW_addS {j q9 hb ds : Nat} (hj : j < cN σ) (h9 : q9 = ad [i, 9]) : wren (wset (wset (wset (SW i ad σ o) [i, 6, j, hSc (cH σ j)] (eI 2 (suF (hb, ds)))) [i, 9] (eA (hSc (cH σ j) + 1) (va_up (adN (hSc (cH σ j)) (fun k => ad [i, 6, j, k])) (hSc (cH σ j)) (some (ad [i, 6, j, hSc (cH σ j)]))))) [i, 3, j] (eLH q9 (hDm (cH σ j)) (hDu (cH σ j)) (-1) 0)) [i, 5, j] [i, 9] = SW i (aset ad [i, 5, j] (ad [i, 9])) (setH σ j (hSc (cH σ j) + 1, hDm (cH σ j), hDu (cH σ j), -1, 0, fup (hSu (cH σ j)) (hSc (cH σ j)) (hb, ds))) o := by
  subst h9
  obtain ⟨n0, K0, day0, ins0, H0, S0⟩ := σ
  simp only [addH, addD, setH, cN, cK, cDay, cIns, cH, cS, hSc, hDm, hDu, hCe, hDy, hSu] at *
  rw [put_wset, put_wset, put_wset, wren_put]
  have hrow : va_up (adN (H0 j).1 (fun k => ad [i, 6, j, k])) (H0 j).1 (some (ad [i, 6, j, (H0 j).1])) = adN ((H0 j).1 + 1) (fun k => aset ad [i, 5, j] (ad [i, 9]) [i, 6, j, k]) := by
    rw [show adN (H0 j).1 (fun k => ad [i, 6, j, k]) = adN (H0 j).1 (fun k => aset ad [i, 5, j] (ad [i, 9]) [i, 6, j, k]) from adN_congr (fun k hk => by simp [aset])]
    exact adN_up (by simp [aset])
  rw [hrow]
  congr 1
  funext L
  rcases L with _ | ⟨c, _ | ⟨a, _ | ⟨k, _ | ⟨x, y⟩⟩⟩⟩
  · simp [wren, wset, SC, aset, cN, cK, cDay, cIns, cH, cS]
  · by_cases h2 : c = 9
    · subst h2; simp [wren, wset, SC, aset]
    · simp [wren, wset, SC, aset, cN, cK, h2]
  · by_cases ha : a = j
    · subst ha
      by_cases h3 : c = 3
      · subst h3; simp [wren, wset, SC, aset, cN, cH, fup, hj, hDm, hDu, hCe, hDy]
      · by_cases h5 : c = 5
        · subst h5; simp [wren, wset, SC, aset, cN, cH, fup, hj, hSc]
        · simp [wren, wset, SC, aset, cN, cK, cH, cS, fup, h3, h5]
    · simp [wren, wset, SC, aset, cN, cK, cH, cS, ha, fup, hSc, hDm, hDu, hCe, hDy]
  · by_cases ha : a = j
    · subst ha
      by_cases hk : k = (H0 a).1
      · subst hk
        by_cases h6 : c = 6
        · subst h6; simp [wren, wset, SC, cN, cH, fup, hj, hSc, hSu]
        · simp [wren, wset, SC, h6]
      · have hlt : (k < (H0 a).1 + 1) = (k < (H0 a).1) := by simp only [eq_iff_iff]; omega
        simp [wren, wset, SC, cN, cH, fup, hk, hlt, hSc, hSu]
    · simp [wren, wset, SC, cN, cH, ha, fup, hSc, hSu]
  · simp [wren, wset, SC]
/-- a standard more -/
theorem SW_addD {q9 : Nat} {q0 : StdS} (h9 : q9 = ad [i, 9]) : wren (wset (wset (wset (SW i ad σ o) [i, 4, cK σ] (eI 5 (stF q0))) [i, 9] (eA (cK σ + 1) (va_up (adN (cK σ) (fun k => ad [i, 4, k])) (cK σ) (some (ad [i, 4, cK σ]))))) [i] (eLS (cDay σ) (cIns σ) (ad [i, 1]) q9)) [i, 2] [i, 9] = SW i (aset ad [i, 2] (ad [i, 9])) (addD σ q0) o := by
  subst h9
  obtain ⟨n0, K0, day0, ins0, H0, S0⟩ := σ
  simp only [addH, addD, setH, cN, cK, cDay, cIns, cH, cS, hSc, hDm, hDu, hCe, hDy, hSu] at *
  rw [put_wset, put_wset, put_wset, wren_put]
  have hrow : va_up (adN K0 (fun k => ad [i, 4, k])) K0 (some (ad [i, 4, K0])) = adN (K0 + 1) (fun k => aset ad [i, 2] (ad [i, 9]) [i, 4, k]) := by
    rw [show adN K0 (fun k => ad [i, 4, k]) = adN K0 (fun k => aset ad [i, 2] (ad [i, 9]) [i, 4, k]) from adN_congr (fun k hk => by simp [aset])]
    exact adN_up (by simp [aset])
  rw [hrow]
  congr 1
  funext L
  rcases L with _ | ⟨c, _ | ⟨a, _ | ⟨k, _ | ⟨x, y⟩⟩⟩⟩
  · simp [wren, wset, SC, aset, cN, cK, cDay, cIns, cH, cS]
  · by_cases h1 : c = 2
    · subst h1; simp [wren, wset, SC, aset, cK]
    · by_cases h2 : c = 9
      · subst h2; simp [wren, wset, SC, aset]
      · simp [wren, wset, SC, aset, cN, cK, h1, h2]
  · by_cases ha : a = K0
    · subst ha
      by_cases h4 : c = 4
      · subst h4; simp [wren, wset, SC, aset, cK, cS, fup]
      · simp [wren, wset, SC, aset, cN, cK, cH, cS, fup, h4]
    · have hlt : (a < K0 + 1) = (a < K0) := by simp only [eq_iff_iff]; omega
      simp [wren, wset, SC, aset, cN, cK, cH, cS, ha, fup, hlt]
  · simp [wren, wset, SC, cN, cH]
  · simp [wren, wset, SC]
end SWM
/-- the bureau σ, and the law's bureau τ -/
abbrev LW (ad : Adr) (σ τ : CS) (tl : Int32) (t : TT) (lo : Nat → Int32) : Wd := PW 0 ad σ tl t lo (SW 2 ad τ nW)
abbrev LSW (ad : Adr) (σ τ : CS) (tl : Int32) (t : TT) (lo : Nat → Int32) : Wd := SW 2 ad τ (PW 0 ad σ tl t lo nW)
section LWL
variable {ad ad2 : Adr} {σ τ : CS} {tl : Int32} {t : TT} {lo : Nat → Int32}
theorem LW_LS : LW ad σ τ tl t lo = LSW ad σ τ tl t lo := put_comm (by decide)
theorem LW_a (h : keeps 0 ad ad2) : PW 0 ad2 σ tl t lo (SW 2 ad τ nW) = LW ad2 σ τ tl t lo := by
  show _ = PW 0 ad2 σ tl t lo (SW 2 ad2 τ nW)
  rw [SW_ad (fun r => h.1 2 r (by decide))]
/-- the bureau's part of the world, under other addresses of the law's bureau -/
theorem LSW_o {o : Wd → Wd} (h : ∀ r, ad2 (0 :: r) = ad (0 :: r)) : o (PW 0 ad σ tl t lo nW) = o (PW 0 ad2 σ tl t lo nW) := by
  rw [PW_ad h]
end LWL
/-- what stands at every moment of the law -/
def IV (σ : CS) : Prop := cOK σ ∧ cI σ
/-- what act answers -/
abbrev AR (ad : Adr) : Option Value → Adr → Wd → Prop := fun v ad' w' => v = some (.int (nI 1)) ∧ (ad' [0] = ad [0] ∧ ad' [2] = ad [2]) ∧ ∃ σ tl t lo, (IV σ ∧ 1 ≤ cN σ) ∧ w' = LW ad' σ σ tl t lo
end
