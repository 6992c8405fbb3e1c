section
/-! ===== BEGIN words of one list among another's, by their places ===== -/
theorem goodIn_r {big : List Cond} (ws : List Cond) (ps : List Nat) (hp : ws = ps.filterMap (fun i => big[i]?)) (h : ws.all goodWord = true) : GoodIn big ws := by
  intro w hw
  have h1 := List.all_eq_true.mp h w hw
  rw [hp] at hw
  obtain ⟨i, -, hi⟩ := List.mem_filterMap.mp hw
  have hm : w ∈ big := by first | exact List.mem_of_getElem? hi | exact List.getElem?_mem hi
  exact ⟨hm, good_of_word h1⟩
theorem goodIn_app {big a b : List Cond} (ha : GoodIn big a) (hb : GoodIn big b) : GoodIn big (a ++ b) := fun w h => (List.mem_append.mp h).elim (ha w) (hb w)
theorem goodIn_ca {big a b : List Cond} {c : Cond} (ha : GoodIn big (c :: a)) (hb : GoodIn big b) : GoodIn big (c :: (a ++ b)) := fun w h => (List.mem_cons.mp h).elim (fun e => ha w (List.mem_cons.mpr (Or.inl e))) (fun h => (List.mem_append.mp h).elim (fun h => ha w (List.mem_cons.mpr (Or.inr h))) (hb w))
theorem goodIn_sub {big ws : List Cond} (hm : ∀ w ∈ ws, w ∈ big) (h : ws.all goodWord = true) : GoodIn big ws := fun w hw => ⟨hm w hw, good_of_word (List.all_eq_true.mp h w hw)⟩
/-! ===== END ===== -/
/-! ===== BEGIN exceptions that leave a method, and their catching by the caller (launches without stack traces) ===== -/
section VXA
/-! The laws vx_back, vx_callV, vx_callS, vx_callSW, vx_throw0, vx_throwS follow proofs of the library, with one case more: JvmDerived/Free/Laws.lean (Back.of_free), Shelf42/LK1.lean (callV, callS), Shelf/KitTraced.lean (throwNew0V, throwNewS). -/
/-- where a method has thrown q: the class by its name, the cell, what was written, the world -/
def vx_T (XC : String → State → State → Prop) (st : State) (q : Addr) (t : State) (mc ms : Nat) (free : Addr → Prop) : Prop :=
  ∃ (E : String) (ce : Cell) (L : List Loc), XC E st t ∧ t.heap[q]? = some ce ∧ ce.vm = .none ∧ st.vm.findClass E = some ce.cls ∧ st.WarmedH t.vm ∧ st.sameButNew ({ t with vm := st.vm } : State) L mc ms ∧ ∀ z ∈ L, free z.base
def vx_Q (Qc : Array Value → State → Outcome → State → Prop) (XC : String → State → State → Prop) (mc ms : Nat) (free : Addr → Prop) : Array Value → State → Outcome → State → Prop := fun a st o t =>
  (Qc a st o t ∧ ∃ L, FrameEnd st o t L mc ms ∧ ∀ q ∈ L, free q.base) ∨ ∃ q, o = .threw q ∧ vx_T XC st q t mc ms free
/-- a callee that returns or throws -/
def vx_Met (l : Launch) (y : MethodName) (ws : List Cond) (rm : Room) (Pc : Array Value → State → Prop) (Qc : Array Value → State → Outcome → State → Prop) (XC : String → State → State → Prop) (mc ms : Nat) (free : Addr → Prop) : Prop :=
  MetFree l y (headSpec ws rm) Pc (fun _ _ _ _ _ => True) (vx_Q Qc XC mc ms free)
def vx_Post (XC : String → State → State → Prop) (mc ms : Nat) (free : Addr → Prop) : Pt → Array Value → Addr → Pt → Prop := fun A a q B =>
  ∃ (g : JFrame) (mk : MethodId) (t : State) (L : List Loc) (E : String) (ce : Cell), B.U.heap = t.heap ∧ B.U.vm = t.vm ∧ XC E (A.U.calling g mk a) t ∧ t.heap[q]? = some ce ∧ ce.vm = .none ∧ A.U.vm.findClass E = some ce.cls ∧ B.locs = A.locs ++ L ∧ (∀ z ∈ L, free z.base) ∧ B.cells = A.cells + mc ∧ B.slots = A.slots + ms
def vx_Back (l : Launch) (R : Room) (p : Program) (e : Env) (below : List Frame) (s : State) (sargs : Array Value) (y : MethodName) (len W9 : Nat)
    (Pre : Pt → Array Value → Prop) (Post : Pt → Array Value → Option Value → Pt → Prop) (PostX : Pt → Array Value → Addr → Pt → Prop) : Prop :=
  ∀ (m : MethodId) (meth : Method) (c : Code) (A : Pt) (g : JFrame) (ig : Instr) (mk : MethodId) (a : Array Value),
    Stand p l e R s m sargs below meth c A.U A.locs A.cells A.slots → g.method = m → g.locals.size = c.maxLocals → decode c.code g.pc = .ok (ig, len) →
    2 * g.monitorRoom + (g.stack.map fun v => v.category).sum ≤ W9 → A.U.methodNamed? y = some mk → Pre A a →
    (∃ (v : Option Value) (B : Pt), Stand p l e R s m sargs below meth c B.U B.locs B.cells B.slots ∧ Post A a v B ∧
      Steps p.tables e below (doInvoke e (A.U.setTop g) [] mk a).1 (B.U.setTop { g with pc := g.pc + len, stack := v.toList ++ g.stack })) ∨
    (∃ (q : Addr) (B : Pt), Stand p l e R s m sargs below meth c B.U B.locs B.cells B.slots ∧ PostX A a q B ∧
      Steps p.tables e below (doInvoke e (A.U.setTop g) [] mk a).1 ((B.U.setTop g).pushFrame (.throwing q)))
section Payer
variable {l : Launch} {R : Room} {p : Program} {e : Env} {below : List Frame} {s : State} {sargs : Array Value} {y : MethodName} {len W9 : Nat}
theorem vx_back {ws : List Cond} {rm : Room} {Pc : Array Value → State → Prop} {Qc : Array Value → State → Outcome → State → Prop} {XC : String → State → State → Prop} {mc ms : Nat} {free : Addr → Prop} {bytes : ByteArray} {maxL : Nat} {ret : Option FieldType}
    (hM : vx_Met l y ws rm Pc Qc XC mc ms free) (hblind : FrameBlind Pc) (hrc : rm.cells = mc) (hrs : rm.slots = ms)
    (hframes : rm.frames + 1 ≤ R.frames) (hlocals : W9 + (maxL + 11) + rm.locals ≤ R.locals)
    (hws : ∀ w ∈ ws, ∀ a' U, s.WarmedH U.vm → w.before a' U = true) (hcode : Cond.code y bytes maxL ret ∈ ws) (hinit : ∀ a' U, s.WarmedH U.vm → (Cond.initialized y.cls).before a' U = true) :
    vx_Back l R p e below s sargs y len W9 (PreOf R mc ms Pc) (PostOf Qc mc ms free) (vx_Post XC mc ms free) := by
  intro m meth c A g ig mk a X hg hsize hdg hW hn hp
  have h1 : (headSpec ws rm).pre.before a A.U = true := atoms_intro fun w hw => hws w hw _ _ X.warmed
  have h2 : (Cond.code y bytes maxL ret).before a A.U = true := hws _ hcode _ _ X.warmed
  have h3 : (Cond.initialized y.cls).before a A.U = true := hinit _ _ X.warmed
  have h4 : A.cells + (headSpec ws rm).room.cells ≤ R.cells := by rw [show (headSpec ws rm).room.cells = mc from hrc]; exact hp.1
  have h5 : A.slots + (headSpec ws rm).room.slots ≤ R.slots := by rw [show (headSpec ws rm).room.slots = ms from hrs]; exact hp.2.1
  have hPc : Pc a (A.U.calling g mk a) := hblind _ _ _ _ hp.2.2
  obtain ⟨U, Ls, c0, s0⟩ := A
  dsimp only [Pt.U, Pt.locs, Pt.cells, Pt.slots] at h1 h2 h3 h4 h5 X hn hPc ⊢
  obtain ⟨methY, cY, hmY, hcY, -, hlY, -, -, -, -⟩ := Cond.code_spec hn h2
  obtain ⟨kY, hkY, -⟩ := className_of_methodNamed hn
  have hinitY : kY.init = .initialized := Cond.initialized_spec (findClass_of_methodNamed hn) hkY h3
  have h : At U g.method c below := by rw [hg]; exact X.here
  have hlocals9 : W9 + (maxL + 11) + (headSpec ws rm).room.locals ≤ R.locals := hlocals
  have happ : (headSpec ws rm).appliesLoose y e.platform (U.calling g mk a) = true :=
    Spec.appliesLoose_calling (g := g) h hdg hn hkY hinitY
      (X.room_calling (g := g) (R' := (headSpec ws rm).room) hsize hmY hcY hframes (by rw [hlY]; omega) h4 h5) h1
  obtain ⟨mid, hmid⟩ := h.above
  have hfr : (U.setTop g).frames = (.java g :: mid) ++ below := by rw [State.frames_setTop' g h.top, hmid]; rfl
  obtain ⟨o, s₂, hsteps, -, hend, hq⟩ := Steps.callFree hM p X.admits X.cas X.clock (acts := []) hfr happ hPc trivial
  have hq' : vx_Q Qc XC mc ms free a (U.calling g mk a) o s₂ := hq
  rw [State.frames_setTop' g h.top] at hend
  obtain ⟨g₀, hg0⟩ := Option.isSome_iff_exists.mp h.top
  obtain ⟨r, hr⟩ := State.topJava?_eq_some.mp hg0
  have hr' : (({ U with heap := s₂.heap, slotsUsed := s₂.slotsUsed } : State).setVm s₂.vm).frames = .java g₀ :: r := hr
  rcases hq' with ⟨hqc, L, hfe, hL⟩ | ⟨q, rfl, E, ce, L, hx, hce, hcv, hcl, hW₂, hsm, hL⟩
  · obtain ⟨⟨v, rfl⟩, hW₂, e2, q2, q3, q4, q5, q6⟩ := id hfe
    have e3 : s₂ = ({ (U.calling g mk a).setFrames s₂.frames with heap := s₂.heap, slotsUsed := s₂.slotsUsed } : State).setVm s₂.vm := by
      have : s₂ = ({ s₂ with vm := (U.calling g mk a).vm } : State).setVm s₂.vm := rfl
      rw [e2] at this
      exact this
    obtain ⟨c₂, i₂, len₂, hc₂, hd₂, hf₂⟩ := hend
    have hW' : U.WarmedH s₂.vm := hW₂
    have hcc : c₂ = c := by
      have h1 : s₂.code? g.method = U.code? g.method := by
        rw [State.code?_eq, State.code?_eq, hW'.alike.method?]
      exact Option.some.inj (hc₂.symm.trans (h1.trans h.code))
    subst hcc
    have hlen : len₂ = len := by rw [hdg] at hd₂; cases hd₂; rfl
    subst hlen
    have hs₂ : s₂ = (({ U with heap := s₂.heap, slotsUsed := s₂.slotsUsed } : State).setVm s₂.vm).setTop { g with pc := g.pc + len₂, stack := v.toList ++ g.stack } := by
      refine e3.trans ?_
      rw [hf₂, State.calling_eq h.top, State.setFrames_setFrames, State.setTop_of_frames _ hr', hr]
      rfl
    have hsame : U.sameButNew ({ U with heap := s₂.heap, slotsUsed := s₂.slotsUsed } : State) L mc ms := by
      refine ⟨?_, q2, q3, q4, q5, q6⟩
      obtain ⟨t, ht, -⟩ := State.frames_cons hr
      show ({ U with heap := s₂.heap, slotsUsed := s₂.slotsUsed } : State) = { U.setFrames U.frames with heap := s₂.heap, slotsUsed := s₂.slotsUsed }
      rw [State.setFrames_self ht]
    subst hg
    refine Or.inl ⟨v, ⟨(({ U with heap := s₂.heap, slotsUsed := s₂.slotsUsed } : State).setVm s₂.vm), Ls ++ L, c0 + mc, s0 + ms⟩,
      ⟨X.admits, X.cas, X.clock, X.frames, X.room, X.hears, X.method, X.code, (X.here.setHeapUsed s₂.heap s₂.slotsUsed).setVm hW'.alike, X.tail, State.WarmedH.trans X.warmed hW', X.limits, X.bytes, X.same.trans (hsame.setVm s.vm)⟩,
      ⟨g, mk, s₂, L, rfl, rfl, hqc, rfl, hL, rfl, rfl⟩, ?_⟩
    show Steps p.tables e below _ ((({ U with heap := s₂.heap, slotsUsed := s₂.slotsUsed } : State).setVm s₂.vm).setTop { g with pc := g.pc + len₂, stack := v.toList ++ g.stack })
    rw [← hs₂]
    exact hsteps
  · obtain ⟨e2, q2, q3, q4, q5, q6⟩ := id hsm
    have e3 : s₂ = ({ (U.calling g mk a).setFrames s₂.frames with heap := s₂.heap, slotsUsed := s₂.slotsUsed } : State).setVm s₂.vm := by
      have : s₂ = ({ s₂ with vm := (U.calling g mk a).vm } : State).setVm s₂.vm := rfl
      rw [e2] at this
      exact this
    have hf₂ : s₂.frames = .throwing q :: .java g :: U.frames.tail := hend
    have hW' : U.WarmedH s₂.vm := hW₂
    have hs₂ : s₂ = ((({ U with heap := s₂.heap, slotsUsed := s₂.slotsUsed } : State).setVm s₂.vm).setTop g).pushFrame (.throwing q) := by
      refine e3.trans ?_
      rw [hf₂, State.calling_eq h.top, State.setFrames_setFrames, State.pushFrame, State.frames_setTop _ hr', State.setTop_of_frames _ hr', State.setFrames_setFrames, hr]
      rfl
    have hsame : U.sameButNew ({ U with heap := s₂.heap, slotsUsed := s₂.slotsUsed } : State) L mc ms := by
      refine ⟨?_, q2, q3, q4, q5, q6⟩
      obtain ⟨t, ht, -⟩ := State.frames_cons hr
      show ({ U with heap := s₂.heap, slotsUsed := s₂.slotsUsed } : State) = { U.setFrames U.frames with heap := s₂.heap, slotsUsed := s₂.slotsUsed }
      rw [State.setFrames_self ht]
    subst hg
    refine Or.inr ⟨q, ⟨(({ U with heap := s₂.heap, slotsUsed := s₂.slotsUsed } : State).setVm s₂.vm), Ls ++ L, c0 + mc, s0 + ms⟩,
      ⟨X.admits, X.cas, X.clock, X.frames, X.room, X.hears, X.method, X.code, (X.here.setHeapUsed s₂.heap s₂.slotsUsed).setVm hW'.alike, X.tail, State.WarmedH.trans X.warmed hW', X.limits, X.bytes, X.same.trans (hsame.setVm s.vm)⟩,
      ⟨g, mk, s₂, L, E, ce, rfl, rfl, hx, hce, hcv, hcl, rfl, hL, rfl, rfl⟩, ?_⟩
    show Steps p.tables e below _ (((({ U with heap := s₂.heap, slotsUsed := s₂.slotsUsed } : State).setVm s₂.vm).setTop g).pushFrame (.throwing q))
    rw [← hs₂]
    exact hsteps
end Payer
section Calls
variable {p : Program} {l : Launch} {e : Env} {R : Room} {s : State} {m : MethodId} {args : Array Value} {below : List Frame} {meth : Method} {c : Code} {T : State} {locs : List Loc} {cells slots : Nat}
theorem vx_callV (X : Stand p l e R s m args below meth c T locs cells slots) (hexec : p.tables.exec = Jvm.exec) {own C : String} {index : Nat} {y : MethodName} {bytes : ByteArray} {maxL : Nat} {ret : Option FieldType}
    (hown : s.vm.findClass own = some m.cls) (hlink : (Cond.methodLink own index y).before args s = true) (hinst : (Cond.instanceMethod y).before args s = true) (hsel : (Cond.selects C y y).before args s = true)
    (hcode : (Cond.code y bytes maxL ret).before args s = true) (hy : y.cls ≠ "java/lang/invoke/MethodHandle" ∧ y.cls ≠ "java/lang/invoke/VarHandle")
    {W9 : Nat} {Pre : Pt → Array Value → Prop} {Post : Pt → Array Value → Option Value → Pt → Prop} {PostX : Pt → Array Value → Addr → Pt → Prop} (hK : vx_Back l R p e below s args y 3 W9 Pre Post PostX)
    {b : Addr} {cellB : Cell} (hcell : T.heap[b]? = some cellB) (hobj : cellB.vm.isStatics = false) (hcls : s.vm.findClass C = some cellB.cls)
    {g : JFrame} (hg : g.method = m) (hsize : g.locals.size = c.maxLocals) {argsL rest : List Value} (hlen : ∀ sig, parseMethodDescriptor y.desc = some sig → argsL.length = sig.parameters.length)
    (hstack : g.stack = argsL.reverse ++ .ref b :: rest) (hW : 2 * g.monitorRoom + (rest.map fun v => v.category).sum ≤ W9) (hdg : decode c.code g.pc = .ok (.invokevirtual index, 3))
    (hpre : ∀ vm₁, s.WarmedH vm₁ → Pre ⟨T.setVm vm₁, locs, cells, slots⟩ (Value.ref b :: argsL).toArray) :
    (∃ (v : Option Value) (vm₁ : Vm) (B : Pt), s.WarmedH vm₁ ∧ Stand p l e R s m args below meth c B.U B.locs B.cells B.slots ∧ Post ⟨T.setVm vm₁, locs, cells, slots⟩ (Value.ref b :: argsL).toArray v B ∧
      ∀ target, Steps p.tables e below (B.U.setTop { g with pc := g.pc + 3, stack := v.toList ++ rest }) target → Steps p.tables e below (T.setTop g) target) ∨
    (∃ (q : Addr) (vm₁ : Vm) (B : Pt), s.WarmedH vm₁ ∧ Stand p l e R s m args below meth c B.U B.locs B.cells B.slots ∧ PostX ⟨T.setVm vm₁, locs, cells, slots⟩ (Value.ref b :: argsL).toArray q B ∧
      Steps p.tables e below (T.setTop g) ((B.U.setTop { g with stack := rest }).pushFrame (.throwing q))) := by
  obtain ⟨mk, methM, hnamed, hmethM, hstM, habM⟩ := Cond.instanceMethod_spec hinst
  obtain ⟨methM', cM, hmethM', -, -, -, -, -, -, hsigM⟩ := Cond.code_spec hnamed hcode
  cases hmethM.symm.trans hmethM'
  obtain ⟨c2, r2, m2, q1, q2, q3, q4, kP, hkP, hkPi⟩ := Cond.selects_spec hsel
  cases hcls.symm.trans q1
  cases (State.methodFound?_of_named hnamed hy).symm.trans q2
  cases hnamed.symm.trans q3
  have hselP : selectMethod e.platform s.vm cellB.cls mk = .method mk := by rw [Launch.admits_selectMethod X.admits]; exact q4
  obtain ⟨vm₁, X₁, hstep₁⟩ := X.invokevirtual hexec hown hlink hnamed hmethM hstM hkP hkPi hy (a := b) (cell := cellB) hcell
    (fun z h => by rw [h] at hobj; cases hobj) hselP hmethM habM hkP hkPi (g := g) hg (argsL := argsL) (rest := rest) (hlen _ hsigM) hstack hdg
  rcases hK m meth c ⟨T.setVm vm₁, locs, cells, slots⟩ { g with stack := rest } (.invokevirtual index) mk (Value.ref b :: argsL).toArray X₁ hg hsize hdg hW (X₁.named hnamed) (hpre vm₁ X₁.warmed) with ⟨v, B, X', hpost, hsteps⟩ | ⟨q, B, X', hpost, hsteps⟩
  · exact Or.inl ⟨v, vm₁, B, X₁.warmed, X', hpost, fun target h => hstep₁ _ fun acts => by rw [doInvoke_state]; exact hsteps.trans h⟩
  · exact Or.inr ⟨q, vm₁, B, X₁.warmed, X', hpost, hstep₁ _ fun acts => by rw [doInvoke_state]; exact hsteps⟩
theorem vx_callS (X : Stand p l e R s m args below meth c T locs cells slots) (hexec : p.tables.exec = Jvm.exec) {own : String} {index : Nat} {y : MethodName} {bytes : ByteArray} {maxL : Nat} {ret : Option FieldType}
    (hown : s.vm.findClass own = some m.cls) (hlink : (Cond.methodLink own index y).before args s = true) (hstat : (Cond.static y).before args s = true) (hinit : (Cond.initialized y.cls).before args s = true)
    (hcode : (Cond.code y bytes maxL ret).before args s = true) (hy : y.cls ≠ "java/lang/invoke/MethodHandle" ∧ y.cls ≠ "java/lang/invoke/VarHandle")
    {W9 : Nat} {Pre : Pt → Array Value → Prop} {Post : Pt → Array Value → Option Value → Pt → Prop} {PostX : Pt → Array Value → Addr → Pt → Prop} (hK : vx_Back l R p e below s args y 3 W9 Pre Post PostX)
    {g : JFrame} (hg : g.method = m) (hsize : g.locals.size = c.maxLocals) {argsL rest : List Value} (hlen : ∀ sig, parseMethodDescriptor y.desc = some sig → argsL.length = sig.parameters.length)
    (hstack : g.stack = argsL.reverse ++ rest) (hW : 2 * g.monitorRoom + (rest.map fun v => v.category).sum ≤ W9) (hdg : decode c.code g.pc = .ok (.invokestatic index, 3))
    (hpre : ∀ vm₁, s.WarmedH vm₁ → Pre ⟨T.setVm vm₁, locs, cells, slots⟩ argsL.toArray) :
    (∃ (v : Option Value) (vm₁ : Vm) (B : Pt), s.WarmedH vm₁ ∧ Stand p l e R s m args below meth c B.U B.locs B.cells B.slots ∧ Post ⟨T.setVm vm₁, locs, cells, slots⟩ argsL.toArray v B ∧
      ∀ target, Steps p.tables e below (B.U.setTop { g with pc := g.pc + 3, stack := v.toList ++ rest }) target → Steps p.tables e below (T.setTop g) target) ∨
    (∃ (q : Addr) (vm₁ : Vm) (B : Pt), s.WarmedH vm₁ ∧ Stand p l e R s m args below meth c B.U B.locs B.cells B.slots ∧ PostX ⟨T.setVm vm₁, locs, cells, slots⟩ argsL.toArray q B ∧
      Steps p.tables e below (T.setTop g) ((B.U.setTop { g with stack := rest }).pushFrame (.throwing q))) := by
  obtain ⟨mk, hnamed⟩ := Cond.code_named hcode
  obtain ⟨methM, cM, hmethM, -, -, -, -, -, -, hsigM⟩ := Cond.code_spec hnamed hcode
  have hstatic : methM.isStatic = true := Cond.static_spec hnamed hmethM hstat
  obtain ⟨kP, hkP, -⟩ := className_of_methodNamed hnamed
  have hinitP : kP.init = .initialized := Cond.initialized_spec (findClass_of_methodNamed hnamed) hkP hinit
  obtain ⟨vm₁, X₁, hstep₁⟩ := X.invokestatic hexec hown hlink hnamed hmethM hstatic hkP hinitP hy (g := g) hg (argsL := argsL) (rest := rest) (hlen _ hsigM) hstack hdg
  rcases hK m meth c ⟨T.setVm vm₁, locs, cells, slots⟩ { g with stack := rest } (.invokestatic index) mk argsL.toArray X₁ hg hsize hdg hW (X₁.named hnamed) (hpre vm₁ X₁.warmed) with ⟨v, B, X', hpost, hsteps⟩ | ⟨q, B, X', hpost, hsteps⟩
  · exact Or.inl ⟨v, vm₁, B, X₁.warmed, X', hpost, fun target h => hstep₁ _ fun acts => by rw [doInvoke_state]; exact hsteps.trans h⟩
  · exact Or.inr ⟨q, vm₁, B, X₁.warmed, X', hpost, hstep₁ _ fun acts => by rw [doInvoke_state]; exact hsteps⟩
end Calls
theorem vx_cls {s : State} {T : State} {vm₁ : Vm} {E : String} {k : ClassId} (hW : s.WarmedH vm₁) (h : (T.setVm vm₁).vm.findClass E = some k) : s.vm.findClass E = some k := by
  have h1 : vm₁.findClass E = some k := h
  rw [hW.alike.findClass] at h1
  exact h1
/-- the method's frame g, with q thrown over it -/
def vx_W (p : Program) (l : Launch) (e : Env) (R : Room) (s : State) (m : MethodId) (args : Array Value) (below : List Frame) (meth : Method) (c : Code) (H : Heap) (locs : List Loc) (cells slots : Nat) (Q : State → Prop) (g : JFrame) (q : Addr) : Prop :=
  ∀ T : State, T.heap = H → Stand p l e R s m args below meth c T locs cells slots → ∃ t, Steps p.tables e below ((T.setTop g).pushFrame (.throwing q)) t ∧ Q t
def vx_Run (p : Program) (l : Launch) (e : Env) (R : Room) (s : State) (m : MethodId) (args : Array Value) (below : List Frame) (meth : Method) (c : Code) (H : Heap) (locs : List Loc) (cells slots mc ms : Nat) (g : JFrame) (rest : List Value) (Qa : State → Outcome → State → Prop) (XC : String → State → State → Prop) (free : Addr → Prop) : Prop :=
  ∀ T : State, T.heap = H → Stand p l e R s m args below meth c T locs cells slots →
    (∃ (v : Option Value) (st₀ t T' : State) (L : List Loc), st₀.heap = H ∧ Stand p l e R s m args below meth c T' (locs ++ L) (cells + mc) (slots + ms) ∧ (∀ q ∈ L, free q.base) ∧ T'.heap = t.heap ∧ T'.vm = t.vm ∧ Qa st₀ (.returned v) t ∧
      Goes p e below T g T' { g with pc := g.pc + 3, stack := v.toList ++ rest }) ∨
    (∃ (q : Addr) (st₀ t T' : State) (L : List Loc) (E : String) (ce : Cell), st₀.heap = H ∧ Stand p l e R s m args below meth c T' (locs ++ L) (cells + mc) (slots + ms) ∧ (∀ z ∈ L, free z.base) ∧ T'.heap = t.heap ∧ T'.vm = t.vm ∧ XC E st₀ t ∧ t.heap[q]? = some ce ∧ ce.vm = .none ∧ s.vm.findClass E = some ce.cls ∧
      Steps p.tables e below (T.setTop g) ((T'.setTop { g with stack := rest }).pushFrame (.throwing q)))
def vx_X {S : Type} (px : S → Prop) (B : String → S → State → Prop) (A : Nat → Prop) : String → State → State → Prop := fun E st t => ∃ u : S, px u ∧ B E u t ∧ va_F A st t
section Runs
variable {p : Program} {l : Launch} {e : Env} {R : Room} {s : State} {m : MethodId} {args : Array Value} {below : List Frame} {meth : Method} {c : Code} {H : Heap} {locs : List Loc} {cells slots : Nat}
variable {y : MethodName} {bytes cc : ByteArray} {maxL nL mc ms n index : Nat} {ret : Option FieldType} {ws : List Cond} {rm : Room} {Pc : Array Value → State → Prop} {Qc : Array Value → State → Outcome → State → Prop} {XC : String → State → State → Prop} {free : Addr → Prop} {Ts : List Cond} {own C : String} {b : Addr} {As rest : List Value} {g : JFrame}
theorem vx_callBack (cb : CallB R s args own index y bytes maxL ret ws rm mc ms n) (hM : vx_Met l y ws rm Pc Qc XC mc ms free) (hbl : FrameBlind Pc) : vx_Back l R p e below s args y 3 8 (PreOf R mc ms Pc) (PostOf Qc mc ms free) (vx_Post XC mc ms free) := by
  obtain ⟨hrc, hrs, hfr, hlo, hws, hcw, -, hini, -⟩ := cb
  exact vx_back (bytes := bytes) (maxL := maxL) (ret := ret) hM hbl hrc hrs hfr hlo hws hcw (fun a' U hW => word_at hW (Or.inl (by first | rfl | simp [Cond.onTables, Cond.keeps, Cond.steady])) hini)
theorem vx_runV (S : CallFix p m c cc nL s args Ts own) (hM : vx_Met l y ws rm Pc Qc XC mc ms free) (cw : CallW R s args own C index y bytes maxL ret ws rm mc ms n) (hp : PreV s H C b Pc As)
    (hg : g.method = m) (hn : As.length = n) (hsize : g.locals.size = nL) (hstack : g.stack = As.reverse ++ .ref b :: rest) (hW : 2 * g.monitorRoom + (rest.map fun v => v.category).sum ≤ 8) (hdg : decode cc g.pc = .ok (.invokevirtual index, 3)) (hf : cells + mc ≤ R.cells ∧ slots + ms ≤ R.slots) :
    vx_Run p l e R s m args below meth c H locs cells slots mc ms g rest (Qc (Value.ref b :: As).toArray) XC free := by
  have hK : vx_Back l R p e below s args y 3 8 (PreOf R mc ms Pc) (PostOf Qc mc ms free) (vx_Post XC mc ms free) := vx_callBack cw.1 hM hp.1
  obtain ⟨⟨-, -, -, -, -, -, hcode, -, hy, hlen, hl⟩, hin, hse⟩ := cw
  obtain ⟨hx, hb, hml, ho, -⟩ := S
  obtain ⟨-, ⟨cellB, hcB, hoB, hclB⟩, hPc⟩ := hp
  intro T hT X
  rcases vx_callV X hx (C := C) (bytes := bytes) (maxL := maxL) (ret := ret) ho hl hin hse hcode hy hK (by rw [hT]; exact hcB) hoB hclB hg (hsize.trans hml.symm) (argsL := As) (rest := rest) (fun sig h => hn.trans (hlen sig h)) hstack hW (by rw [hb]; exact hdg)
    (fun vm₁ hW₁ => ⟨hf.1, hf.2, hPc (T.setVm vm₁) hT hW₁⟩) with ⟨v, vm₁, ⟨U', l2, c2, s2⟩, hW₁, X', ⟨g', mk, t, L, e1, e2, hq, h1, hL, h2, h3⟩, st⟩ | ⟨q, vm₁, ⟨U', l2, c2, s2⟩, hW₁, X', ⟨g', mk, t, L, E, ce, e1, e2, hq, hce, hcv, hcl, h1, hL, h2, h3⟩, st⟩
  · dsimp only [Pt.U, Pt.locs, Pt.cells, Pt.slots] at X' e1 e2 h1 h2 h3 st
    subst h1; subst h2; subst h3
    exact Or.inl ⟨v, (T.setVm vm₁).calling g' mk (Value.ref b :: As).toArray, t, U', L, hT, X', hL, e1, e2, hq, st⟩
  · dsimp only [Pt.U, Pt.locs, Pt.cells, Pt.slots] at X' e1 e2 h1 h2 h3 st hcl
    subst h1; subst h2; subst h3
    exact Or.inr ⟨q, (T.setVm vm₁).calling g' mk (Value.ref b :: As).toArray, t, U', L, E, ce, hT, X', hL, e1, e2, hq, hce, hcv, vx_cls hW₁ hcl, st⟩
theorem vx_runS (S : CallFix p m c cc nL s args Ts own) (hM : vx_Met l y ws rm Pc Qc XC mc ms free) (cw : CallB R s args own index y bytes maxL ret ws rm mc ms n ∧ (Cond.static y).before args s = true) (hp : PreS s H Pc As)
    (hg : g.method = m) (hn : As.length = n) (hsize : g.locals.size = nL) (hstack : g.stack = As.reverse ++ rest) (hW : 2 * g.monitorRoom + (rest.map fun v => v.category).sum ≤ 8) (hdg : decode cc g.pc = .ok (.invokestatic index, 3)) (hf : cells + mc ≤ R.cells ∧ slots + ms ≤ R.slots) :
    vx_Run p l e R s m args below meth c H locs cells slots mc ms g rest (Qc As.toArray) XC free := by
  have hK : vx_Back l R p e below s args y 3 8 (PreOf R mc ms Pc) (PostOf Qc mc ms free) (vx_Post XC mc ms free) := vx_callBack cw.1 hM hp.1
  obtain ⟨⟨-, -, -, -, -, -, hcode, hini, hy, hlen, hl⟩, hstt⟩ := cw
  obtain ⟨hx, hb, hml, ho, -⟩ := S
  intro T hT X
  rcases vx_callS X hx (bytes := bytes) (maxL := maxL) (ret := ret) ho hl hstt hini hcode hy hK hg (hsize.trans hml.symm) (argsL := As) (rest := rest) (fun sig h => hn.trans (hlen sig h)) hstack hW (by rw [hb]; exact hdg)
    (fun vm₁ hW₁ => ⟨hf.1, hf.2, hp.2 (T.setVm vm₁) hT hW₁⟩) with ⟨v, vm₁, ⟨U', l2, c2, s2⟩, hW₁, X', ⟨g', mk, t, L, e1, e2, hq, h1, hL, h2, h3⟩, st⟩ | ⟨q, vm₁, ⟨U', l2, c2, s2⟩, hW₁, X', ⟨g', mk, t, L, E, ce, e1, e2, hq, hce, hcv, hcl, h1, hL, h2, h3⟩, st⟩
  · dsimp only [Pt.U, Pt.locs, Pt.cells, Pt.slots] at X' e1 e2 h1 h2 h3 st
    subst h1; subst h2; subst h3
    exact Or.inl ⟨v, (T.setVm vm₁).calling g' mk As.toArray, t, U', L, hT, X', hL, e1, e2, hq, st⟩
  · dsimp only [Pt.U, Pt.locs, Pt.cells, Pt.slots] at X' e1 e2 h1 h2 h3 st hcl
    subst h1; subst h2; subst h3
    exact Or.inr ⟨q, (T.setVm vm₁).calling g' mk As.toArray, t, U', L, E, ce, hT, X', hL, e1, e2, hq, hce, hcv, vx_cls hW₁ hcl, st⟩
end Runs
section Rows
variable {p : Program} {l : Launch} {e : Env} {R : Room} {s : State} {m : MethodId} {args : Array Value} {below : List Frame} {meth : Method} {c : Code} {H : Heap} {locs : List Loc} {cells slots : Nat} {Q : State → Prop}
variable {mc ms : Nat} {free : Addr → Prop} {A0 A1 : Nat → Prop} {H0 : Heap} {a : Array Value} {pc : Nat} {ls : Array Slot} {st0 rest : List Value}
theorem vx_keep {st₀ t T' : State} {L : List Loc} (h0 : st₀.heap = H) (e1 : T'.heap = t.heap) (hS : va_S A0 H0 H locs) (hA : ∀ q, q < H.size → A1 q → A0 q) (hf : ∀ q, free q → A0 q) (hL : ∀ q ∈ L, free q.base) (hF : va_F A1 st₀ t) :
    H.size ≤ T'.heap.size ∧ (∀ q : Nat, q < H.size → ¬ A1 q → T'.heap[q]? = H[q]?) ∧ va_S A0 H0 T'.heap (locs ++ L) := by
  obtain ⟨hz, hk⟩ := hF
  rw [h0] at hz hk
  exact ⟨by rw [e1]; exact hz, fun q h1 h2 => by rw [e1]; exact hk q h1 h2,
    ⟨Nat.le_trans hS.1 (by rw [e1]; exact hz), fun q h1 h2 => by rw [e1, hk q (Nat.lt_of_lt_of_le h1 hS.1) (fun z => h2 (hA q (Nat.lt_of_lt_of_le h1 hS.1) z))]; exact hS.2.1 q h1 h2, fun q hq => by
      rcases List.mem_append.mp hq with h | h
      · exact hS.2.2 q h
      · exact hf _ (hL q h)⟩⟩
theorem vx_calli {S SX : Type} {post : Int32 → S → Prop} {px : SX → Prop} {B : S → State → Prop} {BX : String → SX → State → Prop} {AX : Nat → Prop} (hr : vx_Run p l e R s m args below meth c H locs cells slots mc ms (F0 m pc ls st0) rest (va_Qi post B A1 a) (vx_X px BX AX) free) (hS : va_S A0 H0 H locs) (hA : ∀ q, q < H.size → A1 q → A0 q) (hf : ∀ q, free q → A0 q) (hAX : ∀ q, q < H.size → AX q → A0 q)
    (kx : ∀ (E : String) (ce : Cell) (q9 : Addr) (u : SX) (t : State) (H1 : Heap) (locs1 : List Loc), t.heap = H1 → s.vm.Alike t.vm → px u → BX E u t → H.size ≤ H1.size → (∀ q : Nat, q < H.size → ¬ AX q → H1[q]? = H[q]?) → va_S A0 H0 H1 locs1 → H1[q9]? = some ce → ce.vm = .none → s.vm.findClass E = some ce.cls → vx_W p l e R s m args below meth c H1 locs1 (cells + mc) (slots + ms) Q (F0 m pc ls rest) q9)
    (kk : ∀ (r : Int32) (u : S) (t : State) (H1 : Heap) (locs1 : List Loc), t.heap = H1 → s.vm.Alike t.vm → post r u → B u t → H.size ≤ H1.size → (∀ q : Nat, q < H.size → ¬ A1 q → H1[q]? = H[q]?) → va_S A0 H0 H1 locs1 → W p l e R s m args below meth c H1 locs1 (cells + mc) (slots + ms) Q (F0 m (pc + 3) ls (.int r :: rest))) : W p l e R s m args below meth c H locs cells slots Q (F0 m pc ls st0) := by
  intro T hT X
  rcases hr T hT X with ⟨v, st₀, t, T', L, h0, X', hL, e1, e2, ⟨⟨r, u, hv, hp, hb⟩, hF⟩, st⟩ | ⟨q, st₀, t, T', L, E, ce, h0, X', hL, e1, e2, ⟨u, hp, hb, hF⟩, hce, hcv, hcl, st⟩
  · cases hv
    obtain ⟨k1, k2, k3⟩ := vx_keep h0 e1 hS hA hf hL hF
    obtain ⟨t2, a1, b1⟩ := kk r u t T'.heap (locs ++ L) e1.symm (by rw [← e2]; exact X'.warmed.alike) hp hb k1 k2 k3 T' rfl X'
    exact ⟨t2, st t2 a1, b1⟩
  · obtain ⟨k1, k2, k3⟩ := vx_keep h0 e1 hS hAX hf hL hF
    obtain ⟨t2, a1, b1⟩ := kx E ce q u t T'.heap (locs ++ L) e1.symm (by rw [← e2]; exact X'.warmed.alike) hp hb k1 k2 k3 (by rw [e1]; exact hce) hcv hcl T' rfl X'
    exact ⟨t2, st.trans a1, b1⟩
theorem vx_calll {S SX : Type} {post : Int64 → S → Prop} {px : SX → Prop} {B : S → State → Prop} {BX : String → SX → State → Prop} {AX : Nat → Prop} (hr : vx_Run p l e R s m args below meth c H locs cells slots mc ms (F0 m pc ls st0) rest (va_Ql post B A1 a) (vx_X px BX AX) free) (hS : va_S A0 H0 H locs) (hA : ∀ q, q < H.size → A1 q → A0 q) (hf : ∀ q, free q → A0 q) (hAX : ∀ q, q < H.size → AX q → A0 q)
    (kx : ∀ (E : String) (ce : Cell) (q9 : Addr) (u : SX) (t : State) (H1 : Heap) (locs1 : List Loc), t.heap = H1 → s.vm.Alike t.vm → px u → BX E u t → H.size ≤ H1.size → (∀ q : Nat, q < H.size → ¬ AX q → H1[q]? = H[q]?) → va_S A0 H0 H1 locs1 → H1[q9]? = some ce → ce.vm = .none → s.vm.findClass E = some ce.cls → vx_W p l e R s m args below meth c H1 locs1 (cells + mc) (slots + ms) Q (F0 m pc ls rest) q9)
    (kk : ∀ (r : Int64) (u : S) (t : State) (H1 : Heap) (locs1 : List Loc), t.heap = H1 → s.vm.Alike t.vm → post r u → B u t → H.size ≤ H1.size → (∀ q : Nat, q < H.size → ¬ A1 q → H1[q]? = H[q]?) → va_S A0 H0 H1 locs1 → W p l e R s m args below meth c H1 locs1 (cells + mc) (slots + ms) Q (F0 m (pc + 3) ls (.long r :: rest))) : W p l e R s m args below meth c H locs cells slots Q (F0 m pc ls st0) := by
  intro T hT X
  rcases hr T hT X with ⟨v, st₀, t, T', L, h0, X', hL, e1, e2, ⟨⟨r, u, hv, hp, hb⟩, hF⟩, st⟩ | ⟨q, st₀, t, T', L, E, ce, h0, X', hL, e1, e2, ⟨u, hp, hb, hF⟩, hce, hcv, hcl, st⟩
  · cases hv
    obtain ⟨k1, k2, k3⟩ := vx_keep h0 e1 hS hA hf hL hF
    obtain ⟨t2, a1, b1⟩ := kk r u t T'.heap (locs ++ L) e1.symm (by rw [← e2]; exact X'.warmed.alike) hp hb k1 k2 k3 T' rfl X'
    exact ⟨t2, st t2 a1, b1⟩
  · obtain ⟨k1, k2, k3⟩ := vx_keep h0 e1 hS hAX hf hL hF
    obtain ⟨t2, a1, b1⟩ := kx E ce q u t T'.heap (locs ++ L) e1.symm (by rw [← e2]; exact X'.warmed.alike) hp hb k1 k2 k3 (by rw [e1]; exact hce) hcv hcl T' rfl X'
    exact ⟨t2, st.trans a1, b1⟩
theorem vx_callf {S SX : Type} {post : UInt32 → S → Prop} {px : SX → Prop} {B : S → State → Prop} {BX : String → SX → State → Prop} {AX : Nat → Prop} (hr : vx_Run p l e R s m args below meth c H locs cells slots mc ms (F0 m pc ls st0) rest (va_Qf post B A1 a) (vx_X px BX AX) free) (hS : va_S A0 H0 H locs) (hA : ∀ q, q < H.size → A1 q → A0 q) (hf : ∀ q, free q → A0 q) (hAX : ∀ q, q < H.size → AX q → A0 q)
    (kx : ∀ (E : String) (ce : Cell) (q9 : Addr) (u : SX) (t : State) (H1 : Heap) (locs1 : List Loc), t.heap = H1 → s.vm.Alike t.vm → px u → BX E u t → H.size ≤ H1.size → (∀ q : Nat, q < H.size → ¬ AX q → H1[q]? = H[q]?) → va_S A0 H0 H1 locs1 → H1[q9]? = some ce → ce.vm = .none → s.vm.findClass E = some ce.cls → vx_W p l e R s m args below meth c H1 locs1 (cells + mc) (slots + ms) Q (F0 m pc ls rest) q9)
    (kk : ∀ (r : UInt32) (u : S) (t : State) (H1 : Heap) (locs1 : List Loc), t.heap = H1 → s.vm.Alike t.vm → post r u → B u t → H.size ≤ H1.size → (∀ q : Nat, q < H.size → ¬ A1 q → H1[q]? = H[q]?) → va_S A0 H0 H1 locs1 → W p l e R s m args below meth c H1 locs1 (cells + mc) (slots + ms) Q (F0 m (pc + 3) ls (.float r :: rest))) : W p l e R s m args below meth c H locs cells slots Q (F0 m pc ls st0) := by
  intro T hT X
  rcases hr T hT X with ⟨v, st₀, t, T', L, h0, X', hL, e1, e2, ⟨⟨r, u, hv, hp, hb⟩, hF⟩, st⟩ | ⟨q, st₀, t, T', L, E, ce, h0, X', hL, e1, e2, ⟨u, hp, hb, hF⟩, hce, hcv, hcl, st⟩
  · cases hv
    obtain ⟨k1, k2, k3⟩ := vx_keep h0 e1 hS hA hf hL hF
    obtain ⟨t2, a1, b1⟩ := kk r u t T'.heap (locs ++ L) e1.symm (by rw [← e2]; exact X'.warmed.alike) hp hb k1 k2 k3 T' rfl X'
    exact ⟨t2, st t2 a1, b1⟩
  · obtain ⟨k1, k2, k3⟩ := vx_keep h0 e1 hS hAX hf hL hF
    obtain ⟨t2, a1, b1⟩ := kx E ce q u t T'.heap (locs ++ L) e1.symm (by rw [← e2]; exact X'.warmed.alike) hp hb k1 k2 k3 (by rw [e1]; exact hce) hcv hcl T' rfl X'
    exact ⟨t2, st.trans a1, b1⟩
theorem vx_calld {S SX : Type} {post : UInt64 → S → Prop} {px : SX → Prop} {B : S → State → Prop} {BX : String → SX → State → Prop} {AX : Nat → Prop} (hr : vx_Run p l e R s m args below meth c H locs cells slots mc ms (F0 m pc ls st0) rest (va_Qd post B A1 a) (vx_X px BX AX) free) (hS : va_S A0 H0 H locs) (hA : ∀ q, q < H.size → A1 q → A0 q) (hf : ∀ q, free q → A0 q) (hAX : ∀ q, q < H.size → AX q → A0 q)
    (kx : ∀ (E : String) (ce : Cell) (q9 : Addr) (u : SX) (t : State) (H1 : Heap) (locs1 : List Loc), t.heap = H1 → s.vm.Alike t.vm → px u → BX E u t → H.size ≤ H1.size → (∀ q : Nat, q < H.size → ¬ AX q → H1[q]? = H[q]?) → va_S A0 H0 H1 locs1 → H1[q9]? = some ce → ce.vm = .none → s.vm.findClass E = some ce.cls → vx_W p l e R s m args below meth c H1 locs1 (cells + mc) (slots + ms) Q (F0 m pc ls rest) q9)
    (kk : ∀ (r : UInt64) (u : S) (t : State) (H1 : Heap) (locs1 : List Loc), t.heap = H1 → s.vm.Alike t.vm → post r u → B u t → H.size ≤ H1.size → (∀ q : Nat, q < H.size → ¬ A1 q → H1[q]? = H[q]?) → va_S A0 H0 H1 locs1 → W p l e R s m args below meth c H1 locs1 (cells + mc) (slots + ms) Q (F0 m (pc + 3) ls (.double r :: rest))) : W p l e R s m args below meth c H locs cells slots Q (F0 m pc ls st0) := by
  intro T hT X
  rcases hr T hT X with ⟨v, st₀, t, T', L, h0, X', hL, e1, e2, ⟨⟨r, u, hv, hp, hb⟩, hF⟩, st⟩ | ⟨q, st₀, t, T', L, E, ce, h0, X', hL, e1, e2, ⟨u, hp, hb, hF⟩, hce, hcv, hcl, st⟩
  · cases hv
    obtain ⟨k1, k2, k3⟩ := vx_keep h0 e1 hS hA hf hL hF
    obtain ⟨t2, a1, b1⟩ := kk r u t T'.heap (locs ++ L) e1.symm (by rw [← e2]; exact X'.warmed.alike) hp hb k1 k2 k3 T' rfl X'
    exact ⟨t2, st t2 a1, b1⟩
  · obtain ⟨k1, k2, k3⟩ := vx_keep h0 e1 hS hAX hf hL hF
    obtain ⟨t2, a1, b1⟩ := kx E ce q u t T'.heap (locs ++ L) e1.symm (by rw [← e2]; exact X'.warmed.alike) hp hb k1 k2 k3 (by rw [e1]; exact hce) hcv hcl T' rfl X'
    exact ⟨t2, st.trans a1, b1⟩
theorem vx_callv {S SX : Type} {post : S → Prop} {px : SX → Prop} {B : S → State → Prop} {BX : String → SX → State → Prop} {AX : Nat → Prop} (hr : vx_Run p l e R s m args below meth c H locs cells slots mc ms (F0 m pc ls st0) rest (va_Qv post B A1 a) (vx_X px BX AX) free) (hS : va_S A0 H0 H locs) (hA : ∀ q, q < H.size → A1 q → A0 q) (hf : ∀ q, free q → A0 q) (hAX : ∀ q, q < H.size → AX q → A0 q)
    (kx : ∀ (E : String) (ce : Cell) (q9 : Addr) (u : SX) (t : State) (H1 : Heap) (locs1 : List Loc), t.heap = H1 → s.vm.Alike t.vm → px u → BX E u t → H.size ≤ H1.size → (∀ q : Nat, q < H.size → ¬ AX q → H1[q]? = H[q]?) → va_S A0 H0 H1 locs1 → H1[q9]? = some ce → ce.vm = .none → s.vm.findClass E = some ce.cls → vx_W p l e R s m args below meth c H1 locs1 (cells + mc) (slots + ms) Q (F0 m pc ls rest) q9)
    (kk : ∀ (u : S) (t : State) (H1 : Heap) (locs1 : List Loc), t.heap = H1 → s.vm.Alike t.vm → post u → B u t → H.size ≤ H1.size → (∀ q : Nat, q < H.size → ¬ A1 q → H1[q]? = H[q]?) → va_S A0 H0 H1 locs1 → W p l e R s m args below meth c H1 locs1 (cells + mc) (slots + ms) Q (F0 m (pc + 3) ls (rest))) : W p l e R s m args below meth c H locs cells slots Q (F0 m pc ls st0) := by
  intro T hT X
  rcases hr T hT X with ⟨v, st₀, t, T', L, h0, X', hL, e1, e2, ⟨⟨u, hv, hp, hb⟩, hF⟩, st⟩ | ⟨q, st₀, t, T', L, E, ce, h0, X', hL, e1, e2, ⟨u, hp, hb, hF⟩, hce, hcv, hcl, st⟩
  · cases hv
    obtain ⟨k1, k2, k3⟩ := vx_keep h0 e1 hS hA hf hL hF
    obtain ⟨t2, a1, b1⟩ := kk u t T'.heap (locs ++ L) e1.symm (by rw [← e2]; exact X'.warmed.alike) hp hb k1 k2 k3 T' rfl X'
    exact ⟨t2, st t2 a1, b1⟩
  · obtain ⟨k1, k2, k3⟩ := vx_keep h0 e1 hS hAX hf hL hF
    obtain ⟨t2, a1, b1⟩ := kx E ce q u t T'.heap (locs ++ L) e1.symm (by rw [← e2]; exact X'.warmed.alike) hp hb k1 k2 k3 (by rw [e1]; exact hce) hcv hcl T' rfl X'
    exact ⟨t2, st.trans a1, b1⟩
/-- caught by the row x of this method's table; the rows ahead don't take it -/
theorem vx_catch {own name : String} {E : String} {ce : Cell} {q : Addr} (hown : s.vm.findClass own = some m.cls) (pre : List ExceptionTableEntry) (x : ExceptionTableEntry) (suf : List ExceptionTableEntry) (hsplit : c.exceptionTable.toList = pre ++ x :: suf)
    (hpass : ∀ z ∈ pre, covers z pc = false ∨ (z.catchType ≠ 0 ∧ ∃ nm : String, (Cond.classLink own z.catchType nm).before args s = true ∧ va_Nc E nm s)) (hx : covers x pc = true) (h0 : x.catchType ≠ 0)
    (hlink : (Cond.classLink own x.catchType name).before args s = true) (hcast : (Cond.castable E name).before args s = true) (hcell : H[q]? = some ce) (hv : ce.vm = .none) (hcl : s.vm.findClass E = some ce.cls)
    (kk : W p l e R s m args below meth c H locs cells slots Q (F0 m x.handlerPc ls [.ref q])) : vx_W p l e R s m args below meth c H locs cells slots Q (F0 m pc ls rest) q := by
  intro T hT X
  have hpl : e.platform.magicAccessors = ({} : Platform).magicAccessors := by rw [X.admits.platform]
  obtain ⟨c3, c4, hc3, hc4, hasg⟩ := Cond.castable_spec hcast
  cases Option.some.inj (hc3.symm.trans hcl)
  obtain ⟨c5, hc5, hcl5⟩ := Cond.classLink_spec hown hlink e.platform hpl
  cases Option.some.inj (hc4.symm.trans hc5)
  obtain ⟨vm', X', st⟩ := X.thenCaughtThrough q (g := F0 m pc ls rest) rfl (Steps.refl _) (by rw [hT]; exact hcell) (by rw [hv]; rfl) (by obtain ⟨k9, h9, -⟩ := Vm.findClass_spec hcl; exact ⟨k9, h9⟩) pre x suf hsplit
    (fun z hz => by
      rcases hpass z hz with h | ⟨hz0, nm, hl1, hn1⟩
      · exact Or.inl h
      · obtain ⟨c6, hc6, hcl6⟩ := Cond.classLink_spec hown hl1 e.platform hpl
        obtain ⟨a8, b8, h1, h2, h3⟩ := hn1
        cases Option.some.inj (h1.symm.trans hcl)
        cases Option.some.inj (h2.symm.trans hc6)
        exact Or.inr ⟨hz0, _, hcl6, h3⟩) hx (Or.inr ⟨h0, c4, hcl5, hasg⟩)
  obtain ⟨t, a1, b1⟩ := kk (T.setVm vm') hT X'
  exact ⟨t, st.trans a1, b1⟩
end Rows
section Ends
variable {p : Program} {l : Launch} {e : Env} {R : Room} {s : State} {m : MethodId} {args : Array Value} {below : List Frame} {meth : Method} {c : Code} {H : Heap} {locs : List Loc} {cells slots : Nat} {Q : State → Prop}
variable {mc ms : Nat} {free : Addr → Prop} {A0 A1 : Nat → Prop} {H0 : Heap} {a : Array Value} {ls : Array Slot} {st0 rest : List Value}
variable {Qc : Array Value → State → Outcome → State → Prop} {XC : String → State → State → Prop}
/-- what a body that may throw owes at its end -/
def vx_MQ (below : List Frame) (Qc : Array Value → State → Outcome → State → Prop) (XC : String → State → State → Prop) (a : Array Value) (s : State) (mc ms : Nat) (free : Addr → Prop) : State → Prop := fun t =>
  ∃ o, t.status = .running ∧ Ended t below o ∧ vx_Q Qc XC mc ms free a s o t
theorem vx_ret {g : JFrame} {mc ms : Nat} (k : W p l e R s m args below meth c H locs cells slots (MQ below Qc args s mc ms free) g) : W p l e R s m args below meth c H locs cells slots (vx_MQ below Qc XC args s mc ms free) g := by
  intro T hT X
  obtain ⟨t, a1, o, b1, b2, b3, b4⟩ := k T hT X
  exact ⟨t, a1, o, b1, b2, Or.inl ⟨b3, b4⟩⟩
/-- not caught here: it goes on to the caller -/
theorem vx_widen {g : JFrame} {q : Addr} {k n : Nat} (h1 : cells ≤ k) (h2 : slots ≤ n) (kk : vx_W p l e R s m args below meth c H locs k n Q g q) : vx_W p l e R s m args below meth c H locs cells slots Q g q := fun T hT X => kk T hT (stand_widen X h1 h2)
theorem vx_out {pc : Nat} {E : String} {ce : Cell} {q : Addr} {mc ms : Nat} (hout : ∀ x ∈ c.exceptionTable.toList, covers x pc = false) (hlocks : meth.locks = false) (hcell : H[q]? = some ce) (hv : ce.vm = .none) (hcl : s.vm.findClass E = some ce.cls)
    (hx : ∀ t : State, t.heap = H → s.vm.Alike t.vm → XC E s t) (hf : ∀ z ∈ locs, free z.base) (hc : cells ≤ mc) (hs : slots ≤ ms) :
    vx_W p l e R s m args below meth c H locs cells slots (vx_MQ below Qc XC args s mc ms free) (F0 m pc ls rest) q := by
  intro T hT X
  obtain ⟨st1, hrun, hend, hW, hsm⟩ := X.leaveThrown q (g := F0 m pc ls rest) rfl rfl rfl hout hlocks
  have hcell9 : (T.setFrames (.throwing q :: below)).heap[q]? = some ce := by
    show T.heap[q]? = some ce
    rw [hT]; exact hcell
  exact ⟨_, st1, .threw q, hrun, hend, Or.inr ⟨q, rfl, E, ce, locs, hx _ hT hW.alike, hcell9, hv, hcl, hW, hsm.mono hc hs, hf⟩⟩
theorem vx_frame {U : State} {k n : Nat} (h : s.sameButNew ({ U with vm := s.vm } : State) locs k n) : s.heap.size ≤ U.heap.size ∧ ∀ q : Nat, q < s.heap.size → (∀ z ∈ locs, z.base ≠ q) → U.heap[q]? = s.heap[q]? := by
  obtain ⟨-, h2, -, -, -, h6⟩ := h
  refine ⟨h2, fun q hq hz => ?_⟩
  obtain ⟨c9, e1, e2, e3, e4⟩ := h6 q _ (Array.getElem?_eq_getElem hq)
  have hs : c9.slots = (s.heap[q]).slots := Array.ext_getElem? fun i => e4 i fun hm => hz _ hm rfl
  have h9 : c9 = s.heap[q] := by
    rw [hs] at e2
    exact e2
  have e5 : U.heap[q]? = some c9 := e1
  rw [e5, h9, Array.getElem?_eq_getElem hq]
/-- the words of a throw but the four that speak of the heap -/
def vx_no (w : Cond) : Bool := decide (w ≠ .isRef (.static Bundle.tN "UNASSIGNED_STACK" Bundle.steD)) && decide (w ≠ .isRef (.static Bundle.tN "SUPPRESSED_SENTINEL" Bundle.listD)) && decide (w ≠ .laysStatic Bundle.tN "UNASSIGNED_STACK" Bundle.steD) && decide (w ≠ .laysStatic Bundle.tN "SUPPRESSED_SENTINEL" Bundle.listD)
def vx_at0 (own : String) (ic : Nat) (X : String) (names : List String) : List Cond := (Bundle.ownAtoms0 own ic X names).filter vx_no
def vx_atS (own : String) (ic : Nat) (X : String) (names : List String) : List Cond := (Bundle.ownAtoms own ic X names).filter vx_no
/-- a word that the tables alone decide, or a good one -/
def vx_ot (w : Cond) : Bool := w.onTables || goodWord w
theorem vx_ot_at {args a' : Array Value} {s U : State} {w : Cond} (hW : s.WarmedH U.vm) (hvm : s.vm = U.vm) (hg : vx_ot w = true) (h : w.before args s = true) : w.before a' U = true := by
  simp only [vx_ot, Bool.or_eq_true] at hg
  rcases hg with hg | hg
  · exact va_tabs hg hvm h
  · exact word_at hW (good_of_word hg) h
/-- a list's words: the good ones out of the method's own list, the others by premises of their own -/
theorem vx_hat {args : Array Value} {s : State} {L B : List Cond} (h1 : ∀ w ∈ L.filter goodWord, w.before args s = true) (h2 : ∀ w ∈ L.filter (fun w => !goodWord w), w ∈ B) (h3 : ∀ w ∈ B, w.before args s = true) : ∀ w ∈ L, w.before args s = true := by
  intro w hw
  by_cases g : goodWord w = true
  · exact h1 w (List.mem_filter.mpr ⟨hw, g⟩)
  · refine h3 w (h2 w (List.mem_filter.mpr ⟨hw, ?_⟩))
    show (!goodWord w) = true
    cases hgw : goodWord w
    · rfl
    · exact absurd hgw g
theorem vx_c {args : Array Value} {s : State} {w : Cond} {B : List Cond} (h : w.before args s = true) (t : ∀ w ∈ B, w.before args s = true) : ∀ w' ∈ w :: B, w'.before args s = true := fun w' h' => (List.mem_cons.mp h').elim (fun e => by rw [e]; exact h) (t w')
theorem vx_n {args : Array Value} {s : State} : ∀ w ∈ ([] : List Cond), w.before args s = true := fun _ h => nomatch h
theorem vx_own {args : Array Value} {s : State} {L : List Cond} (h1 : ∀ w ∈ L.filter vx_no, w.before args s = true)
    (hU : (Cond.isRef (.static Bundle.tN "UNASSIGNED_STACK" Bundle.steD)).before args s = true) (hN : (Cond.isRef (.static Bundle.tN "SUPPRESSED_SENTINEL" Bundle.listD)).before args s = true)
    (lU : (Cond.laysStatic Bundle.tN "UNASSIGNED_STACK" Bundle.steD).before args s = true) (lN : (Cond.laysStatic Bundle.tN "SUPPRESSED_SENTINEL" Bundle.listD).before args s = true) : ∀ w ∈ L, w.before args s = true := by
  intro w hw
  by_cases e1 : w = .isRef (.static Bundle.tN "UNASSIGNED_STACK" Bundle.steD)
  · rw [e1]; exact hU
  · by_cases e2 : w = .isRef (.static Bundle.tN "SUPPRESSED_SENTINEL" Bundle.listD)
    · rw [e2]; exact hN
    · by_cases e3 : w = .laysStatic Bundle.tN "UNASSIGNED_STACK" Bundle.steD
      · rw [e3]; exact lU
      · by_cases e4 : w = .laysStatic Bundle.tN "SUPPRESSED_SENTINEL" Bundle.listD
        · rw [e4]; exact lN
        · exact h1 w (List.mem_filter.mpr ⟨hw, by unfold vx_no; rw [decide_eq_true e1, decide_eq_true e2, decide_eq_true e3, decide_eq_true e4]; rfl⟩)
/-- where a static field lies, its class's statics cell in H -/
def vx_L (C n d : String) (A : Nat → Prop) (U : State) (H : Heap) : Prop := ∃ (c : ClassId) (k : Class) (i : Nat) (f : Field) (a : Nat) (cell : Cell), U.vm.findClass C = some c ∧ U.fieldFound? C n d = some (c, k, i, f) ∧ f.isStatic = true ∧ k.statics = some a ∧ H[a]? = some cell ∧ cell.vm.isStatics = true ∧ cell.cls = c ∧ f.slot < cell.slots.size ∧ k.staticTypes[f.slot]? = some f.type ∧ ¬ A a
theorem vx_L.moved {C n d : String} {A : Nat → Prop} {u U : State} {H : Heap} (hvm : u.vm.Alike U.vm) (h : vx_L C n d A u H) : vx_L C n d A U H := by
  obtain ⟨c, k, i, f, a, cell, h1, h2, h3, h4, h5, h6, h7, h8, h9, h10⟩ := h
  obtain ⟨k', hi', he⟩ := State.fieldFound?_setVm hvm h2
  exact ⟨c, k', i, f, a, cell, by rw [hvm.findClass]; exact h1, hi', h3, by rw [he]; exact h4, h5, h6, h7, h8, by rw [he]; exact h9, h10⟩
theorem vx_L.kept {C n d : String} {A : Nat → Prop} {U : State} {H H1 : Heap} (h : vx_L C n d A U H) (hq : ∀ a : Nat, a < H.size → ¬ A a → H1[a]? = H[a]?) : vx_L C n d A U H1 := by
  obtain ⟨c, k, i, f, a, cell, h1, h2, h3, h4, h5, h6, h7, h8, h9, h10⟩ := h
  exact ⟨c, k, i, f, a, cell, h1, h2, h3, h4, by rw [hq a (Array.getElem?_eq_some_iff.mp h5).1 h10]; exact h5, h6, h7, h8, h9, h10⟩
theorem vx_L.narrow {C n d : String} {A B : Nat → Prop} {U : State} {H : Heap} (h : vx_L C n d A U H) (hAB : ∀ q, B q → A q) : vx_L C n d B U H := by
  obtain ⟨c, k, i, f, a, cell, h1, h2, h3, h4, h5, h6, h7, h8, h9, h10⟩ := h
  exact ⟨c, k, i, f, a, cell, h1, h2, h3, h4, h5, h6, h7, h8, h9, fun z => h10 (hAB _ z)⟩
theorem vx_L.word {C n d : String} {A : Nat → Prop} {s : State} {args : Array Value} (h : vx_L C n d A s s.heap) : (Cond.laysStatic C n d).before args s = true := by
  obtain ⟨c, k, i, f, a, cell, h1, h2, h3, h4, h5, h6, h7, h8, h9, -⟩ := h
  show (Cond.laysStatic C n d).holds args s none s [] = true
  exact Cond.laysStatic_of h1 h2 h3 h4 h5 h6 h7 h8 h9
/-- .. and what it holds: null or some reference -/
def vx_Zq (C n d : String) (A : Nat → Prop) (U : State) (H : Heap) : Prop := va_Zq C n d A U H ∧ vx_L C n d A U H
theorem vx_Zq.moved {C n d : String} {A : Nat → Prop} {u U : State} {H : Heap} (hvm : u.vm.Alike U.vm) (h : vx_Zq C n d A u H) : vx_Zq C n d A U H := ⟨va_Zq.moved hvm h.1, vx_L.moved hvm h.2⟩
theorem vx_Zq.kept {C n d : String} {A : Nat → Prop} {U : State} {H H1 : Heap} (h : vx_Zq C n d A U H) (hq : ∀ a : Nat, a < H.size → ¬ A a → H1[a]? = H[a]?) : vx_Zq C n d A U H1 := ⟨va_Zq.kept h.1 hq, vx_L.kept h.2 hq⟩
theorem vx_Zq.narrow {C n d : String} {A B : Nat → Prop} {U : State} {H : Heap} (h : vx_Zq C n d A U H) (hAB : ∀ q, B q → A q) : vx_Zq C n d B U H := ⟨va_Zq.narrow h.1 hAB, vx_L.narrow h.2 hAB⟩
theorem vx_Zqof {args : Array Value} {s : State} {C n d : String} {A : Nat → Prop} (hl : (Cond.laysStatic C n d).before args s = true) (hini : (Cond.initialized C).before args s = true) (h : (Cond.isRef (.static C n d)).before args s = true) (hA : ∀ a : Nat, a < s.heap.size → ¬ A a) : vx_Zq C n d A s s.heap := by
  refine ⟨va_Zqof hl hini h hA, ?_⟩
  obtain ⟨c, k, i, f, a, cell, h1, h2, h3, h4, h5, h6, h7, h8, h9⟩ := Cond.laysStatic_spec hl
  exact ⟨c, k, i, f, a, cell, h1, h2, h3, h4, h5, h6, h7, h8, h9, hA a (Array.getElem?_eq_some_iff.mp h5).1⟩
theorem vx_isRef {C n d : String} {v : Value} {A : Nat → Prop} {s : State} {args : Array Value} (h : va_Z C n d v A s s.heap) (hv : v.isRef = true) : (Cond.isRef (.static C n d)).before args s = true := by
  obtain ⟨cf, kf, fi, f, a, cell, h1, h2, h3, h4, h5, h6, h7, -⟩ := h
  have he : (Term.static C n d).eval args s none [] s = some v := by
    simp [Term.eval, State.fieldNamed?, h1, h2, h4, h5, h6, h7]
  simp only [Cond.before, Cond.holds, Cond.value, he]
  cases v <;> simp_all [Value.isRef]
theorem vx_isRefq {C n d : String} {A : Nat → Prop} {s : State} {args : Array Value} (h : va_Zq C n d A s s.heap) : (Cond.isRef (.static C n d)).before args s = true := by
  rcases h with h | ⟨t, h⟩
  · exact vx_isRef h rfl
  · exact vx_isRef h rfl
/-- the same frame, seen from here: as if the method were called anew in this heap -/
theorem vx_rebase {T : State} (X : Stand p l e R s m args below meth c T locs cells slots) {R' : Room} (hf : R'.frames ≤ R.frames) (hl : R'.locals ≤ R.locals) (hc : cells + R'.cells ≤ R.cells) (hs : slots + R'.slots ≤ R.slots) :
    Stand p l e R' ((T.setVm s.vm).setFrames (.invoking m args :: below)) m args below meth c T [] 0 0 := by
  have htop : (T.setVm s.vm).topJava?.isSome := X.here.top
  have hF : ((T.setVm s.vm).setFrames (.invoking m args :: below)).frames = .invoking m args :: below := State.frames_setFrames _ (State.cur_lt_of_top htop)
  obtain ⟨g₀, hg0⟩ := Option.isSome_iff_exists.mp htop
  obtain ⟨r, hr⟩ := State.topJava?_eq_some.mp hg0
  have hl9 : e.platform.stackLimits (T.setVm s.vm).me = e.platform.stackLimits s.me := X.limits
  have hb9 : (T.setVm s.vm).me.stackBytes = s.me.stackBytes := X.bytes
  refine ⟨X.admits, X.cas, X.clock, hF, ?_, X.hears, X.method, X.code, X.here, X.tail, X.warmed, ?_, ?_, ?_⟩
  · have h := X.room
    have hU : ((T.setVm s.vm).setFrames (.invoking m args :: below)).localsInUse = s.localsInUse := by
      rw [State.localsInUse_invoking hF (meth := meth) (c := c) X.method X.code, State.localsInUse_invoking X.frames X.method X.code]
    simp only [State.hasRoom, Bool.and_eq_true, decide_eq_true_eq] at h ⊢
    obtain ⟨⟨⟨⟨h1, h2, h3, h4, h5, h6⟩, h7⟩, h8⟩, h9⟩ := h
    rw [X.frames, List.length_cons] at h2 h3
    have q1 := X.heapSize
    have q2 := X.used
    simp only [hF, hU, List.length_cons, State.stackLimits_setFrames, State.stackBytes_setFrames, hl9, hb9]
    refine ⟨⟨⟨⟨by omega, by omega, by omega, by omega, by omega, h6⟩, ?_⟩, ?_⟩, X.book⟩
    · show T.heap.size + R'.cells ≤ e.platform.maxCells
      omega
    · show T.slotsUsed + R'.slots ≤ e.platform.maxSlots
      omega
  · rw [State.stackLimits_setFrames]; rfl
  · rw [State.stackBytes_setFrames]; rfl
  · refine ⟨?_, Nat.le_refl _, Nat.le_refl _, ?_, ?_, fun a c9 h9 => ⟨c9, h9, rfl, rfl, fun _ _ => rfl⟩⟩
    · obtain ⟨t, ht, -⟩ := State.frames_cons hr
      show T.setVm s.vm = { ((T.setVm s.vm).setFrames (.invoking m args :: below)).setFrames (T.setVm s.vm).frames with heap := T.heap, slotsUsed := T.slotsUsed }
      rw [State.setFrames_setFrames, State.setFrames_self ht]
      rfl
    · show T.slotsUsed = T.slotsUsed + ((T.heap.toList.drop T.heap.size).map (·.slots.size)).sum
      rw [List.drop_eq_nil_of_le (Nat.le_of_eq Array.length_toList)]
      rfl
    · show ((T.heap.toList.drop T.heap.size).map (·.slots.size)).sum ≤ 0
      rw [List.drop_eq_nil_of_le (Nat.le_of_eq Array.length_toList)]
      exact Nat.le_refl _
/-- 'throw new E()': new; dup; invokespecial; athrow -/
theorem vx_throw0 {cc : ByteArray} {pc : Nat} (hexec : p.tables.exec = Jvm.exec) (hb : c.code = cc) (hl : l.stackTraces = false) {own cls : String} {names : List String} {ik ic mc ms : Nat} {A : Nat → Prop}
    (hown : s.vm.findClass own = some m.cls) (hcls : Bundle.fit cls = true) (hnames : ∀ n ∈ names, Bundle.fit n = true)
    (hk : (Cond.classLink own ik cls).before args s = true) (hini : (Cond.initialized cls).before args s = true) (hat : ∀ w ∈ vx_at0 own ic cls names, w.before args s = true)
    (hgood : ∀ w ∈ Cond.classLink own ik cls :: Cond.initialized cls :: vx_at0 own ic cls names, vx_ot w = true)
    (hU : vx_Zq Bundle.tN "UNASSIGNED_STACK" Bundle.steD A s s.heap) (hN : vx_Zq Bundle.tN "SUPPRESSED_SENTINEL" Bundle.listD A s s.heap) (hS : va_S A s.heap H locs) (hsize : ls.size = c.maxLocals)
    (d0 : decode cc pc = .ok (.new ik, 3)) (d3 : decode cc (pc + 3) = .ok (.dup, 1)) (d4 : decode cc (pc + 4) = .ok (.invokespecial ic, 3)) (d7 : decode cc (pc + 7) = .ok (.athrow, 1))
    (hout : ∀ x ∈ c.exceptionTable.toList, covers x (pc + 7) = false)
    (hRframes : names.length + 3 < R.frames) (hRlocals : (rest.map fun v => v.category).sum + (13 * (names.length + 1) + 42) ≤ R.locals) (hRcells : cells + 1 ≤ R.cells) (hRslots : slots + 6 ≤ R.slots) (hlocks : meth.locks = false)
    (hx : ∀ t : State, s.vm.Alike t.vm → H.size ≤ t.heap.size → (∀ q : Nat, q < H.size → t.heap[q]? = H[q]?) → XC cls s t)
    (hf : ∀ z ∈ locs, free z.base) (hc : cells + 1 ≤ mc) (hs : slots + 6 ≤ ms) :
    W p l e R s m args below meth c H locs cells slots (vx_MQ below Qc XC args s mc ms free) (F0 m pc ls rest) := by
  intro T hT X
  have htr : e.platform.stackTraces = false := (show e.platform.stackTraces = l.stackTraces by rw [X.admits.platform]).trans hl
  have Y := vx_rebase X (R' := { frames := R.frames, locals := R.locals, cells := 1, slots := 6 }) (Nat.le_refl _) (Nat.le_refl _) hRcells hRslots
  obtain ⟨s', hA⟩ : ∃ z, z = (T.setVm s.vm).setFrames (.invoking m args :: below) := ⟨_, rfl⟩
  rw [← hA] at Y
  have hvm : s'.vm = s.vm := by rw [hA]; rfl
  have hhp : s'.heap = H := by rw [hA]; exact hT
  have hW0 : s.WarmedH s'.vm := by rw [hvm]; exact State.WarmedH.refl s
  have hat' : ∀ w ∈ vx_at0 own ic cls names, w.before args s' = true := fun w hw => vx_ot_at hW0 hvm.symm (hgood w (List.mem_cons_of_mem _ (List.mem_cons_of_mem _ hw))) (hat w hw)
  have hk' : (Cond.classLink own ik cls).before args s' = true := vx_ot_at hW0 hvm.symm (hgood _ List.mem_cons_self) hk
  have hini' : (Cond.initialized cls).before args s' = true := vx_ot_at hW0 hvm.symm (hgood _ (List.mem_cons_of_mem _ List.mem_cons_self)) hini
  have hU' : vx_Zq Bundle.tN "UNASSIGNED_STACK" Bundle.steD A s' s'.heap := by rw [hhp]; exact vx_Zq.moved hW0.alike (hU.kept hS.2.1)
  have hN' : vx_Zq Bundle.tN "SUPPRESSED_SENTINEL" Bundle.listD A s' s'.heap := by rw [hhp]; exact vx_Zq.moved hW0.alike (hN.kept hS.2.1)
  have h : ∀ w ∈ Bundle.ownAtoms0 own ic cls names, w.before args s' = true := vx_own hat' (vx_isRefq hU'.1) (vx_isRefq hN'.1) hU'.2.word hN'.2.word
  have hown' : s'.vm.findClass own = some m.cls := by rw [hvm]; exact hown
  have hins : (Cond.instantiable cls 6).before args s' = true := h _ (by simp [Bundle.ownAtoms0])
  obtain ⟨vm₁, cX, kX, hfX, hkX, -, -, X₁, st1⟩ := Y.newCold hexec (own := own) (C := cls) (index := ik) (n := 6) hown' hk' hins hini'
    (g := F0 m pc ls rest) rfl (by rw [hb]; exact d0) (Nat.le_refl _) (Nat.le_refl _)
  generalize hT1 : (T.setVm vm₁).pushCell { cls := cX, slots := kX.instanceTypes.map defaultValue, vm := .none } = T1 at X₁ st1
  have hcat : (Value.ref T.heap.size).category = 1 := rfl
  have hcellA : T1.heap[T.heap.size]? = some (freshCell cX kX) := by rw [← hT1]; exact State.heap_pushCell_size _ _
  have d3' : decode c.code (pc + 3) = .ok (.dup, 1) := by rw [hb]; exact d3
  obtain ⟨U, hsteps, hrun, hend, hW, hsame, ce, hce, hO⟩ := X₁.ctorThrow0 hexec htr (own := own) (cls := cls) (names := names) (ic := ic) hown' hcls hnames h (fun x hx => nomatch hx) hfX hkX hcellA (by rw [hhp, hT]; exact Nat.le_refl _)
    (g := { method := m, pc := pc + 4, locals := ls, stack := .ref T.heap.size :: .ref T.heap.size :: rest, locked := none }) rfl hsize rfl rfl (rest := rest) rfl
    (by rw [hb]; exact d4) (by rw [hb]; exact d7) hout hRframes (by simp only [List.map_cons, List.sum_cons, hcat]; omega) hlocks
  obtain ⟨f1, f2⟩ := vx_frame hsame
  rw [hhp] at f1 f2
  have hWs : s.WarmedH U.vm := State.WarmedH.trans hW0 hW
  have hcl : s.vm.findClass cls = some ce.cls := by
    have h9 := hO.cls
    rw [hvm] at h9
    exact h9
  have hall : s.sameButNew ({ U with vm := s.vm } : State) locs mc ms := by
    subst hA
    obtain ⟨e1, e2⟩ := hsame
    rw [State.setFrames_setFrames] at e1
    have h2 : (T.setVm s.vm).sameButNew ({ U with vm := s.vm } : State) [] (0 + 1) (0 + 6) := ⟨e1, e2⟩
    have h3 := X.same.trans h2
    rw [List.append_nil] at h3
    exact h3.mono hc hs
  refine ⟨U, ?_, .threw T.heap.size, hrun, hend, Or.inr ⟨T.heap.size, rfl, cls, ce, locs, hx U hWs.alike f1 (fun q hq => f2 q hq (fun z hz => nomatch hz)), hce, hO.vm, hcl, hWs, hall, hf⟩⟩
  refine st1 _ ?_
  show Steps p.tables e below (T1.setTop { method := m, pc := pc + 3, locals := ls, stack := .ref T.heap.size :: rest, locked := none }) _
  jvm_step X₁.here [X₁.here.top, hexec, d3', Value.category]
  exact hsteps
/-- 'throw new E("text")': new; dup; ldc; invokespecial; athrow -/
theorem vx_throwS {cc : ByteArray} {pc : Nat} (hexec : p.tables.exec = Jvm.exec) (hb : c.code = cc) (hl : l.stackTraces = false) {own cls text : String} {names : List String} {ik is ic mc ms sa : Nat} {A : Nat → Prop}
    (hown : s.vm.findClass own = some m.cls) (hcls : Bundle.fit cls = true) (hnames : ∀ n ∈ names, Bundle.fit n = true)
    (hk : (Cond.classLink own ik cls).before args s = true) (hini : (Cond.initialized cls).before args s = true) (hstr : vk_R own is text sa s) (hat : ∀ w ∈ vx_atS own ic cls names, w.before args s = true)
    (hgood : ∀ w ∈ Cond.classLink own ik cls :: Cond.initialized cls :: vx_atS own ic cls names, vx_ot w = true)
    (hU : vx_Zq Bundle.tN "UNASSIGNED_STACK" Bundle.steD A s s.heap) (hN : vx_Zq Bundle.tN "SUPPRESSED_SENTINEL" Bundle.listD A s s.heap) (hS : va_S A s.heap H locs) (hsize : ls.size = c.maxLocals)
    (d0 : decode cc pc = .ok (.new ik, 3)) (d3 : decode cc (pc + 3) = .ok (.dup, 1)) (d4 : decode cc (pc + 4) = .ok (.ldc is, 2)) (d6 : decode cc (pc + 6) = .ok (.invokespecial ic, 3)) (d9 : decode cc (pc + 9) = .ok (.athrow, 1))
    (hout : ∀ x ∈ c.exceptionTable.toList, covers x (pc + 9) = false)
    (hRframes : names.length + 3 < R.frames) (hRlocals : (rest.map fun v => v.category).sum + (13 * (names.length + 1) + 43) ≤ R.locals) (hRcells : cells + 1 ≤ R.cells) (hRslots : slots + 6 ≤ R.slots) (hlocks : meth.locks = false)
    (hx : ∀ t : State, s.vm.Alike t.vm → H.size ≤ t.heap.size → (∀ q : Nat, q < H.size → t.heap[q]? = H[q]?) → XC cls s t)
    (hf : ∀ z ∈ locs, free z.base) (hc : cells + 1 ≤ mc) (hs : slots + 6 ≤ ms) :
    W p l e R s m args below meth c H locs cells slots (vx_MQ below Qc XC args s mc ms free) (F0 m pc ls rest) := by
  intro T hT X
  have htr : e.platform.stackTraces = false := (show e.platform.stackTraces = l.stackTraces by rw [X.admits.platform]).trans hl
  have Y := vx_rebase X (R' := { frames := R.frames, locals := R.locals, cells := 1, slots := 6 }) (Nat.le_refl _) (Nat.le_refl _) hRcells hRslots
  obtain ⟨s', hA⟩ : ∃ z, z = (T.setVm s.vm).setFrames (.invoking m args :: below) := ⟨_, rfl⟩
  rw [← hA] at Y
  have hvm : s'.vm = s.vm := by rw [hA]; rfl
  have hhp : s'.heap = H := by rw [hA]; exact hT
  have hW0 : s.WarmedH s'.vm := by rw [hvm]; exact State.WarmedH.refl s
  have hat' : ∀ w ∈ vx_atS own ic cls names, w.before args s' = true := fun w hw => vx_ot_at hW0 hvm.symm (hgood w (List.mem_cons_of_mem _ (List.mem_cons_of_mem _ hw))) (hat w hw)
  have hk' : (Cond.classLink own ik cls).before args s' = true := vx_ot_at hW0 hvm.symm (hgood _ List.mem_cons_self) hk
  have hini' : (Cond.initialized cls).before args s' = true := vx_ot_at hW0 hvm.symm (hgood _ (List.mem_cons_of_mem _ List.mem_cons_self)) hini
  have hU' : vx_Zq Bundle.tN "UNASSIGNED_STACK" Bundle.steD A s' s'.heap := by rw [hhp]; exact vx_Zq.moved hW0.alike (hU.kept hS.2.1)
  have hN' : vx_Zq Bundle.tN "SUPPRESSED_SENTINEL" Bundle.listD A s' s'.heap := by rw [hhp]; exact vx_Zq.moved hW0.alike (hN.kept hS.2.1)
  have h : ∀ w ∈ Bundle.ownAtoms own ic cls names, w.before args s' = true := vx_own hat' (vx_isRefq hU'.1) (vx_isRefq hN'.1) hU'.2.word hN'.2.word
  have hown' : s'.vm.findClass own = some m.cls := by rw [hvm]; exact hown
  have hins : (Cond.instantiable cls 6).before args s' = true := h _ (by simp [Bundle.ownAtoms])
  obtain ⟨vm₁, cX, kX, hfX, hkX, -, -, X₁, st1⟩ := Y.newCold hexec (own := own) (C := cls) (index := ik) (n := 6) hown' hk' hins hini'
    (g := F0 m pc ls rest) rfl (by rw [hb]; exact d0) (Nat.le_refl _) (Nat.le_refl _)
  generalize hT1 : (T.setVm vm₁).pushCell { cls := cX, slots := kX.instanceTypes.map defaultValue, vm := .none } = T1 at X₁ st1
  have hcat : (Value.ref T.heap.size).category = 1 := rfl
  have hcellA : T1.heap[T.heap.size]? = some (freshCell cX kX) := by rw [← hT1]; exact State.heap_pushCell_size _ _
  have d3' : decode c.code (pc + 3) = .ok (.dup, 1) := by rw [hb]; exact d3
  have d4' : decode c.code (pc + 4) = .ok (.ldc is, 2) := by rw [hb]; exact d4
  have hstr' : vk_R own is text sa s' := vk_R.warm hW0 hstr
  obtain ⟨U, hsteps, hrun, hend, hW, hsame, ce, hce, hO⟩ := X₁.ctorThrowS hexec htr (own := own) (cls := cls) (names := names) (ic := ic) hown' hcls hnames h (fun x hx => nomatch hx) hfX hkX hcellA (by rw [hhp, hT]; exact Nat.le_refl _) (msg := .ref sa) rfl
    (g := { method := m, pc := pc + 6, locals := ls, stack := .ref sa :: .ref T.heap.size :: .ref T.heap.size :: rest, locked := none }) rfl hsize rfl rfl (rest := rest) rfl
    (by rw [hb]; exact d6) (by rw [hb]; exact d9) hout hRframes (by simp only [List.map_cons, List.sum_cons, hcat]; omega) hlocks
  obtain ⟨f1, f2⟩ := vx_frame hsame
  rw [hhp] at f1 f2
  have hWs : s.WarmedH U.vm := State.WarmedH.trans hW0 hW
  have hcl : s.vm.findClass cls = some ce.cls := by
    have h9 := hO.cls
    rw [hvm] at h9
    exact h9
  have hall : s.sameButNew ({ U with vm := s.vm } : State) locs mc ms := by
    subst hA
    obtain ⟨e1, e2⟩ := hsame
    rw [State.setFrames_setFrames] at e1
    have h2 : (T.setVm s.vm).sameButNew ({ U with vm := s.vm } : State) [] (0 + 1) (0 + 6) := ⟨e1, e2⟩
    have h3 := X.same.trans h2
    rw [List.append_nil] at h3
    exact h3.mono hc hs
  refine ⟨U, ?_, .threw T.heap.size, hrun, hend, Or.inr ⟨T.heap.size, rfl, cls, ce, locs, hx U hWs.alike f1 (fun q hq => f2 q hq (fun z hz => nomatch hz)), hce, hO.vm, hcl, hWs, hall, hf⟩⟩
  refine st1 _ ?_
  show Steps p.tables e below (T1.setTop { method := m, pc := pc + 3, locals := ls, stack := .ref T.heap.size :: rest, locked := none }) _
  jvm_step X₁.here [X₁.here.top, hexec, d3', Value.category]
  exact X₁.ldcString hexec (own := own) (text := text) (index := is) (a := sa) hown' hstr'.1 hstr'.2
    (g := { method := m, pc := pc + 4, locals := ls, stack := .ref T.heap.size :: .ref T.heap.size :: rest, locked := none }) rfl d4' _ hsteps
/-- 'throw new E("text")', the text by a wide index -/
theorem vx_throwSW {cc : ByteArray} {pc : Nat} (hexec : p.tables.exec = Jvm.exec) (hb : c.code = cc) (hl : l.stackTraces = false) {own cls text : String} {names : List String} {ik is ic mc ms sa : Nat} {A : Nat → Prop}
    (hown : s.vm.findClass own = some m.cls) (hcls : Bundle.fit cls = true) (hnames : ∀ n ∈ names, Bundle.fit n = true)
    (hk : (Cond.classLink own ik cls).before args s = true) (hini : (Cond.initialized cls).before args s = true) (hstr : vk_R own is text sa s) (hat : ∀ w ∈ vx_atS own ic cls names, w.before args s = true)
    (hgood : ∀ w ∈ Cond.classLink own ik cls :: Cond.initialized cls :: vx_atS own ic cls names, vx_ot w = true)
    (hU : vx_Zq Bundle.tN "UNASSIGNED_STACK" Bundle.steD A s s.heap) (hN : vx_Zq Bundle.tN "SUPPRESSED_SENTINEL" Bundle.listD A s s.heap) (hS : va_S A s.heap H locs) (hsize : ls.size = c.maxLocals)
    (d0 : decode cc pc = .ok (.new ik, 3)) (d3 : decode cc (pc + 3) = .ok (.dup, 1)) (d4 : decode cc (pc + 4) = .ok (.ldc_w is, 3)) (d7 : decode cc (pc + 7) = .ok (.invokespecial ic, 3)) (d10 : decode cc (pc + 10) = .ok (.athrow, 1))
    (hout : ∀ x ∈ c.exceptionTable.toList, covers x (pc + 10) = false)
    (hRframes : names.length + 3 < R.frames) (hRlocals : (rest.map fun v => v.category).sum + (13 * (names.length + 1) + 43) ≤ R.locals) (hRcells : cells + 1 ≤ R.cells) (hRslots : slots + 6 ≤ R.slots) (hlocks : meth.locks = false)
    (hx : ∀ t : State, s.vm.Alike t.vm → H.size ≤ t.heap.size → (∀ q : Nat, q < H.size → t.heap[q]? = H[q]?) → XC cls s t)
    (hf : ∀ z ∈ locs, free z.base) (hc : cells + 1 ≤ mc) (hs : slots + 6 ≤ ms) :
    W p l e R s m args below meth c H locs cells slots (vx_MQ below Qc XC args s mc ms free) (F0 m pc ls rest) := by
  intro T hT X
  have htr : e.platform.stackTraces = false := (show e.platform.stackTraces = l.stackTraces by rw [X.admits.platform]).trans hl
  have Y := vx_rebase X (R' := { frames := R.frames, locals := R.locals, cells := 1, slots := 6 }) (Nat.le_refl _) (Nat.le_refl _) hRcells hRslots
  obtain ⟨s', hA⟩ : ∃ z, z = (T.setVm s.vm).setFrames (.invoking m args :: below) := ⟨_, rfl⟩
  rw [← hA] at Y
  have hvm : s'.vm = s.vm := by rw [hA]; rfl
  have hhp : s'.heap = H := by rw [hA]; exact hT
  have hW0 : s.WarmedH s'.vm := by rw [hvm]; exact State.WarmedH.refl s
  have hat' : ∀ w ∈ vx_atS own ic cls names, w.before args s' = true := fun w hw => vx_ot_at hW0 hvm.symm (hgood w (List.mem_cons_of_mem _ (List.mem_cons_of_mem _ hw))) (hat w hw)
  have hk' : (Cond.classLink own ik cls).before args s' = true := vx_ot_at hW0 hvm.symm (hgood _ List.mem_cons_self) hk
  have hini' : (Cond.initialized cls).before args s' = true := vx_ot_at hW0 hvm.symm (hgood _ (List.mem_cons_of_mem _ List.mem_cons_self)) hini
  have hU' : vx_Zq Bundle.tN "UNASSIGNED_STACK" Bundle.steD A s' s'.heap := by rw [hhp]; exact vx_Zq.moved hW0.alike (hU.kept hS.2.1)
  have hN' : vx_Zq Bundle.tN "SUPPRESSED_SENTINEL" Bundle.listD A s' s'.heap := by rw [hhp]; exact vx_Zq.moved hW0.alike (hN.kept hS.2.1)
  have h : ∀ w ∈ Bundle.ownAtoms own ic cls names, w.before args s' = true := vx_own hat' (vx_isRefq hU'.1) (vx_isRefq hN'.1) hU'.2.word hN'.2.word
  have hown' : s'.vm.findClass own = some m.cls := by rw [hvm]; exact hown
  have hins : (Cond.instantiable cls 6).before args s' = true := h _ (by simp [Bundle.ownAtoms])
  obtain ⟨vm₁, cX, kX, hfX, hkX, -, -, X₁, st1⟩ := Y.newCold hexec (own := own) (C := cls) (index := ik) (n := 6) hown' hk' hins hini'
    (g := F0 m pc ls rest) rfl (by rw [hb]; exact d0) (Nat.le_refl _) (Nat.le_refl _)
  generalize hT1 : (T.setVm vm₁).pushCell { cls := cX, slots := kX.instanceTypes.map defaultValue, vm := .none } = T1 at X₁ st1
  have hcat : (Value.ref T.heap.size).category = 1 := rfl
  have hcellA : T1.heap[T.heap.size]? = some (freshCell cX kX) := by rw [← hT1]; exact State.heap_pushCell_size _ _
  have d3' : decode c.code (pc + 3) = .ok (.dup, 1) := by rw [hb]; exact d3
  have d4' : decode c.code (pc + 4) = .ok (.ldc_w is, 3) := by rw [hb]; exact d4
  have hstr' : vk_R own is text sa s' := vk_R.warm hW0 hstr
  obtain ⟨U, hsteps, hrun, hend, hW, hsame, ce, hce, hO⟩ := X₁.ctorThrowS hexec htr (own := own) (cls := cls) (names := names) (ic := ic) hown' hcls hnames h (fun x hx => nomatch hx) hfX hkX hcellA (by rw [hhp, hT]; exact Nat.le_refl _) (msg := .ref sa) rfl
    (g := { method := m, pc := pc + 7, locals := ls, stack := .ref sa :: .ref T.heap.size :: .ref T.heap.size :: rest, locked := none }) rfl hsize rfl rfl (rest := rest) rfl
    (by rw [hb]; exact d7) (by rw [hb]; exact d10) hout hRframes (by simp only [List.map_cons, List.sum_cons, hcat]; omega) hlocks
  obtain ⟨f1, f2⟩ := vx_frame hsame
  rw [hhp] at f1 f2
  have hWs : s.WarmedH U.vm := State.WarmedH.trans hW0 hW
  have hcl : s.vm.findClass cls = some ce.cls := by
    have h9 := hO.cls
    rw [hvm] at h9
    exact h9
  have hall : s.sameButNew ({ U with vm := s.vm } : State) locs mc ms := by
    subst hA
    obtain ⟨e1, e2⟩ := hsame
    rw [State.setFrames_setFrames] at e1
    have h2 : (T.setVm s.vm).sameButNew ({ U with vm := s.vm } : State) [] (0 + 1) (0 + 6) := ⟨e1, e2⟩
    have h3 := X.same.trans h2
    rw [List.append_nil] at h3
    exact h3.mono hc hs
  refine ⟨U, ?_, .threw T.heap.size, hrun, hend, Or.inr ⟨T.heap.size, rfl, cls, ce, locs, hx U hWs.alike f1 (fun q hq => f2 q hq (fun z hz => nomatch hz)), hce, hO.vm, hcl, hWs, hall, hf⟩⟩
  refine st1 _ ?_
  show Steps p.tables e below (T1.setTop { method := m, pc := pc + 3, locals := ls, stack := .ref T.heap.size :: rest, locked := none }) _
  jvm_step X₁.here [X₁.here.top, hexec, d3', Value.category]
  exact X₁.ldcStringW hexec (own := own) (text := text) (index := is) (a := sa) hown' hstr'.1 hstr'.2
    (g := { method := m, pc := pc + 4, locals := ls, stack := .ref T.heap.size :: .ref T.heap.size :: rest, locked := none }) rfl d4' _ hsteps
end Ends
section Bodies
variable {l : Launch}
theorem vx_ofW {y : MethodName} {ws ws' : List Cond} {rm : Room} {Pc : Array Value → State → Prop} {Qc : Array Value → State → Outcome → State → Prop} {XC : String → State → State → Prop} {mc ms : Nat} {free : Addr → Prop} {cc : ByteArray} {maxL : Nat} {ret : Option FieldType}
    (hy : plainName y.cls = true) (hw : ws = Cond.code y cc maxL ret :: ws')
    (body : ∀ p e s m args below meth c s₁, BodyLoose p l y (headSpec ws rm) cc maxL ret e s m args below meth c s₁ → c.maxLocals = maxL → (∀ x ∈ c.exceptionTable.toList, False) → Pc args s →
      W p l e (headSpec ws rm).room s m args below meth c s.heap [] 0 0 (vx_MQ below Qc XC args s mc ms free) (entryFrame m args maxL)) : vx_Met l y ws rm Pc Qc XC mc ms free := by
  refine MetFree.of_bodyS (code := cc) (maxLocals := maxL) (ret := ret) hy ?_ ?_
  · intro args s m h hn
    obtain ⟨meth, c, h1, h2, h3, h4, h5, h6, -, -⟩ := Cond.code_spec hn (atoms_spec (ws := ws) h _ (by rw [hw]; exact List.mem_cons_self))
    exact ⟨meth, c, h1, h2, h3, h4, h5, h6⟩
  · intro p e s m args below meth c s₁ B hml hP _
    have hh0 : s₁.heap = s.heap := by rw [B.state]; rfl
    have ht : ∀ x ∈ c.exceptionTable.toList, False := by
      obtain ⟨meth9, c9, h1, h2, -, -, -, -, h7, -⟩ := Cond.code_spec B.named (atoms_spec (ws := ws) B.pre _ (by rw [hw]; exact List.mem_cons_self))
      cases Option.some.inj (h1.symm.trans B.method)
      cases Option.some.inj (h2.symm.trans (Stand.of_body B).code)
      intro x hx
      rw [Array.isEmpty_iff.mp h7] at hx
      cases hx
    obtain ⟨t, a1, o, b1, b2, b3⟩ := body p e s m args below meth c s₁ B hml ht hP s₁ hh0 (Stand.of_body B)
    exact ⟨t, o, a1, b1, b2, b3⟩
/-- the table of a body with handlers -/
theorem vx_table {p : Program} {x y : MethodName} {S : Spec} {cc bytes : ByteArray} {maxL maxL' : Nat} {ret ret' : Option FieldType} {e : Env} {s s₁ : State} {m : MethodId} {args : Array Value} {below : List Frame} {meth : Method} {c : Code} {hh : List (Nat × Nat × Nat × Nat)}
    (B : BodyLoose p l y S cc maxL ret e s m args below meth c s₁) (h : (Cond.codeWith y bytes maxL' ret' hh).before args s = true) : c.exceptionTable.toList = tableOf hh := by
  obtain ⟨m9, meth9, c9, hn9, h1, h2, -, -, h6, -⟩ := Cond.codeWith_spec h
  cases Option.some.inj (hn9.symm.trans B.named)
  cases Option.some.inj (h1.symm.trans B.method)
  cases Option.some.inj (h2.symm.trans (Stand.of_body B).code)
  rw [← h6, table_eq]
end Bodies
end VXA
/-! ===== END ===== -/
/-! ===== BEGIN a static call of a method with an exception table ===== -/
section VXS
variable {p : Program} {l : Launch} {e : Env} {R : Room} {s : State} {m : MethodId} {args : Array Value} {below : List Frame} {meth : Method} {c : Code} {T : State} {H : Heap} {locs : List Loc} {cells slots : Nat}
abbrev vx_CSW (R : Room) (s : State) (args : Array Value) (own : String) (index : Nat) (y : MethodName) (bytes : ByteArray) (maxL : Nat) (ret : Option FieldType) (hh : List (Nat × Nat × Nat × Nat)) (ws : List Cond) (rm : Room) (mc ms n : Nat) : Prop :=
  (rm.cells = mc ∧ rm.slots = ms ∧ rm.frames + 1 ≤ R.frames ∧ 8 + (maxL + 11) + rm.locals ≤ R.locals ∧ (∀ w ∈ ws, ∀ (a' : Array Value) (U : State), s.WarmedH U.vm → w.before a' U = true) ∧ Cond.codeWith y bytes maxL ret hh ∈ ws) ∧
  (Cond.codeWith y bytes maxL ret hh).before args s = true ∧ (Cond.initialized y.cls).before args s = true ∧ (y.cls ≠ "java/lang/invoke/MethodHandle" ∧ y.cls ≠ "java/lang/invoke/VarHandle") ∧
  (∀ sig, parseMethodDescriptor y.desc = some sig → n = sig.parameters.length) ∧ (Cond.methodLink own index y).before args s = true ∧ (Cond.static y).before args s = true
theorem vx_cwSW {own : String} {index maxL mc ms : Nat} {y : MethodName} {bytes : ByteArray} {ret : Option FieldType} {hh : List (Nat × Nat × Nat × Nat)} {Ts ws ws' : List Cond} {rm : Room} (n : Nat) (ht : ∀ w ∈ Ts, w.before args s = true) (hT : GoodIn Ts (va_wsS own index y ws)) (hw : ws = Cond.codeWith y bytes maxL ret hh :: ws') (hrc : rm.cells = mc) (hrs : rm.slots = ms)
    (hd : y.cls ≠ "java/lang/invoke/MethodHandle" ∧ y.cls ≠ "java/lang/invoke/VarHandle" ∧ (parseMethodDescriptor y.desc).map (fun d => d.parameters.length) = some n) (hR : rm.frames + 1 ≤ R.frames ∧ 8 + (maxL + 11) + rm.locals ≤ R.locals) :
    vx_CSW R s args own index y bytes maxL ret hh ws rm mc ms n := by
  have ok : ∀ w ∈ va_wsS own index y ws, w.before args s = true := fun w h => ht w (hT w h).1
  have hG : GoodIn Ts ws := fun w h => hT w (by unfold va_wsS; exact List.mem_append_right _ h)
  have hc : Cond.codeWith y bytes maxL ret hh ∈ ws := by rw [hw]; exact List.mem_cons_self
  refine ⟨⟨hrc, hrs, hR.1, hR.2, pay_in ht hG, hc⟩, ht _ (hG _ hc).1, ok _ (by simp [va_wsS]), ⟨hd.1, hd.2.1⟩, fun sig h => ?_, ok _ (by simp [va_wsS]), ok _ (by simp [va_wsS])⟩
  have h2 := hd.2.2
  rw [h] at h2
  exact (Option.some.inj h2).symm
theorem vx_callSW (X : Stand p l e R s m args below meth c T locs cells slots) (hexec : p.tables.exec = Jvm.exec) {own : String} {index : Nat} {y : MethodName} {bytes : ByteArray} {maxL : Nat} {ret : Option FieldType} {hh : List (Nat × Nat × Nat × Nat)}
    (hown : s.vm.findClass own = some m.cls) (hlink : (Cond.methodLink own index y).before args s = true) (hstat : (Cond.static y).before args s = true) (hinit : (Cond.initialized y.cls).before args s = true)
    (hcode : (Cond.codeWith y bytes maxL ret hh).before args s = true) (hy : y.cls ≠ "java/lang/invoke/MethodHandle" ∧ y.cls ≠ "java/lang/invoke/VarHandle")
    {W9 : Nat} {Pre : Pt → Array Value → Prop} {Post : Pt → Array Value → Option Value → Pt → Prop} (hK : Back l R p e below s args y 3 W9 Pre Post)
    {g : JFrame} (hg : g.method = m) (hsize : g.locals.size = c.maxLocals) {argsL rest : List Value} (hlen : ∀ sig, parseMethodDescriptor y.desc = some sig → argsL.length = sig.parameters.length)
    (hstack : g.stack = argsL.reverse ++ rest) (hW : 2 * g.monitorRoom + (rest.map fun v => v.category).sum ≤ W9) (hdg : decode c.code g.pc = .ok (.invokestatic index, 3))
    (hpre : ∀ vm₁, s.WarmedH vm₁ → Pre ⟨T.setVm vm₁, locs, cells, slots⟩ argsL.toArray) :
    ∃ (v : Option Value) (vm₁ : Vm) (B : Pt), s.WarmedH vm₁ ∧ Stand p l e R s m args below meth c B.U B.locs B.cells B.slots ∧ Post ⟨T.setVm vm₁, locs, cells, slots⟩ argsL.toArray v B ∧
      ∀ target, Steps p.tables e below (B.U.setTop { g with pc := g.pc + 3, stack := v.toList ++ rest }) target → Steps p.tables e below (T.setTop g) target := by
  obtain ⟨mk, methM, cM, hnamed, hmethM, -, -, -, -, -, -, hsigM⟩ := Cond.codeWith_spec hcode
  have hstatic : methM.isStatic = true := Cond.static_spec hnamed hmethM hstat
  obtain ⟨kP, hkP, -⟩ := className_of_methodNamed hnamed
  have hinitP : kP.init = .initialized := Cond.initialized_spec (findClass_of_methodNamed hnamed) hkP hinit
  obtain ⟨vm₁, X₁, hstep₁⟩ := X.invokestatic hexec hown hlink hnamed hmethM hstatic hkP hinitP hy (g := g) hg (argsL := argsL) (rest := rest) (hlen _ hsigM) hstack hdg
  obtain ⟨v, B, X', hpost, hsteps⟩ := hK m meth c ⟨T.setVm vm₁, locs, cells, slots⟩ { g with stack := rest } (.invokestatic index) mk argsL.toArray X₁ hg hsize hdg hW (X₁.named hnamed) (hpre vm₁ X₁.warmed)
  exact ⟨v, vm₁, B, X₁.warmed, X', hpost, fun target h => hstep₁ _ fun acts => by rw [doInvoke_state]; exact hsteps.trans h⟩
theorem vx_runSW {y : MethodName} {bytes cc : ByteArray} {maxL nL mc ms n index : Nat} {ret : Option FieldType} {hh : List (Nat × Nat × Nat × Nat)} {ws : List Cond} {rm : Room} {Pc : Array Value → State → Prop} {Qc : Array Value → State → Outcome → State → Prop} {free : Addr → Prop} {Ts : List Cond} {own : String} {As rest : List Value} {g : JFrame}
    (S : CallFix p m c cc nL s args Ts own) (hM : Met l y ws rm Pc Qc mc ms free) (cw : vx_CSW R s args own index y bytes maxL ret hh ws rm mc ms n) (hp : PreS s H Pc As)
    (hg : g.method = m) (hn : As.length = n) (hsize : g.locals.size = nL) (hstack : g.stack = As.reverse ++ rest) (hW : 2 * g.monitorRoom + (rest.map fun v => v.category).sum ≤ 8) (hdg : decode cc g.pc = .ok (.invokestatic index, 3)) (hf : cells + mc ≤ R.cells ∧ slots + ms ≤ R.slots) :
    va_Run p l e R s m args below meth c H locs cells slots mc ms g rest (Qc As.toArray) (free) := by
  obtain ⟨⟨hrc, hrs, hfr, hlo, hws, hcw⟩, hcode, hini, hy, hlen, hl, hstt⟩ := cw
  have hK : Back l R p e below s args y 3 8 (PreOf R mc ms Pc) (PostOf Qc mc ms free) := va_backW (hh := hh) (bytes := bytes) (maxL := maxL) (ret := ret) hM hp.1 hrc hrs hfr hlo hws hcw (fun a' U hW => word_at hW (Or.inl (by first | rfl | simp [Cond.onTables, Cond.keeps, Cond.steady])) hini)
  obtain ⟨hx, hb, hml, ho, -⟩ := S
  intro T hT X
  obtain ⟨v, vm₁, ⟨U', l2, c2, s2⟩, hW₁, X', ⟨g', mk, t, L, e1, e2, hq, h1, hL, h2, h3⟩, st⟩ := vx_callSW X hx (hh := hh) (bytes := bytes) (maxL := maxL) (ret := ret) ho hl hstt hini hcode hy hK hg (hsize.trans hml.symm) (argsL := As) (rest := rest) (fun sig h => hn.trans (hlen sig h)) hstack hW (by rw [hb]; exact hdg)
    (fun vm₁ hW₁ => ⟨hf.1, hf.2, hp.2 (T.setVm vm₁) hT hW₁⟩)
  dsimp only [Pt.U, Pt.locs, Pt.cells, Pt.slots] at X' e1 e2 h1 h2 h3 st
  subst h1; subst h2; subst h3
  exact ⟨v, (T.setVm vm₁).calling g' mk As.toArray, t, U', L, hT, X', hL, e1, e2, hq, st⟩
/-- not caught here, past rows that name other classes: it goes on to the caller -/
theorem vx_outP {p : Program} {l : Launch} {e : Env} {R : Room} {s : State} {m : MethodId} {args : Array Value} {below : List Frame} {meth : Method} {c : Code} {H : Heap} {locs : List Loc} {cells slots : Nat} {free : Addr → Prop} {ls : Array Slot} {rest : List Value} {Qc : Array Value → State → Outcome → State → Prop} {XC : String → State → State → Prop}
    {pc : Nat} {own E : String} {ce : Cell} {q : Addr} {mc ms : Nat} (hown : s.vm.findClass own = some m.cls) (hlocks : meth.locks = false)
    (hpass : ∀ z ∈ c.exceptionTable.toList, covers z pc = false ∨ (z.catchType ≠ 0 ∧ ∃ nm : String, (Cond.classLink own z.catchType nm).before args s = true ∧ va_Nc E nm s)) (hcell : H[q]? = some ce) (hv : ce.vm = .none) (hcl : s.vm.findClass E = some ce.cls)
    (hx : ∀ t : State, t.heap = H → s.vm.Alike t.vm → XC E s t) (hf : ∀ z ∈ locs, free z.base) (hc : cells ≤ mc) (hs : slots ≤ ms) :
    vx_W p l e R s m args below meth c H locs cells slots (vx_MQ below Qc XC args s mc ms free) (F0 m pc ls rest) q := by
  intro T hT X
  have hpl : e.platform.magicAccessors = ({} : Platform).magicAccessors := by rw [X.admits.platform]
  obtain ⟨vm', hW', X', st⟩ := X.outThrough hlocks q (g := F0 m pc ls rest) rfl rfl rfl (cell := ce) (by rw [hT]; exact hcell) (by rw [hv]; rfl)
    (by obtain ⟨k9, h9, -⟩ := Vm.findClass_spec hcl; exact ⟨k9, h9⟩) (fun z hz => by
      rcases hpass z hz with h | ⟨hz0, nm, hl1, hn1⟩
      · exact Or.inl h
      · obtain ⟨c6, hc6, hcl6⟩ := Cond.classLink_spec hown hl1 e.platform hpl
        obtain ⟨a8, b8, h1, h2, h3⟩ := hn1
        cases Option.some.inj (h1.symm.trans hcl)
        cases Option.some.inj (h2.symm.trans hc6)
        exact Or.inr ⟨hz0, _, hcl6, h3⟩)
  obtain ⟨g₀, hfr⟩ := X'.frames_eq
  have hcell9 : ((T.setVm vm').setFrames (.throwing q :: below)).heap[q]? = some ce := by
    show T.heap[q]? = some ce
    rw [hT]; exact hcell
  have hend : Ended ((T.setVm vm').setFrames (.throwing q :: below)) below (.threw q) := State.frames_setFrames _ (State.cur_lt_of_frames hfr)
  refine ⟨(T.setVm vm').setFrames (.throwing q :: below), ?_, .threw q, X'.here.running, hend, Or.inr ⟨q, rfl, E, ce, locs, hx _ hT (X'.ends _).1.alike, hcell9, hv, hcl, (X'.ends _).1, (X'.ends _).2.mono hc hs, hf⟩⟩
  rw [X.pushThrowing_eq]
  exact st
/-- a thing of a world lies in the heap -/
theorem vx_lt {D : va_G} {cl : List vw_C} {ws : va_W} {H1 : Heap} (h : va_P D cl ws H1) {k : Nat} {q : Nat × va_E} (hk : ws[k]? = some q) : q.1 < H1.size := (h k q hk).lt
end VXS
/-! ===== END ===== -/
/-! ===== BEGIN methods with a table of their own: called by a name, returning or throwing ===== -/
section VXH
/-! vx_backW, vx_callVX, vx_callSX, vx_callVW, vx_runVW, vx_runVX, vx_runSX, vx_ofWH follow the same proofs as their sisters above (Free/Laws.lean, Shelf42/LK1.lean); vx_outP calls Shelf42/NT130.lean (outThrough). -/
section
variable {l : Launch} {R : Room} {p : Program} {e : Env} {below : List Frame} {s : State} {sargs : Array Value} {y : MethodName} {len W9 : Nat}
theorem vx_backW {ws : List Cond} {rm : Room} {Pc : Array Value → State → Prop} {Qc : Array Value → State → Outcome → State → Prop} {XC : String → State → State → Prop} {mc ms : Nat} {free : Addr → Prop} {bytes : ByteArray} {maxL : Nat} {ret : Option FieldType} {hh : List (Nat × Nat × Nat × Nat)}
    (hM : vx_Met l y ws rm Pc Qc XC mc ms free) (hblind : FrameBlind Pc) (hrc : rm.cells = mc) (hrs : rm.slots = ms)
    (hframes : rm.frames + 1 ≤ R.frames) (hlocals : W9 + (maxL + 11) + rm.locals ≤ R.locals)
    (hws : ∀ w ∈ ws, ∀ a' U, s.WarmedH U.vm → w.before a' U = true) (hcode : Cond.codeWith y bytes maxL ret hh ∈ ws) (hinit : ∀ a' U, s.WarmedH U.vm → (Cond.initialized y.cls).before a' U = true) :
    vx_Back l R p e below s sargs y len W9 (PreOf R mc ms Pc) (PostOf Qc mc ms free) (vx_Post XC mc ms free) := by
  intro m meth c A g ig mk a X hg hsize hdg hW hn hp
  have h1 : (headSpec ws rm).pre.before a A.U = true := atoms_intro fun w hw => hws w hw _ _ X.warmed
  have h2 : (Cond.codeWith y bytes maxL ret hh).before a A.U = true := hws _ hcode _ _ X.warmed
  have h3 : (Cond.initialized y.cls).before a A.U = true := hinit _ _ X.warmed
  have h4 : A.cells + (headSpec ws rm).room.cells ≤ R.cells := by rw [show (headSpec ws rm).room.cells = mc from hrc]; exact hp.1
  have h5 : A.slots + (headSpec ws rm).room.slots ≤ R.slots := by rw [show (headSpec ws rm).room.slots = ms from hrs]; exact hp.2.1
  have hPc : Pc a (A.U.calling g mk a) := hblind _ _ _ _ hp.2.2
  obtain ⟨U, Ls, c0, s0⟩ := A
  dsimp only [Pt.U, Pt.locs, Pt.cells, Pt.slots] at h1 h2 h3 h4 h5 X hn hPc ⊢
  obtain ⟨m9, methY, cY, hn9, hmY, hcY, -, hlY, -⟩ := Cond.codeWith_spec h2
  cases Option.some.inj (hn9.symm.trans hn)
  obtain ⟨kY, hkY, -⟩ := className_of_methodNamed hn
  have hinitY : kY.init = .initialized := Cond.initialized_spec (findClass_of_methodNamed hn) hkY h3
  have h : At U g.method c below := by rw [hg]; exact X.here
  have hlocals9 : W9 + (maxL + 11) + (headSpec ws rm).room.locals ≤ R.locals := hlocals
  have happ : (headSpec ws rm).appliesLoose y e.platform (U.calling g mk a) = true :=
    Spec.appliesLoose_calling (g := g) h hdg hn hkY hinitY
      (X.room_calling (g := g) (R' := (headSpec ws rm).room) hsize hmY hcY hframes (by rw [hlY]; omega) h4 h5) h1
  obtain ⟨mid, hmid⟩ := h.above
  have hfr : (U.setTop g).frames = (.java g :: mid) ++ below := by rw [State.frames_setTop' g h.top, hmid]; rfl
  obtain ⟨o, s₂, hsteps, -, hend, hq⟩ := Steps.callFree hM p X.admits X.cas X.clock (acts := []) hfr happ hPc trivial
  have hq' : vx_Q Qc XC mc ms free a (U.calling g mk a) o s₂ := hq
  rw [State.frames_setTop' g h.top] at hend
  obtain ⟨g₀, hg0⟩ := Option.isSome_iff_exists.mp h.top
  obtain ⟨r, hr⟩ := State.topJava?_eq_some.mp hg0
  have hr' : (({ U with heap := s₂.heap, slotsUsed := s₂.slotsUsed } : State).setVm s₂.vm).frames = .java g₀ :: r := hr
  rcases hq' with ⟨hqc, L, hfe, hL⟩ | ⟨q, rfl, E, ce, L, hx, hce, hcv, hcl, hW₂, hsm, hL⟩
  · obtain ⟨⟨v, rfl⟩, hW₂, e2, q2, q3, q4, q5, q6⟩ := id hfe
    have e3 : s₂ = ({ (U.calling g mk a).setFrames s₂.frames with heap := s₂.heap, slotsUsed := s₂.slotsUsed } : State).setVm s₂.vm := by
      have : s₂ = ({ s₂ with vm := (U.calling g mk a).vm } : State).setVm s₂.vm := rfl
      rw [e2] at this
      exact this
    obtain ⟨c₂, i₂, len₂, hc₂, hd₂, hf₂⟩ := hend
    have hW' : U.WarmedH s₂.vm := hW₂
    have hcc : c₂ = c := by
      have h1 : s₂.code? g.method = U.code? g.method := by
        rw [State.code?_eq, State.code?_eq, hW'.alike.method?]
      exact Option.some.inj (hc₂.symm.trans (h1.trans h.code))
    subst hcc
    have hlen : len₂ = len := by rw [hdg] at hd₂; cases hd₂; rfl
    subst hlen
    have hs₂ : s₂ = (({ U with heap := s₂.heap, slotsUsed := s₂.slotsUsed } : State).setVm s₂.vm).setTop { g with pc := g.pc + len₂, stack := v.toList ++ g.stack } := by
      refine e3.trans ?_
      rw [hf₂, State.calling_eq h.top, State.setFrames_setFrames, State.setTop_of_frames _ hr', hr]
      rfl
    have hsame : U.sameButNew ({ U with heap := s₂.heap, slotsUsed := s₂.slotsUsed } : State) L mc ms := by
      refine ⟨?_, q2, q3, q4, q5, q6⟩
      obtain ⟨t, ht, -⟩ := State.frames_cons hr
      show ({ U with heap := s₂.heap, slotsUsed := s₂.slotsUsed } : State) = { U.setFrames U.frames with heap := s₂.heap, slotsUsed := s₂.slotsUsed }
      rw [State.setFrames_self ht]
    subst hg
    refine Or.inl ⟨v, ⟨(({ U with heap := s₂.heap, slotsUsed := s₂.slotsUsed } : State).setVm s₂.vm), Ls ++ L, c0 + mc, s0 + ms⟩,
      ⟨X.admits, X.cas, X.clock, X.frames, X.room, X.hears, X.method, X.code, (X.here.setHeapUsed s₂.heap s₂.slotsUsed).setVm hW'.alike, X.tail, State.WarmedH.trans X.warmed hW', X.limits, X.bytes, X.same.trans (hsame.setVm s.vm)⟩,
      ⟨g, mk, s₂, L, rfl, rfl, hqc, rfl, hL, rfl, rfl⟩, ?_⟩
    show Steps p.tables e below _ ((({ U with heap := s₂.heap, slotsUsed := s₂.slotsUsed } : State).setVm s₂.vm).setTop { g with pc := g.pc + len₂, stack := v.toList ++ g.stack })
    rw [← hs₂]
    exact hsteps
  · obtain ⟨e2, q2, q3, q4, q5, q6⟩ := id hsm
    have e3 : s₂ = ({ (U.calling g mk a).setFrames s₂.frames with heap := s₂.heap, slotsUsed := s₂.slotsUsed } : State).setVm s₂.vm := by
      have : s₂ = ({ s₂ with vm := (U.calling g mk a).vm } : State).setVm s₂.vm := rfl
      rw [e2] at this
      exact this
    have hf₂ : s₂.frames = .throwing q :: .java g :: U.frames.tail := hend
    have hW' : U.WarmedH s₂.vm := hW₂
    have hs₂ : s₂ = ((({ U with heap := s₂.heap, slotsUsed := s₂.slotsUsed } : State).setVm s₂.vm).setTop g).pushFrame (.throwing q) := by
      refine e3.trans ?_
      rw [hf₂, State.calling_eq h.top, State.setFrames_setFrames, State.pushFrame, State.frames_setTop _ hr', State.setTop_of_frames _ hr', State.setFrames_setFrames, hr]
      rfl
    have hsame : U.sameButNew ({ U with heap := s₂.heap, slotsUsed := s₂.slotsUsed } : State) L mc ms := by
      refine ⟨?_, q2, q3, q4, q5, q6⟩
      obtain ⟨t, ht, -⟩ := State.frames_cons hr
      show ({ U with heap := s₂.heap, slotsUsed := s₂.slotsUsed } : State) = { U.setFrames U.frames with heap := s₂.heap, slotsUsed := s₂.slotsUsed }
      rw [State.setFrames_self ht]
    subst hg
    refine Or.inr ⟨q, ⟨(({ U with heap := s₂.heap, slotsUsed := s₂.slotsUsed } : State).setVm s₂.vm), Ls ++ L, c0 + mc, s0 + ms⟩,
      ⟨X.admits, X.cas, X.clock, X.frames, X.room, X.hears, X.method, X.code, (X.here.setHeapUsed s₂.heap s₂.slotsUsed).setVm hW'.alike, X.tail, State.WarmedH.trans X.warmed hW', X.limits, X.bytes, X.same.trans (hsame.setVm s.vm)⟩,
      ⟨g, mk, s₂, L, E, ce, rfl, rfl, hx, hce, hcv, hcl, rfl, hL, rfl, rfl⟩, ?_⟩
    show Steps p.tables e below _ (((({ U with heap := s₂.heap, slotsUsed := s₂.slotsUsed } : State).setVm s₂.vm).setTop g).pushFrame (.throwing q))
    rw [← hs₂]
    exact hsteps
end
variable {p : Program} {l : Launch} {e : Env} {R : Room} {s : State} {m : MethodId} {args : Array Value} {below : List Frame} {meth : Method} {c : Code} {T : State} {H : Heap} {locs : List Loc} {cells slots : Nat}
theorem vx_callVX (X : Stand p l e R s m args below meth c T locs cells slots) (hexec : p.tables.exec = Jvm.exec) {own C : String} {index : Nat} {y : MethodName} {bytes : ByteArray} {maxL : Nat} {ret : Option FieldType} {hh : List (Nat × Nat × Nat × Nat)}
    (hown : s.vm.findClass own = some m.cls) (hlink : (Cond.methodLink own index y).before args s = true) (hinst : (Cond.instanceMethod y).before args s = true) (hsel : (Cond.selects C y y).before args s = true)
    (hcode : (Cond.codeWith y bytes maxL ret hh).before args s = true) (hy : y.cls ≠ "java/lang/invoke/MethodHandle" ∧ y.cls ≠ "java/lang/invoke/VarHandle")
    {W9 : Nat} {Pre : Pt → Array Value → Prop} {Post : Pt → Array Value → Option Value → Pt → Prop} {PostX : Pt → Array Value → Addr → Pt → Prop} (hK : vx_Back l R p e below s args y 3 W9 Pre Post PostX)
    {b : Addr} {cellB : Cell} (hcell : T.heap[b]? = some cellB) (hobj : cellB.vm.isStatics = false) (hcls : s.vm.findClass C = some cellB.cls)
    {g : JFrame} (hg : g.method = m) (hsize : g.locals.size = c.maxLocals) {argsL rest : List Value} (hlen : ∀ sig, parseMethodDescriptor y.desc = some sig → argsL.length = sig.parameters.length)
    (hstack : g.stack = argsL.reverse ++ .ref b :: rest) (hW : 2 * g.monitorRoom + (rest.map fun v => v.category).sum ≤ W9) (hdg : decode c.code g.pc = .ok (.invokevirtual index, 3))
    (hpre : ∀ vm₁, s.WarmedH vm₁ → Pre ⟨T.setVm vm₁, locs, cells, slots⟩ (Value.ref b :: argsL).toArray) :
    (∃ (v : Option Value) (vm₁ : Vm) (B : Pt), s.WarmedH vm₁ ∧ Stand p l e R s m args below meth c B.U B.locs B.cells B.slots ∧ Post ⟨T.setVm vm₁, locs, cells, slots⟩ (Value.ref b :: argsL).toArray v B ∧
      ∀ target, Steps p.tables e below (B.U.setTop { g with pc := g.pc + 3, stack := v.toList ++ rest }) target → Steps p.tables e below (T.setTop g) target) ∨
    (∃ (q : Addr) (vm₁ : Vm) (B : Pt), s.WarmedH vm₁ ∧ Stand p l e R s m args below meth c B.U B.locs B.cells B.slots ∧ PostX ⟨T.setVm vm₁, locs, cells, slots⟩ (Value.ref b :: argsL).toArray q B ∧
      Steps p.tables e below (T.setTop g) ((B.U.setTop { g with stack := rest }).pushFrame (.throwing q))) := by
  obtain ⟨mk, methM, hnamed, hmethM, hstM, habM⟩ := Cond.instanceMethod_spec hinst
  obtain ⟨m8, methM', cM, hn8, hmethM', -, -, -, -, -, -, hsigM⟩ := Cond.codeWith_spec hcode
  cases Option.some.inj (hn8.symm.trans hnamed)
  cases hmethM.symm.trans hmethM'
  obtain ⟨c2, r2, m2, q1, q2, q3, q4, kP, hkP, hkPi⟩ := Cond.selects_spec hsel
  cases hcls.symm.trans q1
  cases (State.methodFound?_of_named hnamed hy).symm.trans q2
  cases hnamed.symm.trans q3
  have hselP : selectMethod e.platform s.vm cellB.cls mk = .method mk := by rw [Launch.admits_selectMethod X.admits]; exact q4
  obtain ⟨vm₁, X₁, hstep₁⟩ := X.invokevirtual hexec hown hlink hnamed hmethM hstM hkP hkPi hy (a := b) (cell := cellB) hcell
    (fun z h => by rw [h] at hobj; cases hobj) hselP hmethM habM hkP hkPi (g := g) hg (argsL := argsL) (rest := rest) (hlen _ hsigM) hstack hdg
  rcases hK m meth c ⟨T.setVm vm₁, locs, cells, slots⟩ { g with stack := rest } (.invokevirtual index) mk (Value.ref b :: argsL).toArray X₁ hg hsize hdg hW (X₁.named hnamed) (hpre vm₁ X₁.warmed) with ⟨v, B, X', hpost, hsteps⟩ | ⟨q, B, X', hpost, hsteps⟩
  · exact Or.inl ⟨v, vm₁, B, X₁.warmed, X', hpost, fun target h => hstep₁ _ fun acts => by rw [doInvoke_state]; exact hsteps.trans h⟩
  · exact Or.inr ⟨q, vm₁, B, X₁.warmed, X', hpost, hstep₁ _ fun acts => by rw [doInvoke_state]; exact hsteps⟩
theorem vx_callSX (X : Stand p l e R s m args below meth c T locs cells slots) (hexec : p.tables.exec = Jvm.exec) {own : String} {index : Nat} {y : MethodName} {bytes : ByteArray} {maxL : Nat} {ret : Option FieldType} {hh : List (Nat × Nat × Nat × Nat)}
    (hown : s.vm.findClass own = some m.cls) (hlink : (Cond.methodLink own index y).before args s = true) (hstat : (Cond.static y).before args s = true) (hinit : (Cond.initialized y.cls).before args s = true)
    (hcode : (Cond.codeWith y bytes maxL ret hh).before args s = true) (hy : y.cls ≠ "java/lang/invoke/MethodHandle" ∧ y.cls ≠ "java/lang/invoke/VarHandle")
    {W9 : Nat} {Pre : Pt → Array Value → Prop} {Post : Pt → Array Value → Option Value → Pt → Prop} {PostX : Pt → Array Value → Addr → Pt → Prop} (hK : vx_Back l R p e below s args y 3 W9 Pre Post PostX)
    {g : JFrame} (hg : g.method = m) (hsize : g.locals.size = c.maxLocals) {argsL rest : List Value} (hlen : ∀ sig, parseMethodDescriptor y.desc = some sig → argsL.length = sig.parameters.length)
    (hstack : g.stack = argsL.reverse ++ rest) (hW : 2 * g.monitorRoom + (rest.map fun v => v.category).sum ≤ W9) (hdg : decode c.code g.pc = .ok (.invokestatic index, 3))
    (hpre : ∀ vm₁, s.WarmedH vm₁ → Pre ⟨T.setVm vm₁, locs, cells, slots⟩ argsL.toArray) :
    (∃ (v : Option Value) (vm₁ : Vm) (B : Pt), s.WarmedH vm₁ ∧ Stand p l e R s m args below meth c B.U B.locs B.cells B.slots ∧ Post ⟨T.setVm vm₁, locs, cells, slots⟩ argsL.toArray v B ∧
      ∀ target, Steps p.tables e below (B.U.setTop { g with pc := g.pc + 3, stack := v.toList ++ rest }) target → Steps p.tables e below (T.setTop g) target) ∨
    (∃ (q : Addr) (vm₁ : Vm) (B : Pt), s.WarmedH vm₁ ∧ Stand p l e R s m args below meth c B.U B.locs B.cells B.slots ∧ PostX ⟨T.setVm vm₁, locs, cells, slots⟩ argsL.toArray q B ∧
      Steps p.tables e below (T.setTop g) ((B.U.setTop { g with stack := rest }).pushFrame (.throwing q))) := by
  obtain ⟨mk, methM, cM, hnamed, hmethM, -, -, -, -, -, -, hsigM⟩ := Cond.codeWith_spec hcode
  have hstatic : methM.isStatic = true := Cond.static_spec hnamed hmethM hstat
  obtain ⟨kP, hkP, -⟩ := className_of_methodNamed hnamed
  have hinitP : kP.init = .initialized := Cond.initialized_spec (findClass_of_methodNamed hnamed) hkP hinit
  obtain ⟨vm₁, X₁, hstep₁⟩ := X.invokestatic hexec hown hlink hnamed hmethM hstatic hkP hinitP hy (g := g) hg (argsL := argsL) (rest := rest) (hlen _ hsigM) hstack hdg
  rcases hK m meth c ⟨T.setVm vm₁, locs, cells, slots⟩ { g with stack := rest } (.invokestatic index) mk argsL.toArray X₁ hg hsize hdg hW (X₁.named hnamed) (hpre vm₁ X₁.warmed) with ⟨v, B, X', hpost, hsteps⟩ | ⟨q, B, X', hpost, hsteps⟩
  · exact Or.inl ⟨v, vm₁, B, X₁.warmed, X', hpost, fun target h => hstep₁ _ fun acts => by rw [doInvoke_state]; exact hsteps.trans h⟩
  · exact Or.inr ⟨q, vm₁, B, X₁.warmed, X', hpost, hstep₁ _ fun acts => by rw [doInvoke_state]; exact hsteps⟩
theorem vx_callVW (X : Stand p l e R s m args below meth c T locs cells slots) (hexec : p.tables.exec = Jvm.exec) {own C : String} {index : Nat} {y : MethodName} {bytes : ByteArray} {maxL : Nat} {ret : Option FieldType} {hh : List (Nat × Nat × Nat × Nat)}
    (hown : s.vm.findClass own = some m.cls) (hlink : (Cond.methodLink own index y).before args s = true) (hinst : (Cond.instanceMethod y).before args s = true) (hsel : (Cond.selects C y y).before args s = true)
    (hcode : (Cond.codeWith y bytes maxL ret hh).before args s = true) (hy : y.cls ≠ "java/lang/invoke/MethodHandle" ∧ y.cls ≠ "java/lang/invoke/VarHandle")
    {W9 : Nat} {Pre : Pt → Array Value → Prop} {Post : Pt → Array Value → Option Value → Pt → Prop} (hK : Back l R p e below s args y 3 W9 Pre Post)
    {b : Addr} {cellB : Cell} (hcell : T.heap[b]? = some cellB) (hobj : cellB.vm.isStatics = false) (hcls : s.vm.findClass C = some cellB.cls)
    {g : JFrame} (hg : g.method = m) (hsize : g.locals.size = c.maxLocals) {argsL rest : List Value} (hlen : ∀ sig, parseMethodDescriptor y.desc = some sig → argsL.length = sig.parameters.length)
    (hstack : g.stack = argsL.reverse ++ .ref b :: rest) (hW : 2 * g.monitorRoom + (rest.map fun v => v.category).sum ≤ W9) (hdg : decode c.code g.pc = .ok (.invokevirtual index, 3))
    (hpre : ∀ vm₁, s.WarmedH vm₁ → Pre ⟨T.setVm vm₁, locs, cells, slots⟩ (Value.ref b :: argsL).toArray) :
    ∃ (v : Option Value) (vm₁ : Vm) (B : Pt), s.WarmedH vm₁ ∧ Stand p l e R s m args below meth c B.U B.locs B.cells B.slots ∧ Post ⟨T.setVm vm₁, locs, cells, slots⟩ (Value.ref b :: argsL).toArray v B ∧
      ∀ target, Steps p.tables e below (B.U.setTop { g with pc := g.pc + 3, stack := v.toList ++ rest }) target → Steps p.tables e below (T.setTop g) target := by
  obtain ⟨mk, methM, hnamed, hmethM, hstM, habM⟩ := Cond.instanceMethod_spec hinst
  obtain ⟨m8, methM', cM, hn8, hmethM', -, -, -, -, -, -, hsigM⟩ := Cond.codeWith_spec hcode
  cases Option.some.inj (hn8.symm.trans hnamed)
  cases hmethM.symm.trans hmethM'
  obtain ⟨c2, r2, m2, q1, q2, q3, q4, kP, hkP, hkPi⟩ := Cond.selects_spec hsel
  cases hcls.symm.trans q1
  cases (State.methodFound?_of_named hnamed hy).symm.trans q2
  cases hnamed.symm.trans q3
  have hselP : selectMethod e.platform s.vm cellB.cls mk = .method mk := by rw [Launch.admits_selectMethod X.admits]; exact q4
  obtain ⟨vm₁, X₁, hstep₁⟩ := X.invokevirtual hexec hown hlink hnamed hmethM hstM hkP hkPi hy (a := b) (cell := cellB) hcell
    (fun z h => by rw [h] at hobj; cases hobj) hselP hmethM habM hkP hkPi (g := g) hg (argsL := argsL) (rest := rest) (hlen _ hsigM) hstack hdg
  obtain ⟨v, B, X', hpost, hsteps⟩ := hK m meth c ⟨T.setVm vm₁, locs, cells, slots⟩ { g with stack := rest } (.invokevirtual index) mk (Value.ref b :: argsL).toArray X₁ hg hsize hdg hW (X₁.named hnamed) (hpre vm₁ X₁.warmed)
  exact ⟨v, vm₁, B, X₁.warmed, X', hpost, fun target h => hstep₁ _ fun acts => by rw [doInvoke_state]; exact hsteps.trans h⟩
abbrev vx_CVW (R : Room) (s : State) (args : Array Value) (own C : String) (index : Nat) (y : MethodName) (bytes : ByteArray) (maxL : Nat) (ret : Option FieldType) (hh : List (Nat × Nat × Nat × Nat)) (ws : List Cond) (rm : Room) (mc ms n : Nat) : Prop :=
  (rm.cells = mc ∧ rm.slots = ms ∧ rm.frames + 1 ≤ R.frames ∧ 8 + (maxL + 11) + rm.locals ≤ R.locals ∧ (∀ w ∈ ws, ∀ (a' : Array Value) (U : State), s.WarmedH U.vm → w.before a' U = true) ∧ Cond.codeWith y bytes maxL ret hh ∈ ws) ∧
  (Cond.codeWith y bytes maxL ret hh).before args s = true ∧ (Cond.initialized y.cls).before args s = true ∧ (y.cls ≠ "java/lang/invoke/MethodHandle" ∧ y.cls ≠ "java/lang/invoke/VarHandle") ∧
  (∀ sig, parseMethodDescriptor y.desc = some sig → n = sig.parameters.length) ∧ (Cond.methodLink own index y).before args s = true ∧ (Cond.instanceMethod y).before args s = true ∧ (Cond.selects C y y).before args s = true
theorem vx_cwVW {own C : String} {index maxL mc ms : Nat} {y : MethodName} {bytes : ByteArray} {ret : Option FieldType} {hh : List (Nat × Nat × Nat × Nat)} {Ts ws ws' : List Cond} {rm : Room} (n : Nat) (ht : ∀ w ∈ Ts, w.before args s = true) (hT : GoodIn Ts (wsV own index C y ws)) (hw : ws = Cond.codeWith y bytes maxL ret hh :: ws') (hrc : rm.cells = mc) (hrs : rm.slots = ms)
    (hd : y.cls = C ∧ y.cls ≠ "java/lang/invoke/MethodHandle" ∧ y.cls ≠ "java/lang/invoke/VarHandle" ∧ (parseMethodDescriptor y.desc).map (fun d => d.parameters.length) = some n) (hR : rm.frames + 1 ≤ R.frames ∧ 8 + (maxL + 11) + rm.locals ≤ R.locals) :
    vx_CVW R s args own C index y bytes maxL ret hh ws rm mc ms n := by
  obtain ⟨hC, hd⟩ := hd
  subst hC
  have ok : ∀ w ∈ wsV own index y.cls y ws, w.before args s = true := fun w h => ht w (hT w h).1
  have hG : GoodIn Ts ws := fun w h => hT w (by unfold wsV; exact List.mem_append_right _ h)
  have hc : Cond.codeWith y bytes maxL ret hh ∈ ws := by rw [hw]; exact List.mem_cons_self
  refine ⟨⟨hrc, hrs, hR.1, hR.2, pay_in ht hG, hc⟩, ht _ (hG _ hc).1, ok _ (by simp [wsV]), ⟨hd.1, hd.2.1⟩, fun sig h => ?_, ok _ (by simp [wsV]), ok _ (by simp [wsV]), ok _ (by simp [wsV])⟩
  have h2 := hd.2.2
  rw [h] at h2
  exact (Option.some.inj h2).symm
theorem vx_runVW {y : MethodName} {bytes cc : ByteArray} {maxL nL mc ms n index : Nat} {ret : Option FieldType} {hh : List (Nat × Nat × Nat × Nat)} {ws : List Cond} {rm : Room} {Pc : Array Value → State → Prop} {Qc : Array Value → State → Outcome → State → Prop} {free : Addr → Prop} {Ts : List Cond} {own C : String} {b : Addr} {As rest : List Value} {g : JFrame}
    (S : CallFix p m c cc nL s args Ts own) (hM : Met l y ws rm Pc Qc mc ms free) (cw : vx_CVW R s args own C index y bytes maxL ret hh ws rm mc ms n) (hp : PreV s H C b Pc As)
    (hg : g.method = m) (hn : As.length = n) (hsize : g.locals.size = nL) (hstack : g.stack = As.reverse ++ .ref b :: rest) (hW : 2 * g.monitorRoom + (rest.map fun v => v.category).sum ≤ 8) (hdg : decode cc g.pc = .ok (.invokevirtual index, 3)) (hf : cells + mc ≤ R.cells ∧ slots + ms ≤ R.slots) :
    va_Run p l e R s m args below meth c H locs cells slots mc ms g rest (Qc (Value.ref b :: As).toArray) free := by
  obtain ⟨⟨hrc, hrs, hfr, hlo, hws, hcw⟩, hcode, hini, hy, hlen, hl, hin, hse⟩ := cw
  have hK : Back l R p e below s args y 3 8 (PreOf R mc ms Pc) (PostOf Qc mc ms free) := va_backW (hh := hh) (bytes := bytes) (maxL := maxL) (ret := ret) hM hp.1 hrc hrs hfr hlo hws hcw (fun a' U hW => word_at hW (Or.inl (by first | rfl | simp [Cond.onTables, Cond.keeps, Cond.steady])) hini)
  obtain ⟨hx, hb, hml, ho, -⟩ := S
  obtain ⟨-, ⟨cellB, hcB, hoB, hclB⟩, hPc⟩ := hp
  intro T hT X
  obtain ⟨v, vm₁, ⟨U', l2, c2, s2⟩, hW₁, X', ⟨g', mk, t, L, e1, e2, hq, h1, hL, h2, h3⟩, st⟩ := vx_callVW X hx (C := C) (hh := hh) (bytes := bytes) (maxL := maxL) (ret := ret) ho hl hin hse hcode hy hK (by rw [hT]; exact hcB) hoB hclB hg (hsize.trans hml.symm) (argsL := As) (rest := rest) (fun sig h => hn.trans (hlen sig h)) hstack hW (by rw [hb]; exact hdg)
    (fun vm₁ hW₁ => ⟨hf.1, hf.2, hPc (T.setVm vm₁) hT hW₁⟩)
  dsimp only [Pt.U, Pt.locs, Pt.cells, Pt.slots] at X' e1 e2 h1 h2 h3 st
  subst h1; subst h2; subst h3
  exact ⟨v, (T.setVm vm₁).calling g' mk (Value.ref b :: As).toArray, t, U', L, hT, X', hL, e1, e2, hq, st⟩
section
variable {y : MethodName} {bytes cc : ByteArray} {maxL nL mc ms n index : Nat} {ret : Option FieldType} {ws : List Cond} {rm : Room} {Pc : Array Value → State → Prop} {Qc : Array Value → State → Outcome → State → Prop} {XC : String → State → State → Prop} {free : Addr → Prop} {Ts : List Cond} {own C : String} {b : Addr} {As rest : List Value} {g : JFrame}
theorem vx_runVX {hh : List (Nat × Nat × Nat × Nat)} (S : CallFix p m c cc nL s args Ts own) (hM : vx_Met l y ws rm Pc Qc XC mc ms free) (cw : vx_CVW R s args own C index y bytes maxL ret hh ws rm mc ms n) (hp : PreV s H C b Pc As)
    (hg : g.method = m) (hn : As.length = n) (hsize : g.locals.size = nL) (hstack : g.stack = As.reverse ++ .ref b :: rest) (hW : 2 * g.monitorRoom + (rest.map fun v => v.category).sum ≤ 8) (hdg : decode cc g.pc = .ok (.invokevirtual index, 3)) (hf : cells + mc ≤ R.cells ∧ slots + ms ≤ R.slots) :
    vx_Run p l e R s m args below meth c H locs cells slots mc ms g rest (Qc (Value.ref b :: As).toArray) XC free := by
  obtain ⟨⟨hrc, hrs, hfr, hlo, hws, hcw⟩, hcode, hini, hy, hlen, hl, hin, hse⟩ := cw
  have hK : vx_Back l R p e below s args y 3 8 (PreOf R mc ms Pc) (PostOf Qc mc ms free) (vx_Post XC mc ms free) := vx_backW (hh := hh) (bytes := bytes) (maxL := maxL) (ret := ret) hM hp.1 hrc hrs hfr hlo hws hcw (fun a' U hW => word_at hW (Or.inl (by first | rfl | simp [Cond.onTables, Cond.keeps, Cond.steady])) hini)
  obtain ⟨hx, hb, hml, ho, -⟩ := S
  obtain ⟨-, ⟨cellB, hcB, hoB, hclB⟩, hPc⟩ := hp
  intro T hT X
  rcases vx_callVX X hx (C := C) (hh := hh) (bytes := bytes) (maxL := maxL) (ret := ret) ho hl hin hse hcode hy hK (by rw [hT]; exact hcB) hoB hclB hg (hsize.trans hml.symm) (argsL := As) (rest := rest) (fun sig h => hn.trans (hlen sig h)) hstack hW (by rw [hb]; exact hdg)
    (fun vm₁ hW₁ => ⟨hf.1, hf.2, hPc (T.setVm vm₁) hT hW₁⟩) with ⟨v, vm₁, ⟨U', l2, c2, s2⟩, hW₁, X', ⟨g', mk, t, L, e1, e2, hq, h1, hL, h2, h3⟩, st⟩ | ⟨q, vm₁, ⟨U', l2, c2, s2⟩, hW₁, X', ⟨g', mk, t, L, E, ce, e1, e2, hq, hce, hcv, hcl, h1, hL, h2, h3⟩, st⟩
  · dsimp only [Pt.U, Pt.locs, Pt.cells, Pt.slots] at X' e1 e2 h1 h2 h3 st
    subst h1; subst h2; subst h3
    exact Or.inl ⟨v, (T.setVm vm₁).calling g' mk (Value.ref b :: As).toArray, t, U', L, hT, X', hL, e1, e2, hq, st⟩
  · dsimp only [Pt.U, Pt.locs, Pt.cells, Pt.slots] at X' e1 e2 h1 h2 h3 st hcl
    subst h1; subst h2; subst h3
    exact Or.inr ⟨q, (T.setVm vm₁).calling g' mk (Value.ref b :: As).toArray, t, U', L, E, ce, hT, X', hL, e1, e2, hq, hce, hcv, vx_cls hW₁ hcl, st⟩
theorem vx_runSX {hh : List (Nat × Nat × Nat × Nat)} (S : CallFix p m c cc nL s args Ts own) (hM : vx_Met l y ws rm Pc Qc XC mc ms free) (cw : vx_CSW R s args own index y bytes maxL ret hh ws rm mc ms n) (hp : PreS s H Pc As)
    (hg : g.method = m) (hn : As.length = n) (hsize : g.locals.size = nL) (hstack : g.stack = As.reverse ++ rest) (hW : 2 * g.monitorRoom + (rest.map fun v => v.category).sum ≤ 8) (hdg : decode cc g.pc = .ok (.invokestatic index, 3)) (hf : cells + mc ≤ R.cells ∧ slots + ms ≤ R.slots) :
    vx_Run p l e R s m args below meth c H locs cells slots mc ms g rest (Qc As.toArray) XC free := by
  obtain ⟨⟨hrc, hrs, hfr, hlo, hws, hcw⟩, hcode, hini, hy, hlen, hl, hstt⟩ := cw
  have hK : vx_Back l R p e below s args y 3 8 (PreOf R mc ms Pc) (PostOf Qc mc ms free) (vx_Post XC mc ms free) := vx_backW (hh := hh) (bytes := bytes) (maxL := maxL) (ret := ret) hM hp.1 hrc hrs hfr hlo hws hcw (fun a' U hW => word_at hW (Or.inl (by first | rfl | simp [Cond.onTables, Cond.keeps, Cond.steady])) hini)
  obtain ⟨hx, hb, hml, ho, -⟩ := S
  intro T hT X
  rcases vx_callSX X hx (hh := hh) (bytes := bytes) (maxL := maxL) (ret := ret) ho hl hstt hini hcode hy hK hg (hsize.trans hml.symm) (argsL := As) (rest := rest) (fun sig h => hn.trans (hlen sig h)) hstack hW (by rw [hb]; exact hdg)
    (fun vm₁ hW₁ => ⟨hf.1, hf.2, hp.2 (T.setVm vm₁) hT hW₁⟩) with ⟨v, vm₁, ⟨U', l2, c2, s2⟩, hW₁, X', ⟨g', mk, t, L, e1, e2, hq, h1, hL, h2, h3⟩, st⟩ | ⟨q, vm₁, ⟨U', l2, c2, s2⟩, hW₁, X', ⟨g', mk, t, L, E, ce, e1, e2, hq, hce, hcv, hcl, h1, hL, h2, h3⟩, st⟩
  · dsimp only [Pt.U, Pt.locs, Pt.cells, Pt.slots] at X' e1 e2 h1 h2 h3 st
    subst h1; subst h2; subst h3
    exact Or.inl ⟨v, (T.setVm vm₁).calling g' mk As.toArray, t, U', L, hT, X', hL, e1, e2, hq, st⟩
  · dsimp only [Pt.U, Pt.locs, Pt.cells, Pt.slots] at X' e1 e2 h1 h2 h3 st hcl
    subst h1; subst h2; subst h3
    exact Or.inr ⟨q, (T.setVm vm₁).calling g' mk As.toArray, t, U', L, E, ce, hT, X', hL, e1, e2, hq, hce, hcv, vx_cls hW₁ hcl, st⟩
end
end VXH
theorem vx_ofWH {l : Launch} {y : MethodName} {ws ws' : List Cond} {rm : Room} {Pc : Array Value → State → Prop} {Qc : Array Value → State → Outcome → State → Prop} {XC : String → State → State → Prop} {mc ms : Nat} {free : Addr → Prop} {cc : ByteArray} {maxL : Nat} {ret : Option FieldType} {hh : List (Nat × Nat × Nat × Nat)}
    (hy : plainName y.cls = true) (hw : ws = Cond.codeWith y cc maxL ret hh :: ws')
    (body : ∀ p e s m args below meth c s₁, BodyLoose p l y (headSpec ws rm) cc maxL ret e s m args below meth c s₁ → c.maxLocals = maxL → Pc args s →
      W p l e (headSpec ws rm).room s m args below meth c s.heap [] 0 0 (vx_MQ below Qc XC args s mc ms free) (entryFrame m args maxL)) : vx_Met l y ws rm Pc Qc XC mc ms free := by
  refine MetFree.of_bodyS (code := cc) (maxLocals := maxL) (ret := ret) hy ?_ ?_
  · intro args s m h hn
    obtain ⟨m9, meth, c, hn9, h1, h2, h3, h4, -, h5, h6, -⟩ := Cond.codeWith_spec (atoms_spec (ws := ws) h _ (by rw [hw]; exact List.mem_cons_self))
    cases hn.symm.trans hn9
    exact ⟨meth, c, h1, h2, h3, h4, h5, h6⟩
  · intro p e s m args below meth c s₁ B hml hP _
    have hh0 : s₁.heap = s.heap := by rw [B.state]; rfl
    obtain ⟨t, a1, o, b1, b2, b3⟩ := body p e s m args below meth c s₁ B hml hP s₁ hh0 (Stand.of_body B)
    exact ⟨t, o, a1, b1, b2, b3⟩
/-! ===== END ===== -/
/-! ===== BEGIN a constructor that throws (launches without stack traces) ===== -/
section VXIA
variable {p : Program} {l : Launch} {e : Env} {R : Room} {s : State} {m : MethodId} {args : Array Value} {below : List Frame} {meth : Method} {c : Code} {T : State} {locs : List Loc} {cells slots : Nat}
theorem vx_callI (X : Stand p l e R s m args below meth c T locs cells slots) (hexec : p.tables.exec = Jvm.exec) {own : String} {index : Nat} {y : MethodName} {bytes : ByteArray} {maxL : Nat}
    (hown : s.vm.findClass own = some m.cls) (hy1 : y.name = "<init>") (hlink : (Cond.methodLink own index y).before args s = true) (hinst : (Cond.instanceMethod y).before args s = true)
    (hcode : (Cond.code y bytes maxL none).before args s = true) (hy : y.cls ≠ "java/lang/invoke/MethodHandle" ∧ y.cls ≠ "java/lang/invoke/VarHandle")
    {W9 : Nat} {Pre : Pt → Array Value → Prop} {Post : Pt → Array Value → Option Value → Pt → Prop} {PostX : Pt → Array Value → Addr → Pt → Prop} (hK : vx_Back l R p e below s args y 3 W9 Pre Post PostX)
    {g : JFrame} (hg : g.method = m) (hsize : g.locals.size = c.maxLocals) {a : Addr} {argsL rest : List Value} (hlen : ∀ sig, parseMethodDescriptor y.desc = some sig → argsL.length = sig.parameters.length)
    (hstack : g.stack = argsL.reverse ++ .ref a :: rest) (hW : 2 * g.monitorRoom + (rest.map fun v => v.category).sum ≤ W9) (hdg : decode c.code g.pc = .ok (.invokespecial index, 3))
    (hpre : ∀ vm₁, s.WarmedH vm₁ → Pre ⟨T.setVm vm₁, locs, cells, slots⟩ (Value.ref a :: argsL).toArray) :
    (∃ (v : Option Value) (vm₁ : Vm) (B : Pt), s.WarmedH vm₁ ∧ Stand p l e R s m args below meth c B.U B.locs B.cells B.slots ∧ Post ⟨T.setVm vm₁, locs, cells, slots⟩ (Value.ref a :: argsL).toArray v B ∧
      ∀ target, Steps p.tables e below (B.U.setTop { g with pc := g.pc + 3, stack := v.toList ++ rest }) target → Steps p.tables e below (T.setTop g) target) ∨
    (∃ (q : Addr) (vm₁ : Vm) (B : Pt), s.WarmedH vm₁ ∧ Stand p l e R s m args below meth c B.U B.locs B.cells B.slots ∧ PostX ⟨T.setVm vm₁, locs, cells, slots⟩ (Value.ref a :: argsL).toArray q B ∧
      Steps p.tables e below (T.setTop g) ((B.U.setTop { g with stack := rest }).pushFrame (.throwing q))) := by
  subst hg
  have hpl : e.platform.magicAccessors = ({} : Platform).magicAccessors := by rw [X.admits.platform]
  obtain ⟨mk, methM, cM, kP, vm₁, hnamed, hmethM, hcodeM, -, hlocalsM, -, hkP, -, hW₁, hstep₁⟩ := Steps.initColdArgs (e := e) X.here hexec X.warmed hpl hown hy1 hy hlink hinst hcode (f := g) rfl hlen hstack hdg
  have X₁ := X.noted hW₁
  rcases hK g.method meth c ⟨T.setVm vm₁, locs, cells, slots⟩ { g with stack := rest } (.invokespecial index) mk (Value.ref a :: argsL).toArray X₁ rfl hsize hdg hW (X₁.named hnamed) (hpre vm₁ X₁.warmed) with ⟨v, B, X', hpost, hsteps⟩ | ⟨q, B, X', hpost, hsteps⟩
  · exact Or.inl ⟨v, vm₁, B, X₁.warmed, X', hpost, fun target h => hstep₁ _ fun acts => by rw [doInvoke_state]; exact hsteps.trans h⟩
  · exact Or.inr ⟨q, vm₁, B, X₁.warmed, X', hpost, hstep₁ _ fun acts => by rw [doInvoke_state]; exact hsteps⟩
end VXIA
section VXIB
variable {p : Program} {l : Launch} {e : Env} {R : Room} {s : State} {m : MethodId} {args : Array Value} {below : List Frame} {meth : Method} {c : Code} {H : Heap} {locs : List Loc} {cells slots : Nat}
variable {y : MethodName} {bytes cc : ByteArray} {maxL nL mc ms n index : Nat} {ret : Option FieldType} {ws : List Cond} {rm : Room} {Pc : Array Value → State → Prop} {Qc : Array Value → State → Outcome → State → Prop} {XC : String → State → State → Prop} {free : Addr → Prop} {Ts : List Cond} {own C : String} {b : Addr} {As rest : List Value} {g : JFrame}
theorem vx_runI (S : CallFix p m c cc nL s args Ts own) (hM : vx_Met l y ws rm Pc Qc XC mc ms free) (cw : CallB R s args own index y bytes maxL none ws rm mc ms n ∧ y.name = "<init>" ∧ (Cond.instanceMethod y).before args s = true) (hp : PreS s H Pc (.ref b :: As))
    (hg : g.method = m) (hn : As.length = n) (hsize : g.locals.size = nL) (hstack : g.stack = As.reverse ++ .ref b :: rest) (hW : 2 * g.monitorRoom + (rest.map fun v => v.category).sum ≤ 8) (hdg : decode cc g.pc = .ok (.invokespecial index, 3)) (hf : cells + mc ≤ R.cells ∧ slots + ms ≤ R.slots) :
    vx_Run p l e R s m args below meth c H locs cells slots mc ms g rest (Qc (Value.ref b :: As).toArray) XC free := by
  have hK : vx_Back l R p e below s args y 3 8 (PreOf R mc ms Pc) (PostOf Qc mc ms free) (vx_Post XC mc ms free) := vx_callBack cw.1 hM hp.1
  obtain ⟨⟨-, -, -, -, -, -, hcode, -, hy, hlen, hl⟩, hy1, hin⟩ := cw
  obtain ⟨hx, hb, hml, ho, -⟩ := S
  have hPc := hp.2
  intro T hT X
  rcases vx_callI X hx (bytes := bytes) (maxL := maxL) ho hy1 hl hin hcode hy hK hg (hsize.trans hml.symm) (a := b) (argsL := As) (rest := rest) (fun sig h => hn.trans (hlen sig h)) hstack hW (by rw [hb]; exact hdg)
    (fun vm₁ hW₁ => ⟨hf.1, hf.2, hPc (T.setVm vm₁) hT hW₁⟩) with ⟨v, vm₁, ⟨U', l2, c2, s2⟩, hW₁, X', ⟨g', mk, t, L, e1, e2, hq, h1, hL, h2, h3⟩, st⟩ | ⟨q, vm₁, ⟨U', l2, c2, s2⟩, hW₁, X', ⟨g', mk, t, L, E, ce, e1, e2, hq, hce, hcv, hcl, h1, hL, h2, h3⟩, st⟩
  · dsimp only [Pt.U, Pt.locs, Pt.cells, Pt.slots] at X' e1 e2 h1 h2 h3 st
    subst h1; subst h2; subst h3
    exact Or.inl ⟨v, (T.setVm vm₁).calling g' mk (Value.ref b :: As).toArray, t, U', L, hT, X', hL, e1, e2, hq, st⟩
  · dsimp only [Pt.U, Pt.locs, Pt.cells, Pt.slots] at X' e1 e2 h1 h2 h3 st hcl
    subst h1; subst h2; subst h3
    exact Or.inr ⟨q, (T.setVm vm₁).calling g' mk (Value.ref b :: As).toArray, t, U', L, E, ce, hT, X', hL, e1, e2, hq, hce, hcv, vx_cls hW₁ hcl, st⟩
end VXIB
/-! ===== END ===== -/
/-! ===== BEGIN a private constructor of a nest mate that throws ===== -/
section VXIC
variable {p : Program} {l : Launch} {e : Env} {R : Room} {s : State} {m : MethodId} {args : Array Value} {below : List Frame} {meth : Method} {c : Code} {T : State} {locs : List Loc} {cells slots : Nat}
theorem vx_callIN (X : Stand p l e R s m args below meth c T locs cells slots) (hexec : p.tables.exec = Jvm.exec) {own : String} {index : Nat} {host : String} {y : MethodName} {bytes : ByteArray} {maxL : Nat}
    (hown : s.vm.findClass own = some m.cls) (hy1 : y.name = "<init>") (hlink : (Cond.methodLinkNest own index y host).before args s = true) (hinst : (Cond.instanceMethod y).before args s = true)
    (hcode : (Cond.code y bytes maxL none).before args s = true) (hy : y.cls ≠ "java/lang/invoke/MethodHandle" ∧ y.cls ≠ "java/lang/invoke/VarHandle")
    {W9 : Nat} {Pre : Pt → Array Value → Prop} {Post : Pt → Array Value → Option Value → Pt → Prop} {PostX : Pt → Array Value → Addr → Pt → Prop} (hK : vx_Back l R p e below s args y 3 W9 Pre Post PostX)
    {g : JFrame} (hg : g.method = m) (hsize : g.locals.size = c.maxLocals) {a : Addr} {argsL rest : List Value} (hlen : ∀ sig, parseMethodDescriptor y.desc = some sig → argsL.length = sig.parameters.length)
    (hstack : g.stack = argsL.reverse ++ .ref a :: rest) (hW : 2 * g.monitorRoom + (rest.map fun v => v.category).sum ≤ W9) (hdg : decode c.code g.pc = .ok (.invokespecial index, 3))
    (hpre : ∀ vm₁, s.WarmedH vm₁ → Pre ⟨T.setVm vm₁, locs, cells, slots⟩ (Value.ref a :: argsL).toArray) :
    (∃ (v : Option Value) (vm₁ : Vm) (B : Pt), s.WarmedH vm₁ ∧ Stand p l e R s m args below meth c B.U B.locs B.cells B.slots ∧ Post ⟨T.setVm vm₁, locs, cells, slots⟩ (Value.ref a :: argsL).toArray v B ∧
      ∀ target, Steps p.tables e below (B.U.setTop { g with pc := g.pc + 3, stack := v.toList ++ rest }) target → Steps p.tables e below (T.setTop g) target) ∨
    (∃ (q : Addr) (vm₁ : Vm) (B : Pt), s.WarmedH vm₁ ∧ Stand p l e R s m args below meth c B.U B.locs B.cells B.slots ∧ PostX ⟨T.setVm vm₁, locs, cells, slots⟩ (Value.ref a :: argsL).toArray q B ∧
      Steps p.tables e below (T.setTop g) ((B.U.setTop { g with stack := rest }).pushFrame (.throwing q))) := by
  subst hg
  have hpl : e.platform.magicAccessors = ({} : Platform).magicAccessors := by rw [X.admits.platform]
  obtain ⟨mk, methM, cM, kP, vm₁, hnamed, hmethM, hcodeM, -, hlocalsM, -, hkP, -, hW₁, hstep₁⟩ := Steps.initColdArgsNest (e := e) X.here hexec X.warmed hpl hown hy1 hy hlink hinst hcode (f := g) rfl hlen hstack hdg
  have X₁ := X.noted hW₁
  rcases hK g.method meth c ⟨T.setVm vm₁, locs, cells, slots⟩ { g with stack := rest } (.invokespecial index) mk (Value.ref a :: argsL).toArray X₁ rfl hsize hdg hW (X₁.named hnamed) (hpre vm₁ X₁.warmed) with ⟨v, B, X', hpost, hsteps⟩ | ⟨q, B, X', hpost, hsteps⟩
  · exact Or.inl ⟨v, vm₁, B, X₁.warmed, X', hpost, fun target h => hstep₁ _ fun acts => by rw [doInvoke_state]; exact hsteps.trans h⟩
  · exact Or.inr ⟨q, vm₁, B, X₁.warmed, X', hpost, hstep₁ _ fun acts => by rw [doInvoke_state]; exact hsteps⟩
end VXIC
section VXID
variable {p : Program} {l : Launch} {e : Env} {R : Room} {s : State} {m : MethodId} {args : Array Value} {below : List Frame} {meth : Method} {c : Code} {H : Heap} {locs : List Loc} {cells slots : Nat}
theorem vx_runIN {y : MethodName} {bytes cc : ByteArray} {maxL nL mc ms n index : Nat} {ws : List Cond} {rm : Room} {Pc : Array Value → State → Prop} {Qc : Array Value → State → Outcome → State → Prop} {XC : String → State → State → Prop} {free : Addr → Prop} {Ts : List Cond} {own host : String} {b : Addr} {As rest : List Value} {g : JFrame}
    (S : CallFix p m c cc nL s args Ts own) (hM : vx_Met l y ws rm Pc Qc XC mc ms free) (cw : va_CN R s args own index y host bytes maxL none ws rm mc ms n ∧ y.name = "<init>" ∧ (Cond.instanceMethod y).before args s = true) (hp : PreS s H Pc (.ref b :: As))
    (hg : g.method = m) (hn : As.length = n) (hsize : g.locals.size = nL) (hstack : g.stack = As.reverse ++ .ref b :: rest) (hW : 2 * g.monitorRoom + (rest.map fun v => v.category).sum ≤ 8) (hdg : decode cc g.pc = .ok (.invokespecial index, 3)) (hf : cells + mc ≤ R.cells ∧ slots + ms ≤ R.slots) :
    vx_Run p l e R s m args below meth c H locs cells slots mc ms g rest (Qc (Value.ref b :: As).toArray) XC free := by
  obtain ⟨⟨⟨hrc, hrs, hfr, hlo, hws, hcw⟩, hcode, hini, hy, hlen, hl⟩, hx1, hx2⟩ := cw
  have hK : vx_Back l R p e below s args y 3 8 (PreOf R mc ms Pc) (PostOf Qc mc ms free) (vx_Post XC mc ms free) := vx_back (bytes := bytes) (maxL := maxL) (ret := none) hM hp.1 hrc hrs hfr hlo hws hcw (fun a' U hW => word_at hW (Or.inl (by first | rfl | simp [Cond.onTables, Cond.keeps, Cond.steady])) hini)
  obtain ⟨hx, hb, hml, ho, -⟩ := S
  have hPc := hp.2
  intro T hT X
  rcases vx_callIN X hx (bytes := bytes) (maxL := maxL) ho hx1 hl hx2 hcode hy hK hg (hsize.trans hml.symm) (a := b) (argsL := As) (rest := rest) (fun sig h => hn.trans (hlen sig h)) hstack hW (by rw [hb]; exact hdg)
    (fun vm₁ hW₁ => ⟨hf.1, hf.2, hPc (T.setVm vm₁) hT hW₁⟩) with ⟨v, vm₁, ⟨U', l2, c2, s2⟩, hW₁, X', ⟨g', mk, t, L, e1, e2, hq, h1, hL, h2, h3⟩, st⟩ | ⟨q, vm₁, ⟨U', l2, c2, s2⟩, hW₁, X', ⟨g', mk, t, L, E, ce, e1, e2, hq, hce, hcv, hcl, h1, hL, h2, h3⟩, st⟩
  · dsimp only [Pt.U, Pt.locs, Pt.cells, Pt.slots] at X' e1 e2 h1 h2 h3 st
    subst h1; subst h2; subst h3
    exact Or.inl ⟨v, (T.setVm vm₁).calling g' mk (Value.ref b :: As).toArray, t, U', L, hT, X', hL, e1, e2, hq, st⟩
  · dsimp only [Pt.U, Pt.locs, Pt.cells, Pt.slots] at X' e1 e2 h1 h2 h3 st hcl
    subst h1; subst h2; subst h3
    exact Or.inr ⟨q, (T.setVm vm₁).calling g' mk (Value.ref b :: As).toArray, t, U', L, E, ce, hT, X', hL, e1, e2, hq, hce, hcv, vx_cls hW₁ hcl, st⟩
end VXID
/-! ===== BEGIN a private method of a nest mate that may throw (follows va_callVN, va_callSN, va_runVN, va_runSN) ===== -/
section
variable {p : Program} {l : Launch} {e : Env} {R : Room} {s : State} {m : MethodId} {args : Array Value} {below : List Frame} {meth : Method} {c : Code} {H : Heap} {locs : List Loc} {cells slots : Nat}
variable {T : State}
theorem vx_callVN (X : Stand p l e R s m args below meth c T locs cells slots) (hexec : p.tables.exec = Jvm.exec) {own C : String} {index : Nat} {host : String} {y : MethodName} {bytes : ByteArray} {maxL : Nat} {ret : Option FieldType}
    (hown : s.vm.findClass own = some m.cls) (hlink : (Cond.methodLinkNest own index y host).before args s = true) (hinst : (Cond.instanceMethod y).before args s = true) (hsel : (Cond.selects C y y).before args s = true)
    (hcode : (Cond.code y bytes maxL ret).before args s = true) (hy : y.cls ≠ "java/lang/invoke/MethodHandle" ∧ y.cls ≠ "java/lang/invoke/VarHandle")
    {W : Nat} {Pre : Pt → Array Value → Prop} {Post : Pt → Array Value → Option Value → Pt → Prop} {PostX : Pt → Array Value → Addr → Pt → Prop} (hK : vx_Back l R p e below s args y 3 W Pre Post PostX)
    {b : Addr} {cellB : Cell} (hcell : T.heap[b]? = some cellB) (hobj : cellB.vm.isStatics = false) (hcls : s.vm.findClass C = some cellB.cls)
    {g : JFrame} (hg : g.method = m) (hsize : g.locals.size = c.maxLocals) {argsL rest : List Value} (hlen : ∀ sig, parseMethodDescriptor y.desc = some sig → argsL.length = sig.parameters.length)
    (hstack : g.stack = argsL.reverse ++ .ref b :: rest) (hW : 2 * g.monitorRoom + (rest.map fun v => v.category).sum ≤ W) (hdg : decode c.code g.pc = .ok (.invokevirtual index, 3))
    (hpre : ∀ vm₁, s.WarmedH vm₁ → Pre ⟨T.setVm vm₁, locs, cells, slots⟩ (Value.ref b :: argsL).toArray) :
    (∃ (v : Option Value) (vm₁ : Vm) (B : Pt), s.WarmedH vm₁ ∧ Stand p l e R s m args below meth c B.U B.locs B.cells B.slots ∧ Post ⟨T.setVm vm₁, locs, cells, slots⟩ (Value.ref b :: argsL).toArray v B ∧
      ∀ target, Steps p.tables e below (B.U.setTop { g with pc := g.pc + 3, stack := v.toList ++ rest }) target → Steps p.tables e below (T.setTop g) target) ∨
    (∃ (q : Addr) (vm₁ : Vm) (B : Pt), s.WarmedH vm₁ ∧ Stand p l e R s m args below meth c B.U B.locs B.cells B.slots ∧ PostX ⟨T.setVm vm₁, locs, cells, slots⟩ (Value.ref b :: argsL).toArray q B ∧
      Steps p.tables e below (T.setTop g) ((B.U.setTop { g with stack := rest }).pushFrame (.throwing q))) := by
  obtain ⟨mk, methM, hnamed, hmethM, hstM, habM⟩ := Cond.instanceMethod_spec hinst
  obtain ⟨methM', cM, hmethM', -, -, -, -, -, -, hsigM⟩ := Cond.code_spec hnamed hcode
  cases hmethM.symm.trans hmethM'
  obtain ⟨c2, r2, m2, q1, q2, q3, q4, kP, hkP, hkPi⟩ := Cond.selects_spec hsel
  cases hcls.symm.trans q1
  cases (State.methodFound?_of_named hnamed hy).symm.trans q2
  cases hnamed.symm.trans q3
  have hselP : selectMethod e.platform s.vm cellB.cls mk = .method mk := by rw [Launch.admits_selectMethod X.admits]; exact q4
  obtain ⟨vm₁, X₁, hstep₁⟩ := X.invokevirtualNest hexec hown hlink hnamed hmethM hstM hkP hkPi hy (a := b) (cell := cellB) hcell
    (fun z h => by rw [h] at hobj; cases hobj) hselP hmethM habM hkP hkPi (g := g) hg (argsL := argsL) (rest := rest) (hlen _ hsigM) hstack hdg
  rcases hK m meth c ⟨T.setVm vm₁, locs, cells, slots⟩ { g with stack := rest } (.invokevirtual index) mk (Value.ref b :: argsL).toArray X₁ hg hsize hdg hW (X₁.named hnamed) (hpre vm₁ X₁.warmed) with ⟨v, B, X', hpost, hsteps⟩ | ⟨q, B, X', hpost, hsteps⟩
  · exact Or.inl ⟨v, vm₁, B, X₁.warmed, X', hpost, fun target h => hstep₁ _ fun acts => by rw [doInvoke_state]; exact hsteps.trans h⟩
  · exact Or.inr ⟨q, vm₁, B, X₁.warmed, X', hpost, hstep₁ _ fun acts => by rw [doInvoke_state]; exact hsteps⟩
theorem vx_callSN (X : Stand p l e R s m args below meth c T locs cells slots) (hexec : p.tables.exec = Jvm.exec) {own : String} {index : Nat} {host : String} {y : MethodName} {bytes : ByteArray} {maxL : Nat} {ret : Option FieldType}
    (hown : s.vm.findClass own = some m.cls) (hlink : (Cond.methodLinkNest own index y host).before args s = true) (hstat : (Cond.static y).before args s = true) (hinit : (Cond.initialized y.cls).before args s = true)
    (hcode : (Cond.code y bytes maxL ret).before args s = true) (hy : y.cls ≠ "java/lang/invoke/MethodHandle" ∧ y.cls ≠ "java/lang/invoke/VarHandle")
    {W : Nat} {Pre : Pt → Array Value → Prop} {Post : Pt → Array Value → Option Value → Pt → Prop} {PostX : Pt → Array Value → Addr → Pt → Prop} (hK : vx_Back l R p e below s args y 3 W Pre Post PostX)
    {g : JFrame} (hg : g.method = m) (hsize : g.locals.size = c.maxLocals) {argsL rest : List Value} (hlen : ∀ sig, parseMethodDescriptor y.desc = some sig → argsL.length = sig.parameters.length)
    (hstack : g.stack = argsL.reverse ++ rest) (hW : 2 * g.monitorRoom + (rest.map fun v => v.category).sum ≤ W) (hdg : decode c.code g.pc = .ok (.invokestatic index, 3))
    (hpre : ∀ vm₁, s.WarmedH vm₁ → Pre ⟨T.setVm vm₁, locs, cells, slots⟩ argsL.toArray) :
    (∃ (v : Option Value) (vm₁ : Vm) (B : Pt), s.WarmedH vm₁ ∧ Stand p l e R s m args below meth c B.U B.locs B.cells B.slots ∧ Post ⟨T.setVm vm₁, locs, cells, slots⟩ argsL.toArray v B ∧
      ∀ target, Steps p.tables e below (B.U.setTop { g with pc := g.pc + 3, stack := v.toList ++ rest }) target → Steps p.tables e below (T.setTop g) target) ∨
    (∃ (q : Addr) (vm₁ : Vm) (B : Pt), s.WarmedH vm₁ ∧ Stand p l e R s m args below meth c B.U B.locs B.cells B.slots ∧ PostX ⟨T.setVm vm₁, locs, cells, slots⟩ argsL.toArray q B ∧
      Steps p.tables e below (T.setTop g) ((B.U.setTop { g with stack := rest }).pushFrame (.throwing q))) := by
  obtain ⟨mk, hnamed⟩ := Cond.code_named hcode
  obtain ⟨methM, cM, hmethM, -, -, -, -, -, -, hsigM⟩ := Cond.code_spec hnamed hcode
  have hstatic : methM.isStatic = true := Cond.static_spec hnamed hmethM hstat
  obtain ⟨kP, hkP, -⟩ := className_of_methodNamed hnamed
  have hinitP : kP.init = .initialized := Cond.initialized_spec (findClass_of_methodNamed hnamed) hkP hinit
  obtain ⟨vm₁, X₁, hstep₁⟩ := X.invokestaticNest hexec hown hlink hnamed hmethM hstatic hkP hinitP hy (g := g) hg (argsL := argsL) (rest := rest) (hlen _ hsigM) hstack hdg
  rcases hK m meth c ⟨T.setVm vm₁, locs, cells, slots⟩ { g with stack := rest } (.invokestatic index) mk argsL.toArray X₁ hg hsize hdg hW (X₁.named hnamed) (hpre vm₁ X₁.warmed) with ⟨v, B, X', hpost, hsteps⟩ | ⟨q, B, X', hpost, hsteps⟩
  · exact Or.inl ⟨v, vm₁, B, X₁.warmed, X', hpost, fun target h => hstep₁ _ fun acts => by rw [doInvoke_state]; exact hsteps.trans h⟩
  · exact Or.inr ⟨q, vm₁, B, X₁.warmed, X', hpost, hstep₁ _ fun acts => by rw [doInvoke_state]; exact hsteps⟩
theorem vx_runVN {y : MethodName} {bytes cc : ByteArray} {maxL nL mc ms n index : Nat} {ret : Option FieldType} {ws : List Cond} {rm : Room} {Pc : Array Value → State → Prop} {Qc : Array Value → State → Outcome → State → Prop} {XC : String → State → State → Prop} {free : Addr → Prop} {Ts : List Cond} {own C host : String} {b : Addr} {As rest : List Value} {g : JFrame}
    (S : CallFix p m c cc nL s args Ts own) (hM : vx_Met l y ws rm Pc Qc XC mc ms free) (cw : va_CN R s args own index y host bytes maxL ret ws rm mc ms n ∧ (Cond.instanceMethod y).before args s = true ∧ (Cond.selects C y y).before args s = true) (hp : PreV s H C b Pc As)
    (hg : g.method = m) (hn : As.length = n) (hsize : g.locals.size = nL) (hstack : g.stack = As.reverse ++ .ref b :: rest) (hW : 2 * g.monitorRoom + (rest.map fun v => v.category).sum ≤ 8) (hdg : decode cc g.pc = .ok (.invokevirtual index, 3)) (hf : cells + mc ≤ R.cells ∧ slots + ms ≤ R.slots) :
    vx_Run p l e R s m args below meth c H locs cells slots mc ms g rest (Qc (Value.ref b :: As).toArray) XC free := by
  obtain ⟨⟨⟨hrc, hrs, hfr, hlo, hws, hcw⟩, hcode, hini, hy, hlen, hl⟩, hx1, hx2⟩ := cw
  have hK : vx_Back l R p e below s args y 3 8 (PreOf R mc ms Pc) (PostOf Qc mc ms free) (vx_Post XC mc ms free) := vx_back (bytes := bytes) (maxL := maxL) (ret := ret) hM hp.1 hrc hrs hfr hlo hws hcw (fun a' U hW => word_at hW (Or.inl (by first | rfl | simp [Cond.onTables, Cond.keeps, Cond.steady])) hini)
  obtain ⟨hx, hb, hml, ho, -⟩ := S
  obtain ⟨-, ⟨cellB, hcB, hoB, hclB⟩, hPc⟩ := hp
  intro T hT X
  rcases vx_callVN X hx (C := C) (bytes := bytes) (maxL := maxL) (ret := ret) ho hl hx1 hx2 hcode hy hK (by rw [hT]; exact hcB) hoB hclB hg (hsize.trans hml.symm) (argsL := As) (rest := rest) (fun sig h => hn.trans (hlen sig h)) hstack hW (by rw [hb]; exact hdg)
    (fun vm₁ hW₁ => ⟨hf.1, hf.2, hPc (T.setVm vm₁) hT hW₁⟩) with ⟨v, vm₁, ⟨U', l2, c2, s2⟩, hW₁, X', ⟨g', mk, t, L, e1, e2, hq, h1, hL, h2, h3⟩, st⟩ | ⟨q, vm₁, ⟨U', l2, c2, s2⟩, hW₁, X', ⟨g', mk, t, L, E, ce, e1, e2, hq, hce, hcv, hcl, h1, hL, h2, h3⟩, st⟩
  · dsimp only [Pt.U, Pt.locs, Pt.cells, Pt.slots] at X' e1 e2 h1 h2 h3 st
    subst h1; subst h2; subst h3
    exact Or.inl ⟨v, (T.setVm vm₁).calling g' mk (Value.ref b :: As).toArray, t, U', L, hT, X', hL, e1, e2, hq, st⟩
  · dsimp only [Pt.U, Pt.locs, Pt.cells, Pt.slots] at X' e1 e2 h1 h2 h3 st hcl
    subst h1; subst h2; subst h3
    exact Or.inr ⟨q, (T.setVm vm₁).calling g' mk (Value.ref b :: As).toArray, t, U', L, E, ce, hT, X', hL, e1, e2, hq, hce, hcv, vx_cls hW₁ hcl, st⟩
theorem vx_runSN {y : MethodName} {bytes cc : ByteArray} {maxL nL mc ms n index : Nat} {ret : Option FieldType} {ws : List Cond} {rm : Room} {Pc : Array Value → State → Prop} {Qc : Array Value → State → Outcome → State → Prop} {XC : String → State → State → Prop} {free : Addr → Prop} {Ts : List Cond} {own host : String} {As rest : List Value} {g : JFrame}
    (S : CallFix p m c cc nL s args Ts own) (hM : vx_Met l y ws rm Pc Qc XC mc ms free) (cw : va_CN R s args own index y host bytes maxL ret ws rm mc ms n ∧ (Cond.static y).before args s = true ∧ True) (hp : PreS s H Pc As)
    (hg : g.method = m) (hn : As.length = n) (hsize : g.locals.size = nL) (hstack : g.stack = As.reverse ++ rest) (hW : 2 * g.monitorRoom + (rest.map fun v => v.category).sum ≤ 8) (hdg : decode cc g.pc = .ok (.invokestatic index, 3)) (hf : cells + mc ≤ R.cells ∧ slots + ms ≤ R.slots) :
    vx_Run p l e R s m args below meth c H locs cells slots mc ms g rest (Qc As.toArray) XC free := by
  obtain ⟨⟨⟨hrc, hrs, hfr, hlo, hws, hcw⟩, hcode, hini, hy, hlen, hl⟩, hx1, hx2⟩ := cw
  have hK : vx_Back l R p e below s args y 3 8 (PreOf R mc ms Pc) (PostOf Qc mc ms free) (vx_Post XC mc ms free) := vx_back (bytes := bytes) (maxL := maxL) (ret := ret) hM hp.1 hrc hrs hfr hlo hws hcw (fun a' U hW => word_at hW (Or.inl (by first | rfl | simp [Cond.onTables, Cond.keeps, Cond.steady])) hini)
  obtain ⟨hx, hb, hml, ho, -⟩ := S
  have hPc := hp.2
  intro T hT X
  rcases vx_callSN X hx (bytes := bytes) (maxL := maxL) (ret := ret) ho hl hx1 hini hcode hy hK hg (hsize.trans hml.symm) (argsL := As) (rest := rest) (fun sig h => hn.trans (hlen sig h)) hstack hW (by rw [hb]; exact hdg)
    (fun vm₁ hW₁ => ⟨hf.1, hf.2, hPc (T.setVm vm₁) hT hW₁⟩) with ⟨v, vm₁, ⟨U', l2, c2, s2⟩, hW₁, X', ⟨g', mk, t, L, e1, e2, hq, h1, hL, h2, h3⟩, st⟩ | ⟨q, vm₁, ⟨U', l2, c2, s2⟩, hW₁, X', ⟨g', mk, t, L, E, ce, e1, e2, hq, hce, hcv, hcl, h1, hL, h2, h3⟩, st⟩
  · dsimp only [Pt.U, Pt.locs, Pt.cells, Pt.slots] at X' e1 e2 h1 h2 h3 st
    subst h1; subst h2; subst h3
    exact Or.inl ⟨v, (T.setVm vm₁).calling g' mk As.toArray, t, U', L, hT, X', hL, e1, e2, hq, st⟩
  · dsimp only [Pt.U, Pt.locs, Pt.cells, Pt.slots] at X' e1 e2 h1 h2 h3 st hcl
    subst h1; subst h2; subst h3
    exact Or.inr ⟨q, (T.setVm vm₁).calling g' mk As.toArray, t, U', L, E, ce, hT, X', hL, e1, e2, hq, hce, hcv, vx_cls hW₁ hcl, st⟩
end
/-! ===== END ===== -/
/-! ===== BEGIN calls by an interface of methods that may throw (vx_callIF, vx_runF follow va_callIF, va_runF of this kit) ===== -/
section
variable {p : Program} {l : Launch} {e : Env} {R : Room} {s : State} {m : MethodId} {args : Array Value} {below : List Frame} {meth : Method} {c : Code} {H : Heap} {locs : List Loc} {cells slots : Nat} {Q : State → Prop}
variable {mc ms : Nat} {free : Addr → Prop} {A0 A1 : Nat → Prop} {H0 : Heap} {a : Array Value} {pc : Nat} {ls : Array Slot} {st0 rest : List Value}
def vx_Run5 (p : Program) (l : Launch) (e : Env) (R : Room) (s : State) (m : MethodId) (args : Array Value) (below : List Frame) (meth : Method) (c : Code) (H : Heap) (locs : List Loc) (cells slots mc ms : Nat) (g : JFrame) (rest : List Value) (Qa : State → Outcome → State → Prop) (XC : String → State → State → Prop) (free : Addr → Prop) : Prop :=
  ∀ T : State, T.heap = H → Stand p l e R s m args below meth c T locs cells slots →
    (∃ (v : Option Value) (st₀ t T' : State) (L : List Loc), st₀.heap = H ∧ Stand p l e R s m args below meth c T' (locs ++ L) (cells + mc) (slots + ms) ∧ (∀ q ∈ L, free q.base) ∧ T'.heap = t.heap ∧ T'.vm = t.vm ∧ Qa st₀ (.returned v) t ∧
      Goes p e below T g T' { g with pc := g.pc + 5, stack := v.toList ++ rest }) ∨
    (∃ (q : Addr) (st₀ t T' : State) (L : List Loc) (E : String) (ce : Cell), st₀.heap = H ∧ Stand p l e R s m args below meth c T' (locs ++ L) (cells + mc) (slots + ms) ∧ (∀ z ∈ L, free z.base) ∧ T'.heap = t.heap ∧ T'.vm = t.vm ∧ XC E st₀ t ∧ t.heap[q]? = some ce ∧ ce.vm = .none ∧ s.vm.findClass E = some ce.cls ∧
      Steps p.tables e below (T.setTop g) ((T'.setTop { g with stack := rest }).pushFrame (.throwing q)))
theorem vx_callIF {T : State} (X : Stand p l e R s m args below meth c T locs cells slots) (hexec : p.tables.exec = Jvm.exec) {own C : String} {index count : Nat} {x y : MethodName} {bytes : ByteArray} {maxL : Nat} {ret : Option FieldType}
    (hown : s.vm.findClass own = some m.cls) (hlink : (Cond.methodLink own index x).before args s = true) (hdecl : (Cond.declares x).before args s = true) (hface : (Cond.interfaceMethod x.cls x.cls x.name x.desc).before args s = true)
    (hsel : (Cond.selects C x y).before args s = true) (hinst : (Cond.instanceMethod y).before args s = true) (hpub : (Cond.publicMethod y).before args s = true) (hunh : (Cond.unhidden C x.name x.desc).before args s = true)
    (hcast : (Cond.castable C x.cls).before args s = true) (hcode : (Cond.code y bytes maxL ret).before args s = true) (hx : x.cls ≠ "java/lang/invoke/MethodHandle" ∧ x.cls ≠ "java/lang/invoke/VarHandle")
    {W9 : Nat} {Pre : Pt → Array Value → Prop} {Post : Pt → Array Value → Option Value → Pt → Prop} {PostX : Pt → Array Value → Addr → Pt → Prop} (hK : vx_Back l R p e below s args y 5 W9 Pre Post PostX)
    {b : Addr} {cellB : Cell} {kB : Class} (hcell : T.heap[b]? = some cellB) (hobj : cellB.vm.isStatics = false) (hcls : s.vm.findClass C = some cellB.cls) (hkB : s.vm.classes[cellB.cls]? = some kB)
    {g : JFrame} (hg : g.method = m) (hsize : g.locals.size = c.maxLocals) {argsL rest : List Value} (hlen : ∀ sig, parseMethodDescriptor x.desc = some sig → argsL.length = sig.parameters.length)
    (hstack : g.stack = argsL.reverse ++ .ref b :: rest) (hW : 2 * g.monitorRoom + (rest.map fun v => v.category).sum ≤ W9) (hdg : decode c.code g.pc = .ok (.invokeinterface index count, 5))
    (hpre : ∀ vm₁, s.WarmedH vm₁ → Pre ⟨T.setVm vm₁, locs, cells, slots⟩ (Value.ref b :: argsL).toArray) :
    (∃ (v : Option Value) (vm₁ : Vm) (B : Pt), s.WarmedH vm₁ ∧ Stand p l e R s m args below meth c B.U B.locs B.cells B.slots ∧ Post ⟨T.setVm vm₁, locs, cells, slots⟩ (Value.ref b :: argsL).toArray v B ∧
      ∀ target, Steps p.tables e below (B.U.setTop { g with pc := g.pc + 5, stack := v.toList ++ rest }) target → Steps p.tables e below (T.setTop g) target) ∨
    (∃ (q : Addr) (vm₁ : Vm) (B : Pt), s.WarmedH vm₁ ∧ Stand p l e R s m args below meth c B.U B.locs B.cells B.slots ∧ PostX ⟨T.setVm vm₁, locs, cells, slots⟩ (Value.ref b :: argsL).toArray q B ∧
      Steps p.tables e below (T.setTop g) ((B.U.setTop { g with stack := rest }).pushFrame (.throwing q))) := by
  obtain ⟨r0, r, hn, hrm, hstR, hsigR⟩ := Cond.declares_spec hdecl
  obtain ⟨cL, kL, r1, hcL, hkL, hiL, hfoundL, hn1⟩ := Cond.interfaceMethod_spec hface
  cases hn.symm.trans hn1
  have hr0cls : r0.cls = cL := Option.some.inj ((findClass_of_methodNamed hn).symm.trans hcL)
  obtain ⟨hnameR, hdescR⟩ := name_of_methodNamed hn hrm
  obtain ⟨mk, methM, hnamed, hmethM, -, habM⟩ := Cond.instanceMethod_spec hinst
  obtain ⟨c2, r2, m2, q1, q2, q3, q4, -⟩ := Cond.selects_spec hsel
  cases hcls.symm.trans q1
  cases hfoundL.symm.trans q2
  cases hnamed.symm.trans q3
  have hselP : selectMethod e.platform s.vm cellB.cls r0 = .method mk := by rw [Launch.admits_selectMethod X.admits]; exact q4
  have hpubM : hasFlag methM.accessFlags Acc.public_ = true := Cond.publicMethod_spec hnamed hmethM hpub
  have hway : ((cellB.cls :: s.vm.superclasses cellB.cls).any fun k => (declaredIn s.vm r.name r.desc k).any fun (_, z) => z.isPrivate || z.isStatic) = false := by
    rw [hnameR, hdescR]; exact Cond.unhidden_spec hcls hunh
  obtain ⟨c3, t3, w1, w2, w3⟩ := Cond.castable_spec hcast
  cases hcls.symm.trans w1
  cases hcL.symm.trans w2
  obtain ⟨vm₁, X₁, hstep₁⟩ := X.invokeinterface hexec hown hlink hn hrm hstR (by rw [hr0cls]; exact hkL) hiL hx (a := b) (cell := cellB) (kcell := kB) hcell
    (fun z h => by rw [h] at hobj; cases hobj) hkB (by rw [hr0cls]; exact w3) hselP hmethM hway hpubM habM (g := g) hg (argsL := argsL) (rest := rest) (hlen _ hsigR) hstack hdg
  rcases hK m meth c ⟨T.setVm vm₁, locs, cells, slots⟩ { g with stack := rest } (.invokeinterface index count) mk (Value.ref b :: argsL).toArray X₁ hg hsize hdg hW (X₁.named hnamed) (hpre vm₁ X₁.warmed) with ⟨v, B, X', hpost, hsteps⟩ | ⟨q, B, X', hpost, hsteps⟩
  · exact Or.inl ⟨v, vm₁, B, X₁.warmed, X', hpost, fun target h => hstep₁ _ fun acts => by rw [doInvoke_state]; exact hsteps.trans h⟩
  · exact Or.inr ⟨q, vm₁, B, X₁.warmed, X', hpost, hstep₁ _ fun acts => by rw [doInvoke_state]; exact hsteps⟩
theorem vx_runF {x y : MethodName} {bytes cc : ByteArray} {maxL nL mc ms n index count : Nat} {ret : Option FieldType} {ws : List Cond} {rm : Room} {Pc : Array Value → State → Prop} {Qc : Array Value → State → Outcome → State → Prop} {XC : String → State → State → Prop} {free : Addr → Prop} {Ts : List Cond} {own C : String} {cC : ClassId} {b : Addr} {As rest : List Value} {g : JFrame}
    (hat : ClassAt s C cC) (S : CallFix p m c cc nL s args Ts own) (hM : vx_Met l y ws rm Pc Qc XC mc ms free) (cw : va_CI R s args own C index x y bytes maxL ret ws rm mc ms n) (hp : PreV s H C b Pc As)
    (hg : g.method = m) (hn : As.length = n) (hsize : g.locals.size = nL) (hstack : g.stack = As.reverse ++ .ref b :: rest) (hW : 2 * g.monitorRoom + (rest.map fun v => v.category).sum ≤ 8) (hdg : decode cc g.pc = .ok (.invokeinterface index count, 5)) (hf : cells + mc ≤ R.cells ∧ slots + ms ≤ R.slots) :
    vx_Run5 p l e R s m args below meth c H locs cells slots mc ms g rest (Qc (Value.ref b :: As).toArray) XC free := by
  obtain ⟨hrc, hrs, hfr, hlo, hws, hcw⟩ := cw.back
  have hini := cw.init
  have hK : vx_Back l R p e below s args y 5 8 (PreOf R mc ms Pc) (PostOf Qc mc ms free) (vx_Post XC mc ms free) := vx_back (bytes := bytes) (maxL := maxL) (ret := ret) hM hp.1 hrc hrs hfr hlo hws hcw (fun a' U hW => word_at hW (Or.inl (by first | rfl | simp [Cond.onTables, Cond.keeps, Cond.steady])) hini)
  obtain ⟨hx, hb, hml, ho, -⟩ := S
  obtain ⟨-, ⟨cellB, hcB, hoB, hclB⟩, hPc⟩ := hp
  obtain ⟨hfc, kB, hkB, -⟩ := hat
  cases hfc.symm.trans hclB
  intro T hT X
  rcases vx_callIF X hx (C := C) (bytes := bytes) (maxL := maxL) (ret := ret) ho cw.link cw.decl cw.face cw.sel cw.inst cw.pub cw.unh cw.cast cw.code cw.notMH hK (by rw [hT]; exact hcB) hoB hclB hkB hg (hsize.trans hml.symm) (argsL := As) (rest := rest) (fun sig h => hn.trans (cw.len sig h)) hstack hW (by rw [hb]; exact hdg)
    (fun vm₁ hW₁ => ⟨hf.1, hf.2, hPc (T.setVm vm₁) hT hW₁⟩) with ⟨v, vm₁, ⟨U', l2, c2, s2⟩, hW₁, X', ⟨g', mk, t, L, e1, e2, hq, h1, hL, h2, h3⟩, st⟩ | ⟨q, vm₁, ⟨U', l2, c2, s2⟩, hW₁, X', ⟨g', mk, t, L, E, ce, e1, e2, hq, hce, hcv, hcl, h1, hL, h2, h3⟩, st⟩
  · dsimp only [Pt.U, Pt.locs, Pt.cells, Pt.slots] at X' e1 e2 h1 h2 h3 st
    subst h1; subst h2; subst h3
    exact Or.inl ⟨v, (T.setVm vm₁).calling g' mk (Value.ref b :: As).toArray, t, U', L, hT, X', hL, e1, e2, hq, st⟩
  · dsimp only [Pt.U, Pt.locs, Pt.cells, Pt.slots] at X' e1 e2 h1 h2 h3 st hcl
    subst h1; subst h2; subst h3
    exact Or.inr ⟨q, (T.setVm vm₁).calling g' mk (Value.ref b :: As).toArray, t, U', L, E, ce, hT, X', hL, e1, e2, hq, hce, hcv, vx_cls hW₁ hcl, st⟩
theorem vx_callFv {S SX : Type} {post : S → Prop} {px : SX → Prop} {B : S → State → Prop} {BX : String → SX → State → Prop} {AX : Nat → Prop} (hr : vx_Run5 p l e R s m args below meth c H locs cells slots mc ms (F0 m pc ls st0) rest (va_Qv post B A1 a) (vx_X px BX AX) free) (hS : va_S A0 H0 H locs) (hA : ∀ q, q < H.size → A1 q → A0 q) (hf : ∀ q, free q → A0 q) (hAX : ∀ q, q < H.size → AX q → A0 q)
    (kx : ∀ (E : String) (ce : Cell) (q9 : Addr) (u : SX) (t : State) (H1 : Heap) (locs1 : List Loc), t.heap = H1 → s.vm.Alike t.vm → px u → BX E u t → H.size ≤ H1.size → (∀ q : Nat, q < H.size → ¬ AX q → H1[q]? = H[q]?) → va_S A0 H0 H1 locs1 → H1[q9]? = some ce → ce.vm = .none → s.vm.findClass E = some ce.cls → vx_W p l e R s m args below meth c H1 locs1 (cells + mc) (slots + ms) Q (F0 m pc ls rest) q9)
    (kk : ∀ (u : S) (t : State) (H1 : Heap) (locs1 : List Loc), t.heap = H1 → s.vm.Alike t.vm → post u → B u t → H.size ≤ H1.size → (∀ q : Nat, q < H.size → ¬ A1 q → H1[q]? = H[q]?) → va_S A0 H0 H1 locs1 → W p l e R s m args below meth c H1 locs1 (cells + mc) (slots + ms) Q (F0 m (pc + 5) ls (rest))) : W p l e R s m args below meth c H locs cells slots Q (F0 m pc ls st0) := by
  intro T hT X
  rcases hr T hT X with ⟨v, st₀, t, T', L, h0, X', hL, e1, e2, ⟨⟨u, hv, hp, hb⟩, hF⟩, st⟩ | ⟨q, st₀, t, T', L, E, ce, h0, X', hL, e1, e2, ⟨u, hp, hb, hF⟩, hce, hcv, hcl, st⟩
  · cases hv
    obtain ⟨k1, k2, k3⟩ := vx_keep h0 e1 hS hA hf hL hF
    obtain ⟨t2, a1, b1⟩ := kk u t T'.heap (locs ++ L) e1.symm (by rw [← e2]; exact X'.warmed.alike) hp hb k1 k2 k3 T' rfl X'
    exact ⟨t2, st t2 a1, b1⟩
  · obtain ⟨k1, k2, k3⟩ := vx_keep h0 e1 hS hAX hf hL hF
    obtain ⟨t2, a1, b1⟩ := kx E ce q u t T'.heap (locs ++ L) e1.symm (by rw [← e2]; exact X'.warmed.alike) hp hb k1 k2 k3 (by rw [e1]; exact hce) hcv hcl T' rfl X'
    exact ⟨t2, st.trans a1, b1⟩
theorem vx_callFi {S SX : Type} {post : Int32 → S → Prop} {px : SX → Prop} {B : S → State → Prop} {BX : String → SX → State → Prop} {AX : Nat → Prop} (hr : vx_Run5 p l e R s m args below meth c H locs cells slots mc ms (F0 m pc ls st0) rest (va_Qi post B A1 a) (vx_X px BX AX) free) (hS : va_S A0 H0 H locs) (hA : ∀ q, q < H.size → A1 q → A0 q) (hf : ∀ q, free q → A0 q) (hAX : ∀ q, q < H.size → AX q → A0 q)
    (kx : ∀ (E : String) (ce : Cell) (q9 : Addr) (u : SX) (t : State) (H1 : Heap) (locs1 : List Loc), t.heap = H1 → s.vm.Alike t.vm → px u → BX E u t → H.size ≤ H1.size → (∀ q : Nat, q < H.size → ¬ AX q → H1[q]? = H[q]?) → va_S A0 H0 H1 locs1 → H1[q9]? = some ce → ce.vm = .none → s.vm.findClass E = some ce.cls → vx_W p l e R s m args below meth c H1 locs1 (cells + mc) (slots + ms) Q (F0 m pc ls rest) q9)
    (kk : ∀ (r : Int32) (u : S) (t : State) (H1 : Heap) (locs1 : List Loc), t.heap = H1 → s.vm.Alike t.vm → post r u → B u t → H.size ≤ H1.size → (∀ q : Nat, q < H.size → ¬ A1 q → H1[q]? = H[q]?) → va_S A0 H0 H1 locs1 → W p l e R s m args below meth c H1 locs1 (cells + mc) (slots + ms) Q (F0 m (pc + 5) ls (.int r :: rest))) : W p l e R s m args below meth c H locs cells slots Q (F0 m pc ls st0) := by
  intro T hT X
  rcases hr T hT X with ⟨v, st₀, t, T', L, h0, X', hL, e1, e2, ⟨⟨r, u, hv, hp, hb⟩, hF⟩, st⟩ | ⟨q, st₀, t, T', L, E, ce, h0, X', hL, e1, e2, ⟨u, hp, hb, hF⟩, hce, hcv, hcl, st⟩
  · cases hv
    obtain ⟨k1, k2, k3⟩ := vx_keep h0 e1 hS hA hf hL hF
    obtain ⟨t2, a1, b1⟩ := kk r u t T'.heap (locs ++ L) e1.symm (by rw [← e2]; exact X'.warmed.alike) hp hb k1 k2 k3 T' rfl X'
    exact ⟨t2, st t2 a1, b1⟩
  · obtain ⟨k1, k2, k3⟩ := vx_keep h0 e1 hS hAX hf hL hF
    obtain ⟨t2, a1, b1⟩ := kx E ce q u t T'.heap (locs ++ L) e1.symm (by rw [← e2]; exact X'.warmed.alike) hp hb k1 k2 k3 (by rw [e1]; exact hce) hcv hcl T' rfl X'
    exact ⟨t2, st.trans a1, b1⟩
theorem vx_callFl {S SX : Type} {post : Int64 → S → Prop} {px : SX → Prop} {B : S → State → Prop} {BX : String → SX → State → Prop} {AX : Nat → Prop} (hr : vx_Run5 p l e R s m args below meth c H locs cells slots mc ms (F0 m pc ls st0) rest (va_Ql post B A1 a) (vx_X px BX AX) free) (hS : va_S A0 H0 H locs) (hA : ∀ q, q < H.size → A1 q → A0 q) (hf : ∀ q, free q → A0 q) (hAX : ∀ q, q < H.size → AX q → A0 q)
    (kx : ∀ (E : String) (ce : Cell) (q9 : Addr) (u : SX) (t : State) (H1 : Heap) (locs1 : List Loc), t.heap = H1 → s.vm.Alike t.vm → px u → BX E u t → H.size ≤ H1.size → (∀ q : Nat, q < H.size → ¬ AX q → H1[q]? = H[q]?) → va_S A0 H0 H1 locs1 → H1[q9]? = some ce → ce.vm = .none → s.vm.findClass E = some ce.cls → vx_W p l e R s m args below meth c H1 locs1 (cells + mc) (slots + ms) Q (F0 m pc ls rest) q9)
    (kk : ∀ (r : Int64) (u : S) (t : State) (H1 : Heap) (locs1 : List Loc), t.heap = H1 → s.vm.Alike t.vm → post r u → B u t → H.size ≤ H1.size → (∀ q : Nat, q < H.size → ¬ A1 q → H1[q]? = H[q]?) → va_S A0 H0 H1 locs1 → W p l e R s m args below meth c H1 locs1 (cells + mc) (slots + ms) Q (F0 m (pc + 5) ls (.long r :: rest))) : W p l e R s m args below meth c H locs cells slots Q (F0 m pc ls st0) := by
  intro T hT X
  rcases hr T hT X with ⟨v, st₀, t, T', L, h0, X', hL, e1, e2, ⟨⟨r, u, hv, hp, hb⟩, hF⟩, st⟩ | ⟨q, st₀, t, T', L, E, ce, h0, X', hL, e1, e2, ⟨u, hp, hb, hF⟩, hce, hcv, hcl, st⟩
  · cases hv
    obtain ⟨k1, k2, k3⟩ := vx_keep h0 e1 hS hA hf hL hF
    obtain ⟨t2, a1, b1⟩ := kk r u t T'.heap (locs ++ L) e1.symm (by rw [← e2]; exact X'.warmed.alike) hp hb k1 k2 k3 T' rfl X'
    exact ⟨t2, st t2 a1, b1⟩
  · obtain ⟨k1, k2, k3⟩ := vx_keep h0 e1 hS hAX hf hL hF
    obtain ⟨t2, a1, b1⟩ := kx E ce q u t T'.heap (locs ++ L) e1.symm (by rw [← e2]; exact X'.warmed.alike) hp hb k1 k2 k3 (by rw [e1]; exact hce) hcv hcl T' rfl X'
    exact ⟨t2, st.trans a1, b1⟩
theorem vx_callFf {S SX : Type} {post : UInt32 → S → Prop} {px : SX → Prop} {B : S → State → Prop} {BX : String → SX → State → Prop} {AX : Nat → Prop} (hr : vx_Run5 p l e R s m args below meth c H locs cells slots mc ms (F0 m pc ls st0) rest (va_Qf post B A1 a) (vx_X px BX AX) free) (hS : va_S A0 H0 H locs) (hA : ∀ q, q < H.size → A1 q → A0 q) (hf : ∀ q, free q → A0 q) (hAX : ∀ q, q < H.size → AX q → A0 q)
    (kx : ∀ (E : String) (ce : Cell) (q9 : Addr) (u : SX) (t : State) (H1 : Heap) (locs1 : List Loc), t.heap = H1 → s.vm.Alike t.vm → px u → BX E u t → H.size ≤ H1.size → (∀ q : Nat, q < H.size → ¬ AX q → H1[q]? = H[q]?) → va_S A0 H0 H1 locs1 → H1[q9]? = some ce → ce.vm = .none → s.vm.findClass E = some ce.cls → vx_W p l e R s m args below meth c H1 locs1 (cells + mc) (slots + ms) Q (F0 m pc ls rest) q9)
    (kk : ∀ (r : UInt32) (u : S) (t : State) (H1 : Heap) (locs1 : List Loc), t.heap = H1 → s.vm.Alike t.vm → post r u → B u t → H.size ≤ H1.size → (∀ q : Nat, q < H.size → ¬ A1 q → H1[q]? = H[q]?) → va_S A0 H0 H1 locs1 → W p l e R s m args below meth c H1 locs1 (cells + mc) (slots + ms) Q (F0 m (pc + 5) ls (.float r :: rest))) : W p l e R s m args below meth c H locs cells slots Q (F0 m pc ls st0) := by
  intro T hT X
  rcases hr T hT X with ⟨v, st₀, t, T', L, h0, X', hL, e1, e2, ⟨⟨r, u, hv, hp, hb⟩, hF⟩, st⟩ | ⟨q, st₀, t, T', L, E, ce, h0, X', hL, e1, e2, ⟨u, hp, hb, hF⟩, hce, hcv, hcl, st⟩
  · cases hv
    obtain ⟨k1, k2, k3⟩ := vx_keep h0 e1 hS hA hf hL hF
    obtain ⟨t2, a1, b1⟩ := kk r u t T'.heap (locs ++ L) e1.symm (by rw [← e2]; exact X'.warmed.alike) hp hb k1 k2 k3 T' rfl X'
    exact ⟨t2, st t2 a1, b1⟩
  · obtain ⟨k1, k2, k3⟩ := vx_keep h0 e1 hS hAX hf hL hF
    obtain ⟨t2, a1, b1⟩ := kx E ce q u t T'.heap (locs ++ L) e1.symm (by rw [← e2]; exact X'.warmed.alike) hp hb k1 k2 k3 (by rw [e1]; exact hce) hcv hcl T' rfl X'
    exact ⟨t2, st.trans a1, b1⟩
theorem vx_callFd {S SX : Type} {post : UInt64 → S → Prop} {px : SX → Prop} {B : S → State → Prop} {BX : String → SX → State → Prop} {AX : Nat → Prop} (hr : vx_Run5 p l e R s m args below meth c H locs cells slots mc ms (F0 m pc ls st0) rest (va_Qd post B A1 a) (vx_X px BX AX) free) (hS : va_S A0 H0 H locs) (hA : ∀ q, q < H.size → A1 q → A0 q) (hf : ∀ q, free q → A0 q) (hAX : ∀ q, q < H.size → AX q → A0 q)
    (kx : ∀ (E : String) (ce : Cell) (q9 : Addr) (u : SX) (t : State) (H1 : Heap) (locs1 : List Loc), t.heap = H1 → s.vm.Alike t.vm → px u → BX E u t → H.size ≤ H1.size → (∀ q : Nat, q < H.size → ¬ AX q → H1[q]? = H[q]?) → va_S A0 H0 H1 locs1 → H1[q9]? = some ce → ce.vm = .none → s.vm.findClass E = some ce.cls → vx_W p l e R s m args below meth c H1 locs1 (cells + mc) (slots + ms) Q (F0 m pc ls rest) q9)
    (kk : ∀ (r : UInt64) (u : S) (t : State) (H1 : Heap) (locs1 : List Loc), t.heap = H1 → s.vm.Alike t.vm → post r u → B u t → H.size ≤ H1.size → (∀ q : Nat, q < H.size → ¬ A1 q → H1[q]? = H[q]?) → va_S A0 H0 H1 locs1 → W p l e R s m args below meth c H1 locs1 (cells + mc) (slots + ms) Q (F0 m (pc + 5) ls (.double r :: rest))) : W p l e R s m args below meth c H locs cells slots Q (F0 m pc ls st0) := by
  intro T hT X
  rcases hr T hT X with ⟨v, st₀, t, T', L, h0, X', hL, e1, e2, ⟨⟨r, u, hv, hp, hb⟩, hF⟩, st⟩ | ⟨q, st₀, t, T', L, E, ce, h0, X', hL, e1, e2, ⟨u, hp, hb, hF⟩, hce, hcv, hcl, st⟩
  · cases hv
    obtain ⟨k1, k2, k3⟩ := vx_keep h0 e1 hS hA hf hL hF
    obtain ⟨t2, a1, b1⟩ := kk r u t T'.heap (locs ++ L) e1.symm (by rw [← e2]; exact X'.warmed.alike) hp hb k1 k2 k3 T' rfl X'
    exact ⟨t2, st t2 a1, b1⟩
  · obtain ⟨k1, k2, k3⟩ := vx_keep h0 e1 hS hAX hf hL hF
    obtain ⟨t2, a1, b1⟩ := kx E ce q u t T'.heap (locs ++ L) e1.symm (by rw [← e2]; exact X'.warmed.alike) hp hb k1 k2 k3 (by rw [e1]; exact hce) hcv hcl T' rfl X'
    exact ⟨t2, st.trans a1, b1⟩
end
/-! ===== END ===== -/
end
section
-- ===== PART A: goes FIRST, ahead of the names: the tables' words, and 'selects' of the private methods out of them =====
/-- a private method of a class that the tables say can be made, by its rows of tables_1 -/
def lw_okq (q : MethodName × Nat) : Prop := (q.1.cls ≠ "java/lang/invoke/MethodHandle" ∧ q.1.cls ≠ "java/lang/invoke/VarHandle") ∧ Cond.instantiable q.1.cls q.2 ∈ tables_1 ∧ Cond.privateMethod q.1 ∈ tables_1 ∧ Cond.instanceMethod q.1 ∈ tables_1
theorem lw_p0 : lw_okq (⟨"EchoBureau", "countCertified", "()I"⟩, 8) := ⟨⟨by decide +kernel, by decide +kernel⟩, List.mem_of_getElem? (i := 18) (by decide +kernel), List.mem_of_getElem? (i := 116) (by decide +kernel), List.mem_of_getElem? (i := 117) (by decide +kernel)⟩
theorem lw_p1 : lw_okq (⟨"EchoBureau$Hall", "hasCertificate", "()Z"⟩, 6) := ⟨⟨by decide +kernel, by decide +kernel⟩, List.mem_of_getElem? (i := 122) (by decide +kernel), List.mem_of_getElem? (i := 120) (by decide +kernel), List.mem_of_getElem? (i := 121) (by decide +kernel)⟩
theorem lw_p2 : lw_okq (⟨"EchoBureau$Surface", "hardnessUnder", "(I)I"⟩, 2) := ⟨⟨by decide +kernel, by decide +kernel⟩, List.mem_of_getElem? (i := 143) (by decide +kernel), List.mem_of_getElem? (i := 141) (by decide +kernel), List.mem_of_getElem? (i := 142) (by decide +kernel)⟩
theorem lw_p3 : lw_okq (⟨"EchoBureau", "mixEchoes", "(JLEchoBureau$Hall;)J"⟩, 8) := ⟨⟨by decide +kernel, by decide +kernel⟩, List.mem_of_getElem? (i := 18) (by decide +kernel), List.mem_of_getElem? (i := 149) (by decide +kernel), List.mem_of_getElem? (i := 150) (by decide +kernel)⟩
theorem lw_p4 : lw_okq (⟨"EchoBureau", "tallyOf", "(LEchoBureau$Hall;II)LEchoBureau$Tally;"⟩, 8) := ⟨⟨by decide +kernel, by decide +kernel⟩, List.mem_of_getElem? (i := 18) (by decide +kernel), List.mem_of_getElem? (i := 153) (by decide +kernel), List.mem_of_getElem? (i := 154) (by decide +kernel)⟩
theorem lw_p5 : lw_okq (⟨"EchoBureau$Tally", "begin", "(I)V"⟩, 5) := ⟨⟨by decide +kernel, by decide +kernel⟩, List.mem_of_getElem? (i := 30) (by decide +kernel), List.mem_of_getElem? (i := 157) (by decide +kernel), List.mem_of_getElem? (i := 158) (by decide +kernel)⟩
theorem lw_p6 : lw_okq (⟨"EchoBureau$Hall", "throwBack", "(IIILEchoBureau$Listener;)V"⟩, 6) := ⟨⟨by decide +kernel, by decide +kernel⟩, List.mem_of_getElem? (i := 122) (by decide +kernel), List.mem_of_getElem? (i := 161) (by decide +kernel), List.mem_of_getElem? (i := 162) (by decide +kernel)⟩
theorem lw_p7 : lw_okq (⟨"EchoBureau$Surface", "throwRow", "(IIILEchoBureau$Listener;)V"⟩, 2) := ⟨⟨by decide +kernel, by decide +kernel⟩, List.mem_of_getElem? (i := 143) (by decide +kernel), List.mem_of_getElem? (i := 165) (by decide +kernel), List.mem_of_getElem? (i := 166) (by decide +kernel)⟩
theorem lw_p8 : lw_okq (⟨"EchoBureau", "loudnessesOf", "(LEchoBureau$Hall;I)LEchoBureau$Loudnesses;"⟩, 8) := ⟨⟨by decide +kernel, by decide +kernel⟩, List.mem_of_getElem? (i := 18) (by decide +kernel), List.mem_of_getElem? (i := 186) (by decide +kernel), List.mem_of_getElem? (i := 187) (by decide +kernel)⟩
theorem lw_p9 : lw_okq (⟨"EchoBureau$Loudnesses", "begin", "()V"⟩, 1) := ⟨⟨by decide +kernel, by decide +kernel⟩, List.mem_of_getElem? (i := 60) (by decide +kernel), List.mem_of_getElem? (i := 190) (by decide +kernel), List.mem_of_getElem? (i := 191) (by decide +kernel)⟩
theorem lw_p10 : lw_okq (⟨"EchoBureau$Loudnesses", "momentOfMost", "()I"⟩, 1) := ⟨⟨by decide +kernel, by decide +kernel⟩, List.mem_of_getElem? (i := 60) (by decide +kernel), List.mem_of_getElem? (i := 197) (by decide +kernel), List.mem_of_getElem? (i := 198) (by decide +kernel)⟩
theorem lw_p11 : lw_okq (⟨"EchoBureau", "meetsNow", "(LEchoBureau$Hall;LEchoBureau$Standard;)Z"⟩, 8) := ⟨⟨by decide +kernel, by decide +kernel⟩, List.mem_of_getElem? (i := 18) (by decide +kernel), List.mem_of_getElem? (i := 201) (by decide +kernel), List.mem_of_getElem? (i := 202) (by decide +kernel)⟩
theorem lw_p12 : lw_okq (⟨"EchoBureau", "wouldMeet", "(LEchoBureau$Hall;LEchoBureau$Standard;II)Z"⟩, 8) := ⟨⟨by decide +kernel, by decide +kernel⟩, List.mem_of_getElem? (i := 18) (by decide +kernel), List.mem_of_getElem? (i := 205) (by decide +kernel), List.mem_of_getElem? (i := 206) (by decide +kernel)⟩
theorem lw_p13 : lw_okq (⟨"EchoBureau$Standard", "allows", "(LEchoBureau$Tally;)Z"⟩, 5) := ⟨⟨by decide +kernel, by decide +kernel⟩, List.mem_of_getElem? (i := 211) (by decide +kernel), List.mem_of_getElem? (i := 209) (by decide +kernel), List.mem_of_getElem? (i := 210) (by decide +kernel)⟩
theorem lw_p14 : lw_okq (⟨"java/lang/Throwable", "fillInStackTrace", "(I)Ljava/lang/Throwable;"⟩, 6) := ⟨⟨by decide +kernel, by decide +kernel⟩, List.mem_of_getElem? (i := 267) (by decide +kernel), List.mem_of_getElem? (i := 265) (by decide +kernel), List.mem_of_getElem? (i := 266) (by decide +kernel)⟩
theorem lw_p15 : lw_okq (⟨"EchoBureau", "findHall", "(I)LEchoBureau$Hall;"⟩, 8) := ⟨⟨by decide +kernel, by decide +kernel⟩, List.mem_of_getElem? (i := 18) (by decide +kernel), List.mem_of_getElem? (i := 352) (by decide +kernel), List.mem_of_getElem? (i := 353) (by decide +kernel)⟩
def lw_privs_1 : List (MethodName × Nat) := [(⟨"EchoBureau", "countCertified", "()I"⟩, 8), (⟨"EchoBureau$Hall", "hasCertificate", "()Z"⟩, 6), (⟨"EchoBureau$Surface", "hardnessUnder", "(I)I"⟩, 2), (⟨"EchoBureau", "mixEchoes", "(JLEchoBureau$Hall;)J"⟩, 8), (⟨"EchoBureau", "tallyOf", "(LEchoBureau$Hall;II)LEchoBureau$Tally;"⟩, 8), (⟨"EchoBureau$Tally", "begin", "(I)V"⟩, 5), (⟨"EchoBureau$Hall", "throwBack", "(IIILEchoBureau$Listener;)V"⟩, 6), (⟨"EchoBureau$Surface", "throwRow", "(IIILEchoBureau$Listener;)V"⟩, 2), (⟨"EchoBureau", "loudnessesOf", "(LEchoBureau$Hall;I)LEchoBureau$Loudnesses;"⟩, 8), (⟨"EchoBureau$Loudnesses", "begin", "()V"⟩, 1), (⟨"EchoBureau$Loudnesses", "momentOfMost", "()I"⟩, 1), (⟨"EchoBureau", "meetsNow", "(LEchoBureau$Hall;LEchoBureau$Standard;)Z"⟩, 8), (⟨"EchoBureau", "wouldMeet", "(LEchoBureau$Hall;LEchoBureau$Standard;II)Z"⟩, 8), (⟨"EchoBureau$Standard", "allows", "(LEchoBureau$Tally;)Z"⟩, 5), (⟨"java/lang/Throwable", "fillInStackTrace", "(I)Ljava/lang/Throwable;"⟩, 6), (⟨"EchoBureau", "findHall", "(I)LEchoBureau$Hall;"⟩, 8)]
theorem lw_r1 : ∀ q ∈ lw_privs_1, lw_okq q := List.forall_mem_cons.mpr ⟨lw_p0, List.forall_mem_cons.mpr ⟨lw_p1, List.forall_mem_cons.mpr ⟨lw_p2, List.forall_mem_cons.mpr ⟨lw_p3, List.forall_mem_cons.mpr ⟨lw_p4, List.forall_mem_cons.mpr ⟨lw_p5, List.forall_mem_cons.mpr ⟨lw_p6, List.forall_mem_cons.mpr ⟨lw_p7, List.forall_mem_cons.mpr ⟨lw_p8, List.forall_mem_cons.mpr ⟨lw_p9, List.forall_mem_cons.mpr ⟨lw_p10, List.forall_mem_cons.mpr ⟨lw_p11, List.forall_mem_cons.mpr ⟨lw_p12, List.forall_mem_cons.mpr ⟨lw_p13, List.forall_mem_cons.mpr ⟨lw_p14, List.forall_mem_cons.mpr ⟨lw_p15, fun _ h => absurd h List.not_mem_nil⟩⟩⟩⟩⟩⟩⟩⟩⟩⟩⟩⟩⟩⟩⟩⟩
theorem lw_p16 : lw_okq (⟨"EchoBureau$Hall", "isFull", "()Z"⟩, 6) := ⟨⟨by decide +kernel, by decide +kernel⟩, List.mem_of_getElem? (i := 122) (by decide +kernel), List.mem_of_getElem? (i := 378) (by decide +kernel), List.mem_of_getElem? (i := 379) (by decide +kernel)⟩
theorem lw_p17 : lw_okq (⟨"EchoBureau$Hall", "loseCertificate", "()V"⟩, 6) := ⟨⟨by decide +kernel, by decide +kernel⟩, List.mem_of_getElem? (i := 122) (by decide +kernel), List.mem_of_getElem? (i := 383) (by decide +kernel), List.mem_of_getElem? (i := 384) (by decide +kernel)⟩
theorem lw_p18 : lw_okq (⟨"EchoBureau$Hall", "build", "(LEchoBureau$Surface;)I"⟩, 6) := ⟨⟨by decide +kernel, by decide +kernel⟩, List.mem_of_getElem? (i := 122) (by decide +kernel), List.mem_of_getElem? (i := 400) (by decide +kernel), List.mem_of_getElem? (i := 401) (by decide +kernel)⟩
theorem lw_p19 : lw_okq (⟨"EchoBureau", "findStandard", "(I)LEchoBureau$Standard;"⟩, 8) := ⟨⟨by decide +kernel, by decide +kernel⟩, List.mem_of_getElem? (i := 18) (by decide +kernel), List.mem_of_getElem? (i := 468) (by decide +kernel), List.mem_of_getElem? (i := 469) (by decide +kernel)⟩
theorem lw_p20 : lw_okq (⟨"EchoBureau$Hall", "takeCertificate", "(II)V"⟩, 6) := ⟨⟨by decide +kernel, by decide +kernel⟩, List.mem_of_getElem? (i := 122) (by decide +kernel), List.mem_of_getElem? (i := 474) (by decide +kernel), List.mem_of_getElem? (i := 475) (by decide +kernel)⟩
theorem lw_p21 : lw_okq (⟨"EchoBureau$Hall", "growOlder", "(I)V"⟩, 6) := ⟨⟨by decide +kernel, by decide +kernel⟩, List.mem_of_getElem? (i := 122) (by decide +kernel), List.mem_of_getElem? (i := 497) (by decide +kernel), List.mem_of_getElem? (i := 498) (by decide +kernel)⟩
theorem lw_p22 : lw_okq (⟨"EchoBureau$Hall", "dustBehind", "(I)I"⟩, 6) := ⟨⟨by decide +kernel, by decide +kernel⟩, List.mem_of_getElem? (i := 122) (by decide +kernel), List.mem_of_getElem? (i := 501) (by decide +kernel), List.mem_of_getElem? (i := 502) (by decide +kernel)⟩
theorem lw_p23 : lw_okq (⟨"EchoBureau", "tallyOfClick", "(II)LEchoBureau$Tally;"⟩, 8) := ⟨⟨by decide +kernel, by decide +kernel⟩, List.mem_of_getElem? (i := 18) (by decide +kernel), List.mem_of_getElem? (i := 551) (by decide +kernel), List.mem_of_getElem? (i := 552) (by decide +kernel)⟩
theorem lw_p24 : lw_okq (⟨"EchoBureau$Loudnesses", "addedAt", "(I)I"⟩, 1) := ⟨⟨by decide +kernel, by decide +kernel⟩, List.mem_of_getElem? (i := 60) (by decide +kernel), List.mem_of_getElem? (i := 588) (by decide +kernel), List.mem_of_getElem? (i := 589) (by decide +kernel)⟩
theorem lw_p25 : lw_okq (⟨"EchoBureauModel", "fail", "(I)I"⟩, 17) := ⟨⟨by decide +kernel, by decide +kernel⟩, List.mem_of_getElem? (i := 663) (by decide +kernel), List.mem_of_getElem? (i := 732) (by decide +kernel), List.mem_of_getElem? (i := 733) (by decide +kernel)⟩
theorem lw_p26 : lw_okq (⟨"EchoBureauModel", "isHall", "(I)Z"⟩, 17) := ⟨⟨by decide +kernel, by decide +kernel⟩, List.mem_of_getElem? (i := 663) (by decide +kernel), List.mem_of_getElem? (i := 740) (by decide +kernel), List.mem_of_getElem? (i := 741) (by decide +kernel)⟩
theorem lw_p27 : lw_okq (⟨"EchoBureauModel", "strike", "(I)V"⟩, 17) := ⟨⟨by decide +kernel, by decide +kernel⟩, List.mem_of_getElem? (i := 663) (by decide +kernel), List.mem_of_getElem? (i := 744) (by decide +kernel), List.mem_of_getElem? (i := 745) (by decide +kernel)⟩
theorem lw_p28 : lw_okq (⟨"EchoBureauModel", "isSurface", "(II)Z"⟩, 17) := ⟨⟨by decide +kernel, by decide +kernel⟩, List.mem_of_getElem? (i := 663) (by decide +kernel), List.mem_of_getElem? (i := 752) (by decide +kernel), List.mem_of_getElem? (i := 753) (by decide +kernel)⟩
theorem lw_p29 : lw_okq (⟨"EchoBureauModel", "isPair", "(II)Z"⟩, 17) := ⟨⟨by decide +kernel, by decide +kernel⟩, List.mem_of_getElem? (i := 663) (by decide +kernel), List.mem_of_getElem? (i := 775) (by decide +kernel), List.mem_of_getElem? (i := 776) (by decide +kernel)⟩
theorem lw_p30 : lw_okq (⟨"EchoBureauModel", "isStandard", "(I)Z"⟩, 17) := ⟨⟨by decide +kernel, by decide +kernel⟩, List.mem_of_getElem? (i := 663) (by decide +kernel), List.mem_of_getElem? (i := 779) (by decide +kernel), List.mem_of_getElem? (i := 780) (by decide +kernel)⟩
theorem lw_p31 : lw_okq (⟨"EchoBureauModel", "meetsNow", "(II)Z"⟩, 17) := ⟨⟨by decide +kernel, by decide +kernel⟩, List.mem_of_getElem? (i := 663) (by decide +kernel), List.mem_of_getElem? (i := 783) (by decide +kernel), List.mem_of_getElem? (i := 784) (by decide +kernel)⟩
def lw_privs_2 : List (MethodName × Nat) := [(⟨"EchoBureau$Hall", "isFull", "()Z"⟩, 6), (⟨"EchoBureau$Hall", "loseCertificate", "()V"⟩, 6), (⟨"EchoBureau$Hall", "build", "(LEchoBureau$Surface;)I"⟩, 6), (⟨"EchoBureau", "findStandard", "(I)LEchoBureau$Standard;"⟩, 8), (⟨"EchoBureau$Hall", "takeCertificate", "(II)V"⟩, 6), (⟨"EchoBureau$Hall", "growOlder", "(I)V"⟩, 6), (⟨"EchoBureau$Hall", "dustBehind", "(I)I"⟩, 6), (⟨"EchoBureau", "tallyOfClick", "(II)LEchoBureau$Tally;"⟩, 8), (⟨"EchoBureau$Loudnesses", "addedAt", "(I)I"⟩, 1), (⟨"EchoBureauModel", "fail", "(I)I"⟩, 17), (⟨"EchoBureauModel", "isHall", "(I)Z"⟩, 17), (⟨"EchoBureauModel", "strike", "(I)V"⟩, 17), (⟨"EchoBureauModel", "isSurface", "(II)Z"⟩, 17), (⟨"EchoBureauModel", "isPair", "(II)Z"⟩, 17), (⟨"EchoBureauModel", "isStandard", "(I)Z"⟩, 17), (⟨"EchoBureauModel", "meetsNow", "(II)Z"⟩, 17)]
theorem lw_r2 : ∀ q ∈ lw_privs_2, lw_okq q := List.forall_mem_cons.mpr ⟨lw_p16, List.forall_mem_cons.mpr ⟨lw_p17, List.forall_mem_cons.mpr ⟨lw_p18, List.forall_mem_cons.mpr ⟨lw_p19, List.forall_mem_cons.mpr ⟨lw_p20, List.forall_mem_cons.mpr ⟨lw_p21, List.forall_mem_cons.mpr ⟨lw_p22, List.forall_mem_cons.mpr ⟨lw_p23, List.forall_mem_cons.mpr ⟨lw_p24, List.forall_mem_cons.mpr ⟨lw_p25, List.forall_mem_cons.mpr ⟨lw_p26, List.forall_mem_cons.mpr ⟨lw_p27, List.forall_mem_cons.mpr ⟨lw_p28, List.forall_mem_cons.mpr ⟨lw_p29, List.forall_mem_cons.mpr ⟨lw_p30, List.forall_mem_cons.mpr ⟨lw_p31, fun _ h => absurd h List.not_mem_nil⟩⟩⟩⟩⟩⟩⟩⟩⟩⟩⟩⟩⟩⟩⟩⟩
theorem lw_p32 : lw_okq (⟨"EchoBureauModel", "meets", "(IIII)Z"⟩, 17) := ⟨⟨by decide +kernel, by decide +kernel⟩, List.mem_of_getElem? (i := 663) (by decide +kernel), List.mem_of_getElem? (i := 787) (by decide +kernel), List.mem_of_getElem? (i := 788) (by decide +kernel)⟩
theorem lw_p33 : lw_okq (⟨"EchoBureauModel", "click", "(IIII)V"⟩, 17) := ⟨⟨by decide +kernel, by decide +kernel⟩, List.mem_of_getElem? (i := 663) (by decide +kernel), List.mem_of_getElem? (i := 791) (by decide +kernel), List.mem_of_getElem? (i := 792) (by decide +kernel)⟩
theorem lw_p34 : lw_okq (⟨"EchoBureauModel", "hard", "(III)I"⟩, 17) := ⟨⟨by decide +kernel, by decide +kernel⟩, List.mem_of_getElem? (i := 663) (by decide +kernel), List.mem_of_getElem? (i := 795) (by decide +kernel), List.mem_of_getElem? (i := 796) (by decide +kernel)⟩
theorem lw_p35 : lw_okq (⟨"EchoBureauModel", "all", "()I"⟩, 17) := ⟨⟨by decide +kernel, by decide +kernel⟩, List.mem_of_getElem? (i := 663) (by decide +kernel), List.mem_of_getElem? (i := 800) (by decide +kernel), List.mem_of_getElem? (i := 801) (by decide +kernel)⟩
theorem lw_p36 : lw_okq (⟨"EchoBureauModel", "first", "()I"⟩, 17) := ⟨⟨by decide +kernel, by decide +kernel⟩, List.mem_of_getElem? (i := 663) (by decide +kernel), List.mem_of_getElem? (i := 804) (by decide +kernel), List.mem_of_getElem? (i := 805) (by decide +kernel)⟩
theorem lw_p37 : lw_okq (⟨"EchoBureauModel", "rule", "(II)I"⟩, 17) := ⟨⟨by decide +kernel, by decide +kernel⟩, List.mem_of_getElem? (i := 663) (by decide +kernel), List.mem_of_getElem? (i := 808) (by decide +kernel), List.mem_of_getElem? (i := 809) (by decide +kernel)⟩
theorem lw_p38 : lw_okq (⟨"EchoBureauModel", "last", "()I"⟩, 17) := ⟨⟨by decide +kernel, by decide +kernel⟩, List.mem_of_getElem? (i := 663) (by decide +kernel), List.mem_of_getElem? (i := 812) (by decide +kernel), List.mem_of_getElem? (i := 813) (by decide +kernel)⟩
theorem lw_p39 : lw_okq (⟨"EchoBureauModel", "louder", "(I)I"⟩, 17) := ⟨⟨by decide +kernel, by decide +kernel⟩, List.mem_of_getElem? (i := 663) (by decide +kernel), List.mem_of_getElem? (i := 816) (by decide +kernel), List.mem_of_getElem? (i := 817) (by decide +kernel)⟩
theorem lw_p40 : lw_okq (⟨"EchoBureauModel", "certified", "()I"⟩, 17) := ⟨⟨by decide +kernel, by decide +kernel⟩, List.mem_of_getElem? (i := 663) (by decide +kernel), List.mem_of_getElem? (i := 829) (by decide +kernel), List.mem_of_getElem? (i := 830) (by decide +kernel)⟩
theorem lw_p41 : lw_okq (⟨"EchoBureauModel", "isClick", "(IIZ)Z"⟩, 17) := ⟨⟨by decide +kernel, by decide +kernel⟩, List.mem_of_getElem? (i := 663) (by decide +kernel), List.mem_of_getElem? (i := 857) (by decide +kernel), List.mem_of_getElem? (i := 858) (by decide +kernel)⟩
theorem lw_p42 : lw_okq (⟨"EchoBureauModel", "clickNow", "(II)V"⟩, 17) := ⟨⟨by decide +kernel, by decide +kernel⟩, List.mem_of_getElem? (i := 663) (by decide +kernel), List.mem_of_getElem? (i := 861) (by decide +kernel), List.mem_of_getElem? (i := 862) (by decide +kernel)⟩
theorem lw_p43 : lw_okq (⟨"EchoBureauModel", "at", "(I)I"⟩, 17) := ⟨⟨by decide +kernel, by decide +kernel⟩, List.mem_of_getElem? (i := 663) (by decide +kernel), List.mem_of_getElem? (i := 881) (by decide +kernel), List.mem_of_getElem? (i := 882) (by decide +kernel)⟩
theorem lw_p44 : lw_okq (⟨"EchoBureauModel", "loudest", "()I"⟩, 17) := ⟨⟨by decide +kernel, by decide +kernel⟩, List.mem_of_getElem? (i := 663) (by decide +kernel), List.mem_of_getElem? (i := 889) (by decide +kernel), List.mem_of_getElem? (i := 890) (by decide +kernel)⟩
theorem lw_p45 : lw_okq (⟨"EchoBureauModel", "failed", "(I)Z"⟩, 17) := ⟨⟨by decide +kernel, by decide +kernel⟩, List.mem_of_getElem? (i := 663) (by decide +kernel), List.mem_of_getElem? (i := 905) (by decide +kernel), List.mem_of_getElem? (i := 906) (by decide +kernel)⟩
theorem lw_p46 : lw_okq (⟨"EchoBureauModel", "least", "(II)I"⟩, 17) := ⟨⟨by decide +kernel, by decide +kernel⟩, List.mem_of_getElem? (i := 663) (by decide +kernel), List.mem_of_getElem? (i := 945) (by decide +kernel), List.mem_of_getElem? (i := 946) (by decide +kernel)⟩
def lw_privs_3 : List (MethodName × Nat) := [(⟨"EchoBureauModel", "meets", "(IIII)Z"⟩, 17), (⟨"EchoBureauModel", "click", "(IIII)V"⟩, 17), (⟨"EchoBureauModel", "hard", "(III)I"⟩, 17), (⟨"EchoBureauModel", "all", "()I"⟩, 17), (⟨"EchoBureauModel", "first", "()I"⟩, 17), (⟨"EchoBureauModel", "rule", "(II)I"⟩, 17), (⟨"EchoBureauModel", "last", "()I"⟩, 17), (⟨"EchoBureauModel", "louder", "(I)I"⟩, 17), (⟨"EchoBureauModel", "certified", "()I"⟩, 17), (⟨"EchoBureauModel", "isClick", "(IIZ)Z"⟩, 17), (⟨"EchoBureauModel", "clickNow", "(II)V"⟩, 17), (⟨"EchoBureauModel", "at", "(I)I"⟩, 17), (⟨"EchoBureauModel", "loudest", "()I"⟩, 17), (⟨"EchoBureauModel", "failed", "(I)Z"⟩, 17), (⟨"EchoBureauModel", "least", "(II)I"⟩, 17)]
theorem lw_r3 : ∀ q ∈ lw_privs_3, lw_okq q := List.forall_mem_cons.mpr ⟨lw_p32, List.forall_mem_cons.mpr ⟨lw_p33, List.forall_mem_cons.mpr ⟨lw_p34, List.forall_mem_cons.mpr ⟨lw_p35, List.forall_mem_cons.mpr ⟨lw_p36, List.forall_mem_cons.mpr ⟨lw_p37, List.forall_mem_cons.mpr ⟨lw_p38, List.forall_mem_cons.mpr ⟨lw_p39, List.forall_mem_cons.mpr ⟨lw_p40, List.forall_mem_cons.mpr ⟨lw_p41, List.forall_mem_cons.mpr ⟨lw_p42, List.forall_mem_cons.mpr ⟨lw_p43, List.forall_mem_cons.mpr ⟨lw_p44, List.forall_mem_cons.mpr ⟨lw_p45, List.forall_mem_cons.mpr ⟨lw_p46, fun _ h => absurd h List.not_mem_nil⟩⟩⟩⟩⟩⟩⟩⟩⟩⟩⟩⟩⟩⟩⟩
def lw_privs : List (MethodName × Nat) := lw_privs_1 ++ (lw_privs_2 ++ (lw_privs_3))
def lw_tbl : List Cond := k2_sels lw_privs ++ tables_1
theorem lw_privs_ok : ∀ q ∈ lw_privs, lw_okq q := by
  show ∀ q ∈ lw_privs_1 ++ (lw_privs_2 ++ (lw_privs_3)), lw_okq q
  exact List.forall_mem_append.mpr ⟨lw_r1, List.forall_mem_append.mpr ⟨lw_r2, lw_r3⟩⟩
/-- the streams that the claim lets the run draw from -/
abbrev lw_cs : List Choice := [Jvm.Choice.named "NaN.bits"]
theorem lw_bits : nanBits ∈ lw_cs := by first | decide | exact List.mem_cons_self | simp [lw_cs, nanBits]

def RX0 : String := "EchoBureau$Hall"
def TX0 : u_T := fun k => match k with
  | 0 => ("EchoBureau$Hall", "surfaces", "[LEchoBureau$Surface;", true)
  | 1 => ("EchoBureau$Hall", "surfaceCount", "I", false)
  | 2 => ("EchoBureau$Hall", "damping", "I", false)
  | 3 => ("EchoBureau$Hall", "dust", "I", false)
  | 4 => ("EchoBureau$Hall", "certificate", "I", false)
  | _ => ("EchoBureau$Hall", "certificateDays", "I", false)
def tyX0 : Nat → FieldType := fun k => match k with
  | 0 => .array (.object "EchoBureau$Surface")
  | 1 => .int
  | 2 => .int
  | 3 => .int
  | 4 => .int
  | _ => .int
theorem nmX0 : ∀ a, a < 6 → ∀ b, b < 6 → a ≠ b → (TX0 a).2.1 ≠ (TX0 b).2.1 := by decide +kernel
theorem tyX0_ok : ∀ k, k < 6 → parseFieldDescriptor (TX0 k).2.2.1 = some (tyX0 k) := by decide +kernel
abbrev cX0_init : ByteArray := prog_2_method_1_code
def yX0_init : MethodName := ⟨RX0, "<init>", "(I)V"⟩
abbrev cX0_isFull : ByteArray := prog_2_method_2_code
def yX0_isFull : MethodName := ⟨RX0, "isFull", "()Z"⟩
abbrev cX0_build : ByteArray := prog_2_method_3_code
def yX0_build : MethodName := ⟨RX0, "build", "(LEchoBureau$Surface;)I"⟩
abbrev cX0_hasCertificate : ByteArray := prog_2_method_4_code
def yX0_hasCertificate : MethodName := ⟨RX0, "hasCertificate", "()Z"⟩
abbrev cX0_takeCertificate : ByteArray := prog_2_method_5_code
def yX0_takeCertificate : MethodName := ⟨RX0, "takeCertificate", "(II)V"⟩
abbrev cX0_loseCertificate : ByteArray := prog_2_method_6_code
def yX0_loseCertificate : MethodName := ⟨RX0, "loseCertificate", "()V"⟩
abbrev cX0_dustBehind : ByteArray := prog_2_method_7_code
def yX0_dustBehind : MethodName := ⟨RX0, "dustBehind", "(I)I"⟩
abbrev cX0_growOlder : ByteArray := prog_2_method_8_code
def yX0_growOlder : MethodName := ⟨RX0, "growOlder", "(I)V"⟩
abbrev cX0_throwBack : ByteArray := prog_2_method_9_code
def yX0_throwBack : MethodName := ⟨RX0, "throwBack", "(IIILEchoBureau$Listener;)V"⟩
def RX1 : String := "EchoBureau$Listener"
def TX1 : u_T := fun k => match k with
  | _ => ("", "", "", false)
def tyX1 : Nat → FieldType := fun k => match k with
  | _ => .int
theorem nmX1 : ∀ a, a < 0 → ∀ b, b < 0 → a ≠ b → (TX1 a).2.1 ≠ (TX1 b).2.1 := by decide +kernel
theorem tyX1_ok : ∀ k, k < 0 → parseFieldDescriptor (TX1 k).2.2.1 = some (tyX1 k) := by decide +kernel
def RX2 : String := "EchoBureau$Loudnesses"
def TX2 : u_T := fun k => match k with
  | _ => ("EchoBureau$Loudnesses", "added", "[I", true)
def tyX2 : Nat → FieldType := fun k => match k with
  | _ => .array .int
theorem nmX2 : ∀ a, a < 1 → ∀ b, b < 1 → a ≠ b → (TX2 a).2.1 ≠ (TX2 b).2.1 := by decide +kernel
theorem tyX2_ok : ∀ k, k < 1 → parseFieldDescriptor (TX2 k).2.2.1 = some (tyX2 k) := by decide +kernel
abbrev cX2_init : ByteArray := prog_4_method_1_code
def yX2_init : MethodName := ⟨RX2, "<init>", "()V"⟩
abbrev cX2_begin : ByteArray := prog_4_method_2_code
def yX2_begin : MethodName := ⟨RX2, "begin", "()V"⟩
abbrev cX2_hear : ByteArray := prog_4_method_3_code
def yX2_hear : MethodName := ⟨RX2, "hear", "(II)V"⟩
abbrev cX2_addedAt : ByteArray := prog_4_method_4_code
def yX2_addedAt : MethodName := ⟨RX2, "addedAt", "(I)I"⟩
abbrev cX2_momentOfMost : ByteArray := prog_4_method_5_code
def yX2_momentOfMost : MethodName := ⟨RX2, "momentOfMost", "()I"⟩
def RX3 : String := "EchoBureau$Standard"
def TX3 : u_T := fun k => match k with
  | 0 => ("EchoBureau$Standard", "earliest", "I", true)
  | 1 => ("EchoBureau$Standard", "limit", "I", true)
  | 2 => ("EchoBureau$Standard", "most", "I", true)
  | 3 => ("EchoBureau$Standard", "latest", "I", true)
  | _ => ("EchoBureau$Standard", "days", "I", true)
def tyX3 : Nat → FieldType := fun k => match k with
  | 0 => .int
  | 1 => .int
  | 2 => .int
  | 3 => .int
  | _ => .int
theorem nmX3 : ∀ a, a < 5 → ∀ b, b < 5 → a ≠ b → (TX3 a).2.1 ≠ (TX3 b).2.1 := by decide +kernel
theorem tyX3_ok : ∀ k, k < 5 → parseFieldDescriptor (TX3 k).2.2.1 = some (tyX3 k) := by decide +kernel
abbrev cX3_init : ByteArray := prog_5_method_1_code
def yX3_init : MethodName := ⟨RX3, "<init>", "(IIIII)V"⟩
abbrev cX3_allows : ByteArray := prog_5_method_2_code
def yX3_allows : MethodName := ⟨RX3, "allows", "(LEchoBureau$Tally;)Z"⟩
def RX4 : String := "EchoBureau$Surface"
def TX4 : u_T := fun k => match k with
  | 0 => ("EchoBureau$Surface", "hardnessAsBuilt", "I", true)
  | _ => ("EchoBureau$Surface", "distance", "I", false)
def tyX4 : Nat → FieldType := fun k => match k with
  | 0 => .int
  | _ => .int
theorem nmX4 : ∀ a, a < 2 → ∀ b, b < 2 → a ≠ b → (TX4 a).2.1 ≠ (TX4 b).2.1 := by decide +kernel
theorem tyX4_ok : ∀ k, k < 2 → parseFieldDescriptor (TX4 k).2.2.1 = some (tyX4 k) := by decide +kernel
abbrev cX4_init : ByteArray := prog_6_method_1_code
def yX4_init : MethodName := ⟨RX4, "<init>", "(II)V"⟩
abbrev cX4_hardnessUnder : ByteArray := prog_6_method_2_code
def yX4_hardnessUnder : MethodName := ⟨RX4, "hardnessUnder", "(I)I"⟩
abbrev cX4_throwRow : ByteArray := prog_6_method_3_code
def yX4_throwRow : MethodName := ⟨RX4, "throwRow", "(IIILEchoBureau$Listener;)V"⟩
def RX5 : String := "EchoBureau$Tally"
def TX5 : u_T := fun k => match k with
  | 0 => ("EchoBureau$Tally", "limit", "I", false)
  | 1 => ("EchoBureau$Tally", "count", "I", false)
  | 2 => ("EchoBureau$Tally", "loudCount", "I", false)
  | 3 => ("EchoBureau$Tally", "first", "I", false)
  | _ => ("EchoBureau$Tally", "last", "I", false)
def tyX5 : Nat → FieldType := fun k => match k with
  | 0 => .int
  | 1 => .int
  | 2 => .int
  | 3 => .int
  | _ => .int
theorem nmX5 : ∀ a, a < 5 → ∀ b, b < 5 → a ≠ b → (TX5 a).2.1 ≠ (TX5 b).2.1 := by decide +kernel
theorem tyX5_ok : ∀ k, k < 5 → parseFieldDescriptor (TX5 k).2.2.1 = some (tyX5 k) := by decide +kernel
abbrev cX5_init : ByteArray := prog_7_method_1_code
def yX5_init : MethodName := ⟨RX5, "<init>", "()V"⟩
abbrev cX5_begin : ByteArray := prog_7_method_2_code
def yX5_begin : MethodName := ⟨RX5, "begin", "(I)V"⟩
abbrev cX5_hear : ByteArray := prog_7_method_3_code
def yX5_hear : MethodName := ⟨RX5, "hear", "(II)V"⟩
def RX6 : String := "EchoBureau"
def TX6 : u_T := fun k => match k with
  | 0 => ("EchoBureau", "hallRow", "[LEchoBureau$Hall;", true)
  | 1 => ("EchoBureau", "standardRow", "[LEchoBureau$Standard;", true)
  | 2 => ("EchoBureau", "hallCount", "I", false)
  | 3 => ("EchoBureau", "standardCount", "I", false)
  | 4 => ("EchoBureau", "today", "I", false)
  | 5 => ("EchoBureau", "inspectionCount", "I", false)
  | 6 => ("EchoBureau", "tally", "LEchoBureau$Tally;", true)
  | _ => ("EchoBureau", "loudnesses", "LEchoBureau$Loudnesses;", true)
def tyX6 : Nat → FieldType := fun k => match k with
  | 0 => .array (.object "EchoBureau$Hall")
  | 1 => .array (.object "EchoBureau$Standard")
  | 2 => .int
  | 3 => .int
  | 4 => .int
  | 5 => .int
  | 6 => .object "EchoBureau$Tally"
  | _ => .object "EchoBureau$Loudnesses"
theorem nmX6 : ∀ a, a < 8 → ∀ b, b < 8 → a ≠ b → (TX6 a).2.1 ≠ (TX6 b).2.1 := by decide +kernel
theorem tyX6_ok : ∀ k, k < 8 → parseFieldDescriptor (TX6 k).2.2.1 = some (tyX6 k) := by decide +kernel
abbrev cX6_init : ByteArray := prog_1_method_1_code
def yX6_init : MethodName := ⟨RX6, "<init>", "()V"⟩
abbrev cX6_addHall : ByteArray := prog_1_method_2_code
def yX6_addHall : MethodName := ⟨RX6, "addHall", "(I)I"⟩
abbrev cX6_addSurface : ByteArray := prog_1_method_3_code
def yX6_addSurface : MethodName := ⟨RX6, "addSurface", "(III)I"⟩
abbrev cX6_moveSurface : ByteArray := prog_1_method_4_code
def yX6_moveSurface : MethodName := ⟨RX6, "moveSurface", "(III)I"⟩
abbrev cX6_setDamping : ByteArray := prog_1_method_5_code
def yX6_setDamping : MethodName := ⟨RX6, "setDamping", "(II)I"⟩
abbrev cX6_clean : ByteArray := prog_1_method_6_code
def yX6_clean : MethodName := ⟨RX6, "clean", "(I)I"⟩
abbrev cX6_addStandard : ByteArray := prog_1_method_7_code
def yX6_addStandard : MethodName := ⟨RX6, "addStandard", "(IIIII)I"⟩
abbrev cX6_inspect : ByteArray := prog_1_method_8_code
def yX6_inspect : MethodName := ⟨RX6, "inspect", "(II)Z"⟩
abbrev cX6_revoke : ByteArray := prog_1_method_9_code
def yX6_revoke : MethodName := ⟨RX6, "revoke", "(I)I"⟩
abbrev cX6_passDays : ByteArray := prog_1_method_10_code
def yX6_passDays : MethodName := ⟨RX6, "passDays", "(I)I"⟩
abbrev cX6_surfacesOf : ByteArray := prog_1_method_11_code
def yX6_surfacesOf : MethodName := ⟨RX6, "surfacesOf", "(I)I"⟩
abbrev cX6_distanceOf : ByteArray := prog_1_method_12_code
def yX6_distanceOf : MethodName := ⟨RX6, "distanceOf", "(II)I"⟩
abbrev cX6_hardnessOf : ByteArray := prog_1_method_13_code
def yX6_hardnessOf : MethodName := ⟨RX6, "hardnessOf", "(II)I"⟩
abbrev cX6_dampingOf : ByteArray := prog_1_method_14_code
def yX6_dampingOf : MethodName := ⟨RX6, "dampingOf", "(I)I"⟩
abbrev cX6_dustOf : ByteArray := prog_1_method_15_code
def yX6_dustOf : MethodName := ⟨RX6, "dustOf", "(I)I"⟩
abbrev cX6_echoes : ByteArray := prog_1_method_16_code
def yX6_echoes : MethodName := ⟨RX6, "echoes", "(II)I"⟩
abbrev cX6_loudEchoes : ByteArray := prog_1_method_17_code
def yX6_loudEchoes : MethodName := ⟨RX6, "loudEchoes", "(III)I"⟩
abbrev cX6_firstEcho : ByteArray := prog_1_method_18_code
def yX6_firstEcho : MethodName := ⟨RX6, "firstEcho", "(II)I"⟩
abbrev cX6_lastEcho : ByteArray := prog_1_method_19_code
def yX6_lastEcho : MethodName := ⟨RX6, "lastEcho", "(II)I"⟩
abbrev cX6_loudnessAt : ByteArray := prog_1_method_20_code
def yX6_loudnessAt : MethodName := ⟨RX6, "loudnessAt", "(III)I"⟩
abbrev cX6_loudestMoment : ByteArray := prog_1_method_21_code
def yX6_loudestMoment : MethodName := ⟨RX6, "loudestMoment", "(II)I"⟩
abbrev cX6_meets : ByteArray := prog_1_method_22_code
def yX6_meets : MethodName := ⟨RX6, "meets", "(II)Z"⟩
abbrev cX6_hallsMeeting : ByteArray := prog_1_method_23_code
def yX6_hallsMeeting : MethodName := ⟨RX6, "hallsMeeting", "(I)I"⟩
abbrev cX6_isCertified : ByteArray := prog_1_method_24_code
def yX6_isCertified : MethodName := ⟨RX6, "isCertified", "(I)Z"⟩
abbrev cX6_certifiedBy : ByteArray := prog_1_method_25_code
def yX6_certifiedBy : MethodName := ⟨RX6, "certifiedBy", "(I)I"⟩
abbrev cX6_daysLeft : ByteArray := prog_1_method_26_code
def yX6_daysLeft : MethodName := ⟨RX6, "daysLeft", "(I)I"⟩
abbrev cX6_halls : ByteArray := prog_1_method_27_code
def yX6_halls : MethodName := ⟨RX6, "halls", "()I"⟩
abbrev cX6_standards : ByteArray := prog_1_method_28_code
def yX6_standards : MethodName := ⟨RX6, "standards", "()I"⟩
abbrev cX6_day : ByteArray := prog_1_method_29_code
def yX6_day : MethodName := ⟨RX6, "day", "()I"⟩
abbrev cX6_inspections : ByteArray := prog_1_method_30_code
def yX6_inspections : MethodName := ⟨RX6, "inspections", "()I"⟩
abbrev cX6_certifiedHalls : ByteArray := prog_1_method_31_code
def yX6_certifiedHalls : MethodName := ⟨RX6, "certifiedHalls", "()I"⟩
abbrev cX6_meetsWithDamping : ByteArray := prog_1_method_32_code
def yX6_meetsWithDamping : MethodName := ⟨RX6, "meetsWithDamping", "(III)Z"⟩
abbrev cX6_leastDamping : ByteArray := prog_1_method_33_code
def yX6_leastDamping : MethodName := ⟨RX6, "leastDamping", "(II)I"⟩
abbrev cX6_daysUntilMet : ByteArray := prog_1_method_34_code
def yX6_daysUntilMet : MethodName := ⟨RX6, "daysUntilMet", "(II)I"⟩
abbrev cX6_easiestHall : ByteArray := prog_1_method_35_code
def yX6_easiestHall : MethodName := ⟨RX6, "easiestHall", "(I)I"⟩
abbrev cX6_meanDamping : ByteArray := prog_1_method_36_code
def yX6_meanDamping : MethodName := ⟨RX6, "meanDamping", "()D"⟩
abbrev cX6_digest : ByteArray := prog_1_method_37_code
def yX6_digest : MethodName := ⟨RX6, "digest", "()J"⟩
abbrev cX6_mix : ByteArray := prog_1_method_38_code
def yX6_mix : MethodName := ⟨RX6, "mix", "(JI)J"⟩
abbrev cX6_mixHall : ByteArray := prog_1_method_39_code
def yX6_mixHall : MethodName := ⟨RX6, "mixHall", "(JLEchoBureau$Hall;)J"⟩
abbrev cX6_mixEchoes : ByteArray := prog_1_method_40_code
def yX6_mixEchoes : MethodName := ⟨RX6, "mixEchoes", "(JLEchoBureau$Hall;)J"⟩
abbrev cX6_isWithin : ByteArray := prog_1_method_41_code
def yX6_isWithin : MethodName := ⟨RX6, "isWithin", "(III)Z"⟩
abbrev cX6_checkDamping : ByteArray := prog_1_method_42_code
def yX6_checkDamping : MethodName := ⟨RX6, "checkDamping", "(I)V"⟩
abbrev cX6_checkDistance : ByteArray := prog_1_method_43_code
def yX6_checkDistance : MethodName := ⟨RX6, "checkDistance", "(I)V"⟩
abbrev cX6_checkLoudness : ByteArray := prog_1_method_44_code
def yX6_checkLoudness : MethodName := ⟨RX6, "checkLoudness", "(I)V"⟩
abbrev cX6_checkCertificate : ByteArray := prog_1_method_45_code
def yX6_checkCertificate : MethodName := ⟨RX6, "checkCertificate", "(LEchoBureau$Hall;)V"⟩
abbrev cX6_findHall : ByteArray := prog_1_method_46_code
def yX6_findHall : MethodName := ⟨RX6, "findHall", "(I)LEchoBureau$Hall;"⟩
abbrev cX6_findStandard : ByteArray := prog_1_method_47_code
def yX6_findStandard : MethodName := ⟨RX6, "findStandard", "(I)LEchoBureau$Standard;"⟩
abbrev cX6_findSurface : ByteArray := prog_1_method_48_code
def yX6_findSurface : MethodName := ⟨RX6, "findSurface", "(LEchoBureau$Hall;I)LEchoBureau$Surface;"⟩
abbrev cX6_countCertified : ByteArray := prog_1_method_49_code
def yX6_countCertified : MethodName := ⟨RX6, "countCertified", "()I"⟩
abbrev cX6_tallyOfClick : ByteArray := prog_1_method_50_code
def yX6_tallyOfClick : MethodName := ⟨RX6, "tallyOfClick", "(II)LEchoBureau$Tally;"⟩
abbrev cX6_tallyOf : ByteArray := prog_1_method_51_code
def yX6_tallyOf : MethodName := ⟨RX6, "tallyOf", "(LEchoBureau$Hall;II)LEchoBureau$Tally;"⟩
abbrev cX6_loudnessesOf : ByteArray := prog_1_method_52_code
def yX6_loudnessesOf : MethodName := ⟨RX6, "loudnessesOf", "(LEchoBureau$Hall;I)LEchoBureau$Loudnesses;"⟩
abbrev cX6_meetsNow : ByteArray := prog_1_method_53_code
def yX6_meetsNow : MethodName := ⟨RX6, "meetsNow", "(LEchoBureau$Hall;LEchoBureau$Standard;)Z"⟩
abbrev cX6_wouldMeet : ByteArray := prog_1_method_54_code
def yX6_wouldMeet : MethodName := ⟨RX6, "wouldMeet", "(LEchoBureau$Hall;LEchoBureau$Standard;II)Z"⟩
def RX7 : String := "EchoBureauModel"
def TX7 : u_T := fun k => match k with
  | 0 => ("EchoBureauModel", "thrown", "I", false)
  | 1 => ("EchoBureauModel", "halls", "I", false)
  | 2 => ("EchoBureauModel", "standards", "I", false)
  | 3 => ("EchoBureauModel", "day", "I", false)
  | 4 => ("EchoBureauModel", "inspections", "I", false)
  | 5 => ("EchoBureauModel", "surfaces", "[I", true)
  | 6 => ("EchoBureauModel", "damping", "[I", true)
  | 7 => ("EchoBureauModel", "dust", "[I", true)
  | 8 => ("EchoBureauModel", "certificate", "[I", true)
  | 9 => ("EchoBureauModel", "left", "[I", true)
  | 10 => ("EchoBureauModel", "distance", "[I", true)
  | 11 => ("EchoBureauModel", "hardness", "[I", true)
  | 12 => ("EchoBureauModel", "rules", "[I", true)
  | 13 => ("EchoBureauModel", "loud", "[I", true)
  | 14 => ("EchoBureauModel", "many", "[I", true)
  | 15 => ("EchoBureauModel", "apart", "[I", true)
  | _ => ("EchoBureauModel", "rows", "I", false)
def tyX7 : Nat → FieldType := fun k => match k with
  | 0 => .int
  | 1 => .int
  | 2 => .int
  | 3 => .int
  | 4 => .int
  | 5 => .array .int
  | 6 => .array .int
  | 7 => .array .int
  | 8 => .array .int
  | 9 => .array .int
  | 10 => .array .int
  | 11 => .array .int
  | 12 => .array .int
  | 13 => .array .int
  | 14 => .array .int
  | 15 => .array .int
  | _ => .int
theorem nmX7 : ∀ a, a < 17 → ∀ b, b < 17 → a ≠ b → (TX7 a).2.1 ≠ (TX7 b).2.1 := by decide +kernel
theorem tyX7_ok : ∀ k, k < 17 → parseFieldDescriptor (TX7 k).2.2.1 = some (tyX7 k) := by decide +kernel
abbrev cX7_init : ByteArray := prog_9_method_1_code
def yX7_init : MethodName := ⟨RX7, "<init>", "()V"⟩
abbrev cX7_thrown : ByteArray := prog_9_method_2_code
def yX7_thrown : MethodName := ⟨RX7, "thrown", "()I"⟩
abbrev cX7_fail : ByteArray := prog_9_method_3_code
def yX7_fail : MethodName := ⟨RX7, "fail", "(I)I"⟩
abbrev cX7_failed : ByteArray := prog_9_method_4_code
def yX7_failed : MethodName := ⟨RX7, "failed", "(I)Z"⟩
abbrev cX7_isIn : ByteArray := prog_9_method_5_code
def yX7_isIn : MethodName := ⟨RX7, "isIn", "(III)Z"⟩
abbrev cX7_isHall : ByteArray := prog_9_method_6_code
def yX7_isHall : MethodName := ⟨RX7, "isHall", "(I)Z"⟩
abbrev cX7_isStandard : ByteArray := prog_9_method_7_code
def yX7_isStandard : MethodName := ⟨RX7, "isStandard", "(I)Z"⟩
abbrev cX7_isSurface : ByteArray := prog_9_method_8_code
def yX7_isSurface : MethodName := ⟨RX7, "isSurface", "(II)Z"⟩
abbrev cX7_rule : ByteArray := prog_9_method_9_code
def yX7_rule : MethodName := ⟨RX7, "rule", "(II)I"⟩
abbrev cX7_hard : ByteArray := prog_9_method_10_code
def yX7_hard : MethodName := ⟨RX7, "hard", "(III)I"⟩
abbrev cX7_click : ByteArray := prog_9_method_11_code
def yX7_click : MethodName := ⟨RX7, "click", "(IIII)V"⟩
abbrev cX7_clickNow : ByteArray := prog_9_method_12_code
def yX7_clickNow : MethodName := ⟨RX7, "clickNow", "(II)V"⟩
abbrev cX7_all : ByteArray := prog_9_method_13_code
def yX7_all : MethodName := ⟨RX7, "all", "()I"⟩
abbrev cX7_louder : ByteArray := prog_9_method_14_code
def yX7_louder : MethodName := ⟨RX7, "louder", "(I)I"⟩
abbrev cX7_first : ByteArray := prog_9_method_15_code
def yX7_first : MethodName := ⟨RX7, "first", "()I"⟩
abbrev cX7_last : ByteArray := prog_9_method_16_code
def yX7_last : MethodName := ⟨RX7, "last", "()I"⟩
abbrev cX7_at : ByteArray := prog_9_method_17_code
def yX7_at : MethodName := ⟨RX7, "at", "(I)I"⟩
abbrev cX7_loudest : ByteArray := prog_9_method_18_code
def yX7_loudest : MethodName := ⟨RX7, "loudest", "()I"⟩
abbrev cX7_meets : ByteArray := prog_9_method_19_code
def yX7_meets : MethodName := ⟨RX7, "meets", "(IIII)Z"⟩
abbrev cX7_meetsNow : ByteArray := prog_9_method_20_code
def yX7_meetsNow : MethodName := ⟨RX7, "meetsNow", "(II)Z"⟩
abbrev cX7_addHall : ByteArray := prog_9_method_21_code
def yX7_addHall : MethodName := ⟨RX7, "addHall", "(I)I"⟩
abbrev cX7_strike : ByteArray := prog_9_method_22_code
def yX7_strike : MethodName := ⟨RX7, "strike", "(I)V"⟩
abbrev cX7_addSurface : ByteArray := prog_9_method_23_code
def yX7_addSurface : MethodName := ⟨RX7, "addSurface", "(III)I"⟩
abbrev cX7_moveSurface : ByteArray := prog_9_method_24_code
def yX7_moveSurface : MethodName := ⟨RX7, "moveSurface", "(III)I"⟩
abbrev cX7_setDamping : ByteArray := prog_9_method_25_code
def yX7_setDamping : MethodName := ⟨RX7, "setDamping", "(II)I"⟩
abbrev cX7_clean : ByteArray := prog_9_method_26_code
def yX7_clean : MethodName := ⟨RX7, "clean", "(I)I"⟩
abbrev cX7_addStandard : ByteArray := prog_9_method_27_code
def yX7_addStandard : MethodName := ⟨RX7, "addStandard", "(IIIII)I"⟩
abbrev cX7_isPair : ByteArray := prog_9_method_28_code
def yX7_isPair : MethodName := ⟨RX7, "isPair", "(II)Z"⟩
abbrev cX7_inspect : ByteArray := prog_9_method_29_code
def yX7_inspect : MethodName := ⟨RX7, "inspect", "(II)Z"⟩
abbrev cX7_revoke : ByteArray := prog_9_method_30_code
def yX7_revoke : MethodName := ⟨RX7, "revoke", "(I)I"⟩
abbrev cX7_certified : ByteArray := prog_9_method_31_code
def yX7_certified : MethodName := ⟨RX7, "certified", "()I"⟩
abbrev cX7_passDays : ByteArray := prog_9_method_32_code
def yX7_passDays : MethodName := ⟨RX7, "passDays", "(I)I"⟩
abbrev cX7_surfacesOf : ByteArray := prog_9_method_33_code
def yX7_surfacesOf : MethodName := ⟨RX7, "surfacesOf", "(I)I"⟩
abbrev cX7_distanceOf : ByteArray := prog_9_method_34_code
def yX7_distanceOf : MethodName := ⟨RX7, "distanceOf", "(II)I"⟩
abbrev cX7_hardnessOf : ByteArray := prog_9_method_35_code
def yX7_hardnessOf : MethodName := ⟨RX7, "hardnessOf", "(II)I"⟩
abbrev cX7_dampingOf : ByteArray := prog_9_method_36_code
def yX7_dampingOf : MethodName := ⟨RX7, "dampingOf", "(I)I"⟩
abbrev cX7_dustOf : ByteArray := prog_9_method_37_code
def yX7_dustOf : MethodName := ⟨RX7, "dustOf", "(I)I"⟩
abbrev cX7_isClick : ByteArray := prog_9_method_38_code
def yX7_isClick : MethodName := ⟨RX7, "isClick", "(IIZ)Z"⟩
abbrev cX7_echoes : ByteArray := prog_9_method_39_code
def yX7_echoes : MethodName := ⟨RX7, "echoes", "(II)I"⟩
abbrev cX7_loudEchoes : ByteArray := prog_9_method_40_code
def yX7_loudEchoes : MethodName := ⟨RX7, "loudEchoes", "(III)I"⟩
abbrev cX7_firstEcho : ByteArray := prog_9_method_41_code
def yX7_firstEcho : MethodName := ⟨RX7, "firstEcho", "(II)I"⟩
abbrev cX7_lastEcho : ByteArray := prog_9_method_42_code
def yX7_lastEcho : MethodName := ⟨RX7, "lastEcho", "(II)I"⟩
abbrev cX7_loudnessAt : ByteArray := prog_9_method_43_code
def yX7_loudnessAt : MethodName := ⟨RX7, "loudnessAt", "(III)I"⟩
abbrev cX7_loudestMoment : ByteArray := prog_9_method_44_code
def yX7_loudestMoment : MethodName := ⟨RX7, "loudestMoment", "(II)I"⟩
abbrev cX7_meets_ : ByteArray := prog_9_method_45_code
def yX7_meets_ : MethodName := ⟨RX7, "meets", "(II)Z"⟩
abbrev cX7_hallsMeeting : ByteArray := prog_9_method_46_code
def yX7_hallsMeeting : MethodName := ⟨RX7, "hallsMeeting", "(I)I"⟩
abbrev cX7_isCertified : ByteArray := prog_9_method_47_code
def yX7_isCertified : MethodName := ⟨RX7, "isCertified", "(I)Z"⟩
abbrev cX7_certifiedBy : ByteArray := prog_9_method_48_code
def yX7_certifiedBy : MethodName := ⟨RX7, "certifiedBy", "(I)I"⟩
abbrev cX7_daysLeft : ByteArray := prog_9_method_49_code
def yX7_daysLeft : MethodName := ⟨RX7, "daysLeft", "(I)I"⟩
abbrev cX7_halls : ByteArray := prog_9_method_50_code
def yX7_halls : MethodName := ⟨RX7, "halls", "()I"⟩
abbrev cX7_standards : ByteArray := prog_9_method_51_code
def yX7_standards : MethodName := ⟨RX7, "standards", "()I"⟩
abbrev cX7_day : ByteArray := prog_9_method_52_code
def yX7_day : MethodName := ⟨RX7, "day", "()I"⟩
abbrev cX7_inspections : ByteArray := prog_9_method_53_code
def yX7_inspections : MethodName := ⟨RX7, "inspections", "()I"⟩
abbrev cX7_certifiedHalls : ByteArray := prog_9_method_54_code
def yX7_certifiedHalls : MethodName := ⟨RX7, "certifiedHalls", "()I"⟩
abbrev cX7_meetsWithDamping : ByteArray := prog_9_method_55_code
def yX7_meetsWithDamping : MethodName := ⟨RX7, "meetsWithDamping", "(III)Z"⟩
abbrev cX7_least : ByteArray := prog_9_method_56_code
def yX7_least : MethodName := ⟨RX7, "least", "(II)I"⟩
abbrev cX7_leastDamping : ByteArray := prog_9_method_57_code
def yX7_leastDamping : MethodName := ⟨RX7, "leastDamping", "(II)I"⟩
abbrev cX7_daysUntilMet : ByteArray := prog_9_method_58_code
def yX7_daysUntilMet : MethodName := ⟨RX7, "daysUntilMet", "(II)I"⟩
abbrev cX7_easiestHall : ByteArray := prog_9_method_59_code
def yX7_easiestHall : MethodName := ⟨RX7, "easiestHall", "(I)I"⟩
abbrev cX7_meanDamping : ByteArray := prog_9_method_60_code
def yX7_meanDamping : MethodName := ⟨RX7, "meanDamping", "()D"⟩
abbrev cX7_digest : ByteArray := prog_9_method_61_code
def yX7_digest : MethodName := ⟨RX7, "digest", "()J"⟩
def RJx145de : String := "java/io/Serializable"
def RJ9 : String := "java/lang/Math"
abbrev cJ9_max_7cf53 : ByteArray := prog_14_method_65_code
def yJ9_max_7cf53 : MethodName := ⟨RJ9, "max", "(II)I"⟩
abbrev cJ9_min_7cf53 : ByteArray := prog_14_method_69_code
def yJ9_min_7cf53 : MethodName := ⟨RJ9, "min", "(II)I"⟩
def RJ0 : String := "java/lang/String"
def RJ10 : String := "java/lang/System"
def RJ7 : String := "java/util/Arrays"
abbrev cJ7_fill_53178 : ByteArray := prog_19_method_103_code
def yJ7_fill_53178 : MethodName := ⟨RJ7, "fill", "([II)V"⟩
def RL : String := "EchoBureauLaw"
abbrev cL_addHall : ByteArray := method_3_code
def yL_addHall : MethodName := ⟨RL, "addHall", "(LEchoBureau;I[J)I"⟩
abbrev cL_addSurface : ByteArray := method_4_code
def yL_addSurface : MethodName := ⟨RL, "addSurface", "(LEchoBureau;III[J)I"⟩
abbrev cL_moveSurface : ByteArray := method_5_code
def yL_moveSurface : MethodName := ⟨RL, "moveSurface", "(LEchoBureau;III[J)I"⟩
abbrev cL_setDamping : ByteArray := method_6_code
def yL_setDamping : MethodName := ⟨RL, "setDamping", "(LEchoBureau;II[J)I"⟩
abbrev cL_clean : ByteArray := method_7_code
def yL_clean : MethodName := ⟨RL, "clean", "(LEchoBureau;I[J)I"⟩
abbrev cL_addStandard : ByteArray := method_8_code
def yL_addStandard : MethodName := ⟨RL, "addStandard", "(LEchoBureau;IIIII[J)I"⟩
abbrev cL_inspect : ByteArray := method_9_code
def yL_inspect : MethodName := ⟨RL, "inspect", "(LEchoBureau;II[J)I"⟩
abbrev cL_revoke : ByteArray := method_10_code
def yL_revoke : MethodName := ⟨RL, "revoke", "(LEchoBureau;I[J)I"⟩
abbrev cL_passDays : ByteArray := method_11_code
def yL_passDays : MethodName := ⟨RL, "passDays", "(LEchoBureau;I[J)I"⟩
abbrev cL_surfacesOf : ByteArray := method_12_code
def yL_surfacesOf : MethodName := ⟨RL, "surfacesOf", "(LEchoBureau;I[J)I"⟩
abbrev cL_distanceOf : ByteArray := method_13_code
def yL_distanceOf : MethodName := ⟨RL, "distanceOf", "(LEchoBureau;II[J)I"⟩
abbrev cL_hardnessOf : ByteArray := method_14_code
def yL_hardnessOf : MethodName := ⟨RL, "hardnessOf", "(LEchoBureau;II[J)I"⟩
abbrev cL_dampingOf : ByteArray := method_15_code
def yL_dampingOf : MethodName := ⟨RL, "dampingOf", "(LEchoBureau;I[J)I"⟩
abbrev cL_dustOf : ByteArray := method_16_code
def yL_dustOf : MethodName := ⟨RL, "dustOf", "(LEchoBureau;I[J)I"⟩
abbrev cL_echoes : ByteArray := method_17_code
def yL_echoes : MethodName := ⟨RL, "echoes", "(LEchoBureau;II[J)I"⟩
abbrev cL_loudEchoes : ByteArray := method_18_code
def yL_loudEchoes : MethodName := ⟨RL, "loudEchoes", "(LEchoBureau;III[J)I"⟩
abbrev cL_firstEcho : ByteArray := method_19_code
def yL_firstEcho : MethodName := ⟨RL, "firstEcho", "(LEchoBureau;II[J)I"⟩
abbrev cL_lastEcho : ByteArray := method_20_code
def yL_lastEcho : MethodName := ⟨RL, "lastEcho", "(LEchoBureau;II[J)I"⟩
abbrev cL_loudnessAt : ByteArray := method_21_code
def yL_loudnessAt : MethodName := ⟨RL, "loudnessAt", "(LEchoBureau;III[J)I"⟩
abbrev cL_loudestMoment : ByteArray := method_22_code
def yL_loudestMoment : MethodName := ⟨RL, "loudestMoment", "(LEchoBureau;II[J)I"⟩
abbrev cL_meets : ByteArray := method_23_code
def yL_meets : MethodName := ⟨RL, "meets", "(LEchoBureau;II[J)I"⟩
abbrev cL_hallsMeeting : ByteArray := method_24_code
def yL_hallsMeeting : MethodName := ⟨RL, "hallsMeeting", "(LEchoBureau;I[J)I"⟩
abbrev cL_isCertified : ByteArray := method_25_code
def yL_isCertified : MethodName := ⟨RL, "isCertified", "(LEchoBureau;I[J)I"⟩
abbrev cL_certifiedBy : ByteArray := method_26_code
def yL_certifiedBy : MethodName := ⟨RL, "certifiedBy", "(LEchoBureau;I[J)I"⟩
abbrev cL_daysLeft : ByteArray := method_27_code
def yL_daysLeft : MethodName := ⟨RL, "daysLeft", "(LEchoBureau;I[J)I"⟩
abbrev cL_meetsWithDamping : ByteArray := method_28_code
def yL_meetsWithDamping : MethodName := ⟨RL, "meetsWithDamping", "(LEchoBureau;III[J)I"⟩
abbrev cL_leastDamping : ByteArray := method_29_code
def yL_leastDamping : MethodName := ⟨RL, "leastDamping", "(LEchoBureau;II[J)I"⟩
abbrev cL_daysUntilMet : ByteArray := method_30_code
def yL_daysUntilMet : MethodName := ⟨RL, "daysUntilMet", "(LEchoBureau;II[J)I"⟩
abbrev cL_easiestHall : ByteArray := method_31_code
def yL_easiestHall : MethodName := ⟨RL, "easiestHall", "(LEchoBureau;I[J)I"⟩
abbrev cL_law : ByteArray := code
def yL_law : MethodName := ⟨RL, "law", "([I)Z"⟩
abbrev vwCl : List vw_C := [(RX0, TX0, 6), (RX2, TX2, 1), (RX3, TX3, 5), (RX4, TX4, 2), (RX5, TX5, 5), (RX6, TX6, 8), (RX7, TX7, 17)]
end
section
/-! ===== a named memory over the machine: a world is a function from names (lists of numbers) to entries, with an address for each name ===== -/
abbrev Lab : Type := List Nat
/-- an array: what its places are of, its length and contents; an object: its number in vwCl, its fields -/
abbrev Ent : Type := (FieldType × vp_A) ⊕ (Nat × List Value)
abbrev Adr : Type := Lab → Nat
abbrev Wd : Type := Lab → Option Ent
def eg_at (D : va_G) (s : State) (a : Nat) (e : Ent) (H : Heap) : Prop := match e with
  | .inl x => ∃ cA : ClassId, (ArrOfT s cA x.1 ∧ va_RA s cA x.1) ∧ H[a]? = some (vp_cell cA x.2)
  | .inr o => va_at D vwCl (a, .inr o) H
theorem eg_at.kept {D : va_G} {s : State} {a : Nat} {e : Ent} {H H1 : Heap} (h : eg_at D s a e H) (hq : H1[a]? = H[a]?) : eg_at D s a e H1 := by
  cases e with
  | inl x =>
    obtain ⟨cA, h1, h2⟩ := h
    exact ⟨cA, h1, hq.trans h2⟩
  | inr o => exact va_at.kept (q := (a, .inr o)) h hq
theorem eg_at.lt {D : va_G} {s : State} {a : Nat} {e : Ent} {H : Heap} (h : eg_at D s a e H) : a < H.size := by
  cases e with
  | inl x =>
    obtain ⟨cA, h1, h2⟩ := h
    exact (Array.getElem?_eq_some_iff.mp h2).1
  | inr o => exact va_at.lt (q := (a, .inr o)) h
theorem eg_at.moved {D : va_G} {s U : State} {a : Nat} {e : Ent} {H : Heap} (hvm : s.vm.Alike U.vm) (h : eg_at D s a e H) : eg_at D U a e H := by
  cases e with
  | inl x =>
    obtain ⟨cA, ⟨h1, h3⟩, h2⟩ := h
    exact ⟨cA, ⟨arrOfT_moved hvm h1, h3.moved hvm⟩, h2⟩
  | inr o => exact h
def wset (w : Wd) (L : Lab) (e : Ent) : Wd := fun L' => if L' = L then some e else w L'
def aset (ad : Adr) (L : Lab) (a : Nat) : Adr := fun L' => if L' = L then a else ad L'
theorem wset_s {w : Wd} {L : Lab} {e : Ent} : wset w L e L = some e := if_pos rfl
theorem wset_n {w : Wd} {L L' : Lab} {e : Ent} (h : L' ≠ L) : wset w L e L' = w L' := if_neg h
theorem aset_s {ad : Adr} {L : Lab} {a : Nat} : aset ad L a L = a := if_pos rfl
theorem aset_n {ad : Adr} {L L' : Lab} {a : Nat} (h : L' ≠ L) : aset ad L a L' = ad L' := if_neg h
theorem wset_wset {w : Wd} {L : Lab} {e e' : Ent} : wset (wset w L e) L e' = wset w L e' := by
  funext L'
  by_cases h : L' = L <;> simp [wset, h]
def Mem (D : va_G) (ba : Nat) (s : State) (ad : Adr) (w : Wd) (H : Heap) : Prop :=
  (∀ L e, w L = some e → eg_at D s (ad L) e H ∧ ba ≤ ad L) ∧ ∀ L L', w L ≠ none → w L' ≠ none → ad L = ad L' → L = L'
theorem Mem.moved {D : va_G} {ba : Nat} {s U : State} {ad : Adr} {w : Wd} {H : Heap} (hvm : s.vm.Alike U.vm) (h : Mem D ba s ad w H) : Mem D ba U ad w H :=
  ⟨fun L e hL => ⟨(h.1 L e hL).1.moved hvm, (h.1 L e hL).2⟩, h.2⟩
theorem Mem.kept {D : va_G} {ba : Nat} {s : State} {ad : Adr} {w : Wd} {H H1 : Heap} (h : Mem D ba s ad w H) (o : ∀ q : Nat, q < H.size → H1[q]? = H[q]?) : Mem D ba s ad w H1 :=
  ⟨fun L e hL => ⟨(h.1 L e hL).1.kept (o _ (h.1 L e hL).1.lt), (h.1 L e hL).2⟩, h.2⟩
theorem Mem.set {D : va_G} {ba : Nat} {s : State} {ad : Adr} {w : Wd} {H H1 : Heap} {L : Lab} {e0 e : Ent} (h : Mem D ba s ad w H) (hL : w L = some e0) (he : eg_at D s (ad L) e H1) (oq : ∀ q : Nat, q ≠ ad L → H1[q]? = H[q]?) : Mem D ba s ad (wset w L e) H1 := by
  have key : ∀ L', wset w L e L' ≠ none → w L' ≠ none := by
    intro L' hn
    by_cases hq : L' = L
    · rw [hq, hL]; exact fun z => nomatch z
    · rw [wset_n hq] at hn; exact hn
  refine ⟨fun L' e' hL' => ?_, fun L1 L2 h1 h2 h3 => h.2 L1 L2 (key L1 h1) (key L2 h2) h3⟩
  by_cases hq : L' = L
  · subst hq
    rw [wset_s] at hL'
    cases hL'
    exact ⟨he, (h.1 _ _ hL).2⟩
  · rw [wset_n hq] at hL'
    refine ⟨(h.1 _ _ hL').1.kept (oq _ (fun z => hq ?_)), (h.1 _ _ hL').2⟩
    exact h.2 L' L (by rw [hL']; exact fun z => nomatch z) (by rw [hL]; exact fun z => nomatch z) z
theorem Mem.new {D : va_G} {ba : Nat} {s : State} {ad : Adr} {w : Wd} {H H1 : Heap} {L : Lab} {e : Ent} (h : Mem D ba s ad w H) (hL : w L = none) (hb : ba ≤ H.size) (he : eg_at D s H.size e H1) (o : ∀ q : Nat, q < H.size → H1[q]? = H[q]?) : Mem D ba s (aset ad L H.size) (wset w L e) H1 := by
  have far : ∀ L', w L' ≠ none → ad L' < H.size := by
    intro L' hn
    cases hw : w L' with
    | none => exact absurd hw hn
    | some e' => exact (h.1 _ _ hw).1.lt
  refine ⟨fun L' e' hL' => ?_, fun L1 L2 h1 h2 h3 => ?_⟩
  · by_cases hq : L' = L
    · subst hq
      rw [wset_s] at hL'
      cases hL'
      rw [aset_s]
      exact ⟨he, hb⟩
    · rw [wset_n hq] at hL'
      rw [aset_n hq]
      exact ⟨(h.1 _ _ hL').1.kept (o _ (h.1 _ _ hL').1.lt), (h.1 _ _ hL').2⟩
  · by_cases hq1 : L1 = L <;> by_cases hq2 : L2 = L
    · rw [hq1, hq2]
    · rw [hq1, aset_s, aset_n hq2] at h3
      rw [wset_n hq2] at h2
      have := far L2 h2
      omega
    · rw [hq2, aset_s, aset_n hq1] at h3
      rw [wset_n hq1] at h1
      have := far L1 h1
      omega
    · rw [aset_n hq1, aset_n hq2] at h3
      rw [wset_n hq1] at h1
      rw [wset_n hq2] at h2
      exact h.2 L1 L2 h1 h2 h3
theorem Mem.less {D : va_G} {ba : Nat} {s : State} {ad : Adr} {w w' : Wd} {H : Heap} (h : Mem D ba s ad w H) (hw : ∀ L e, w' L = some e → w L = some e) : Mem D ba s ad w' H := by
  have key : ∀ L, w' L ≠ none → w L ≠ none := by
    intro L hn hz
    cases hq : w' L with
    | none => exact hn hq
    | some e => rw [hw L e hq] at hz; cases hz
  exact ⟨fun L e hL => h.1 L e (hw L e hL), fun L1 L2 h1 h2 h3 => h.2 L1 L2 (key L1 h1) (key L2 h2) h3⟩
theorem Mem.adr {D : va_G} {ba : Nat} {s : State} {ad ad' : Adr} {w : Wd} {H : Heap} (h : Mem D ba s ad w H) (ha : ∀ L, w L ≠ none → ad' L = ad L) : Mem D ba s ad' w H := by
  refine ⟨fun L e hL => ?_, fun L1 L2 h1 h2 h3 => h.2 L1 L2 h1 h2 (by rw [← ha L1 h1, ← ha L2 h2]; exact h3)⟩
  rw [ha L (by rw [hL]; exact fun z => nomatch z)]
  exact h.1 L e hL
/-! ===== the words ===== -/
def eg_T : List Cond := lw_tbl.filter goodWord
theorem eg_TT : GoodIn eg_T eg_T := fun w hw => ⟨hw, good_of_word (List.mem_filter.mp hw).2⟩
theorem eg_in {w : Cond} (i : Nat) (h : lw_tbl[i]? = some w) (hg : goodWord w = true) : w ∈ eg_T := List.mem_filter.mpr ⟨List.mem_of_getElem? h, hg⟩
def eg_nw : Cond → Bool
  | .fieldLinkNest .. | .methodLinkNest .. | .declares _ | .castable .. | .publicMethod _ | .unhidden .. => true
  | _ => false
theorem eg_nw_warm {w : Cond} (hn : eg_nw w = true) {s U : State} (hW : s.WarmedH U.vm) (h : va_Nw w s) : va_Nw w U := by
  cases w <;> first | (simp [eg_nw] at hn; done) | skip
  case fieldLinkNest => exact va_Nw.warmF hW h
  case methodLinkNest => exact va_Nw.warmM hW h
  case declares => exact va_Nw.warmD hW h
  case castable => exact va_Nw.warmC hW h
  case publicMethod => exact va_tabs rfl (rfl : (s.setVm U.vm).vm = U.vm) (by rw [Cond.publicMethod_setVm hW.alike]; exact h)
  case unhidden => exact va_tabs rfl (rfl : (s.setVm U.vm).vm = U.vm) (by rw [Cond.unhidden_setVm hW.alike]; exact h)
theorem eg_nw_tab {w : Cond} (hn : eg_nw w = true) : w.onTables = true := by
  cases w <;> first | rfl | (simp [eg_nw] at hn; done)

/-- the faces that a call through an interface may meet -/
def eg_faces : List (String × MethodName × MethodName) := [(RX5, ⟨"EchoBureau$Listener", "hear", "(II)V"⟩, yX5_hear), (RX2, ⟨"EchoBureau$Listener", "hear", "(II)V"⟩, yX2_hear)]
def eg_nc : List (String × String) := [("java/lang/IllegalArgumentException", "java/lang/IndexOutOfBoundsException"), ("java/lang/IllegalStateException", "java/lang/IndexOutOfBoundsException"), ("java/lang/IllegalStateException", "java/lang/IllegalArgumentException")]
/-- what every method finds: the tables as they stand -/
def NF (D : va_G) (ba : Nat) (U : State) : Prop :=
  va_K D vwCl [] U ∧ (∀ w ∈ lw_tbl, eg_nw w = true → va_Nw w U) ∧ (∀ C : String, Cond.arrayOver (.object C) ∈ lw_tbl → va_AO C U) ∧ (∀ q ∈ eg_faces, va_Fw q.1 q.2.1 q.2.2 U) ∧
  (vx_Zq Bundle.tN "UNASSIGNED_STACK" Bundle.steD (fun q => ba ≤ q) U U.heap ∧ vx_Zq Bundle.tN "SUPPRESSED_SENTINEL" Bundle.listD (fun q => ba ≤ q) U U.heap) ∧
  (∀ (own : String) (k : Nat) (tx : String), Cond.stringRef own k tx ∈ lw_tbl → ∃ a, vk_R own k tx a U) ∧ ∀ q ∈ eg_nc, va_Nc q.1 q.2 U
theorem eg_faces_x : ∀ q ∈ eg_faces, q.2.1.cls ≠ "java/lang/invoke/MethodHandle" ∧ q.2.1.cls ≠ "java/lang/invoke/VarHandle" := by decide +kernel
theorem NF.moved {D : va_G} {ba : Nat} {s U : State} (hW : s.WarmedH U.vm) (hk : ∀ q : Nat, q < s.heap.size → ¬ ba ≤ q → U.heap[q]? = s.heap[q]?) (h : NF D ba s) : NF D ba U := by
  obtain ⟨h1, h2, h3, h4, ⟨h5, h6⟩, h7, h8⟩ := h
  refine ⟨va_K.moved hW.alike h1, fun w hw hn => eg_nw_warm hn hW (h2 w hw hn), fun C hC => (h3 C hC).moved hW.alike, fun q hq => va_Fw.moved (eg_faces_x q hq) hW.alike (h4 q hq), ⟨vx_Zq.moved hW.alike (h5.kept hk), vx_Zq.moved hW.alike (h6.kept hk)⟩, fun own k tx hm => ?_, fun q hq => (h8 q hq).moved hW.alike⟩
  obtain ⟨a, ha⟩ := h7 own k tx hm
  exact ⟨a, ha.warm hW⟩
/-! ===== contracts ===== -/
abbrev rmO (d mc ms : Nat) : Room := { frames := d, cells := mc, slots := ms, locals := 36 * d }
def mPc (D : va_G) (ba : Nat) (as : List Value) (ad : Adr) (w : Wd) : Array Value → State → Prop := fun a U => a = as.toArray ∧ NF D ba U ∧ ba ≤ U.heap.size ∧ Mem D ba U ad w U.heap
def mQc (D : va_G) (ba : Nat) (QR : Option Value → Adr → Wd → Prop) : Array Value → State → Outcome → State → Prop := fun _ st o t => ∃ v ad w, o = .returned v ∧ QR v ad w ∧ Mem D ba t ad w t.heap ∧ va_F (fun q => ba ≤ q) st t
def mXC (D : va_G) (ba : Nat) (QX : String → Adr → Wd → Prop) : String → State → State → Prop := fun E st t => ∃ ad w, QX E ad w ∧ Mem D ba t ad w t.heap ∧ va_F (fun q => ba ≤ q) st t
theorem mPc_blind {D : va_G} {ba : Nat} {as : List Value} {ad : Adr} {w : Wd} : FrameBlind (mPc D ba as ad w) := by
  intro a U g mk h
  obtain ⟨h1, h2, h3, h4⟩ := h
  exact ⟨h1, NF.moved (s := U) (U := U.calling g mk a) (State.WarmedH.refl U) (fun _ _ _ => rfl) h2, h3, Mem.moved (s := U) (U := U.calling g mk a) (Vm.Alike.refl U.vm) h4⟩
def CT (l : Launch) (y : MethodName) (ws : List Cond) (d mc ms : Nat) (D : va_G) (ba : Nat) (as : List Value) (ad : Adr) (w : Wd) (QR : Option Value → Adr → Wd → Prop) (QX : String → Adr → Wd → Prop) : Prop :=
  vx_Met l y ws (rmO d mc ms) (mPc D ba as ad w) (mQc D ba QR) (mXC D ba QX) mc ms (fun q => ba ≤ q)
/-- what stands through a whole method -/
def Cx (p : Program) (l : Launch) (s : State) (m : MethodId) (args : Array Value) (meth : Method) (c : Code) (D : va_G) (ba : Nat) (own : String) (cc : ByteArray) (nL : Nat) (tb : List ExceptionTableEntry) (d : Nat) : Prop :=
  p.tables.exec = Jvm.exec ∧ c.code = cc ∧ c.maxLocals = nL ∧ s.vm.findClass own = some m.cls ∧ (∀ w ∈ eg_T, w.before args s = true) ∧ NF D ba s ∧ ba ≤ s.heap.size ∧ meth.locks = false ∧ l.stackTraces = false ∧ c.exceptionTable.toList = tb
def V (p : Program) (l : Launch) (e : Env) (s : State) (m : MethodId) (args : Array Value) (below : List Frame) (meth : Method) (c : Code) (D : va_G) (ba : Nat) (d mc ms : Nat) (Q : State → Prop) (nL : Nat) (ad : Adr) (w : Wd) (pc : Nat) (lv : List (Nat × Value)) (st : List Value) (cells slots : Nat) : Prop :=
  ∀ (H : Heap) (locs : List Loc) (ls : Array Slot), Mem D ba s ad w H → va_S (fun q => ba ≤ q) s.heap H locs → lv_has ls nL lv → W p l e (rmO d mc ms) s m args below meth c H locs cells slots Q (F0 m pc ls st)
/-- E was thrown at pc -/
def VX (p : Program) (l : Launch) (e : Env) (s : State) (m : MethodId) (args : Array Value) (below : List Frame) (meth : Method) (c : Code) (D : va_G) (ba : Nat) (d mc ms : Nat) (Q : State → Prop) (nL : Nat) (E : String) (ad : Adr) (w : Wd) (pc : Nat) (lv : List (Nat × Value)) (st : List Value) (cells slots : Nat) : Prop :=
  ∀ (H : Heap) (locs : List Loc) (ls : Array Slot) (q : Addr) (ce : Cell), Mem D ba s ad w H → va_S (fun q => ba ≤ q) s.heap H locs → lv_has ls nL lv → H[q]? = some ce → ce.vm = .none → s.vm.findClass E = some ce.cls → vx_W p l e (rmO d mc ms) s m args below meth c H locs cells slots Q (F0 m pc ls st) q
abbrev MO (D : va_G) (ba : Nat) (QR : Option Value → Adr → Wd → Prop) (QX : String → Adr → Wd → Prop) (below : List Frame) (args : Array Value) (s : State) (mc ms : Nat) : State → Prop := vx_MQ below (mQc D ba QR) (mXC D ba QX) args s mc ms (fun q => ba ≤ q)
section EG
variable {p : Program} {l : Launch} {e : Env} {s : State} {m : MethodId} {args : Array Value} {below : List Frame} {meth : Method} {c : Code} {D : va_G} {ba : Nat} {d mc ms : Nat} {Q : State → Prop} {nL : Nat} {ad : Adr} {w : Wd} {pc : Nat} {lv : List (Nat × Value)} {rest : List Value} {cells slots : Nat}
variable {own : String} {cc : ByteArray} {tb : List ExceptionTableEntry}
theorem V_eq {pc' : Nat} (h : pc = pc') (k : V p l e s m args below meth c D ba d mc ms Q nL ad w pc' lv rest cells slots) : V p l e s m args below meth c D ba d mc ms Q nL ad w pc lv rest cells slots := h ▸ k
theorem V_wd {w' : Wd} (h : w = w') (k : V p l e s m args below meth c D ba d mc ms Q nL ad w' pc lv rest cells slots) : V p l e s m args below meth c D ba d mc ms Q nL ad w pc lv rest cells slots := h ▸ k
theorem V_lv {lv' : List (Nat × Value)} (ks : List Nat) (h : lv_pick lv ks = lv') (k : V p l e s m args below meth c D ba d mc ms Q nL ad w pc lv' rest cells slots) : V p l e s m args below meth c D ba d mc ms Q nL ad w pc lv rest cells slots := fun H locs ls hM hS hl => k H locs ls hM hS (lv_sub hl ks h)
theorem V_less {w' : Wd} (h : ∀ L e, w' L = some e → w L = some e) (k : V p l e s m args below meth c D ba d mc ms Q nL ad w' pc lv rest cells slots) : V p l e s m args below meth c D ba d mc ms Q nL ad w pc lv rest cells slots := fun H locs ls hM hS hl => k H locs ls (hM.less h) hS hl
theorem V_adr {ad' : Adr} (h : ∀ L, w L ≠ none → ad' L = ad L) (k : V p l e s m args below meth c D ba d mc ms Q nL ad' w pc lv rest cells slots) : V p l e s m args below meth c D ba d mc ms Q nL ad w pc lv rest cells slots := fun H locs ls hM hS hl => k H locs ls (hM.adr h) hS hl
theorem V_cs {cells' slots' : Nat} (h1 : cells ≤ cells') (h2 : slots ≤ slots') (k : V p l e s m args below meth c D ba d mc ms Q nL ad w pc lv rest cells' slots') : V p l e s m args below meth c D ba d mc ms Q nL ad w pc lv rest cells slots := fun H locs ls hM hS hl => W.widen h1 h2 (k H locs ls hM hS hl)
theorem V_iadd (C : Cx p l s m args meth c D ba own cc nL tb d) {x y : Int32} (h : decode cc pc = .ok (.iadd, 1)) (k : V p l e s m args below meth c D ba d mc ms Q nL ad w (pc + 1) lv (.int (x + y) :: rest) cells slots) : V p l e s m args below meth c D ba d mc ms Q nL ad w pc lv (.int y :: .int x :: rest) cells slots := fun H locs ls hM hS hl => lv_iadd C.1 C.2.1 h (k H locs ls hM hS hl)
theorem V_isub (C : Cx p l s m args meth c D ba own cc nL tb d) {x y : Int32} (h : decode cc pc = .ok (.isub, 1)) (k : V p l e s m args below meth c D ba d mc ms Q nL ad w (pc + 1) lv (.int (x - y) :: rest) cells slots) : V p l e s m args below meth c D ba d mc ms Q nL ad w pc lv (.int y :: .int x :: rest) cells slots := fun H locs ls hM hS hl => lv_isub C.1 C.2.1 h (k H locs ls hM hS hl)
theorem V_imul (C : Cx p l s m args meth c D ba own cc nL tb d) {x y : Int32} (h : decode cc pc = .ok (.imul, 1)) (k : V p l e s m args below meth c D ba d mc ms Q nL ad w (pc + 1) lv (.int (x * y) :: rest) cells slots) : V p l e s m args below meth c D ba d mc ms Q nL ad w pc lv (.int y :: .int x :: rest) cells slots := fun H locs ls hM hS hl => lv_imul C.1 C.2.1 h (k H locs ls hM hS hl)
theorem V_iand (C : Cx p l s m args meth c D ba own cc nL tb d) {x y : Int32} (h : decode cc pc = .ok (.iand, 1)) (k : V p l e s m args below meth c D ba d mc ms Q nL ad w (pc + 1) lv (.int (x &&& y) :: rest) cells slots) : V p l e s m args below meth c D ba d mc ms Q nL ad w pc lv (.int y :: .int x :: rest) cells slots := fun H locs ls hM hS hl => lv_iand C.1 C.2.1 h (k H locs ls hM hS hl)
theorem V_ior (C : Cx p l s m args meth c D ba own cc nL tb d) {x y : Int32} (h : decode cc pc = .ok (.ior, 1)) (k : V p l e s m args below meth c D ba d mc ms Q nL ad w (pc + 1) lv (.int (x ||| y) :: rest) cells slots) : V p l e s m args below meth c D ba d mc ms Q nL ad w pc lv (.int y :: .int x :: rest) cells slots := fun H locs ls hM hS hl => lv_ior C.1 C.2.1 h (k H locs ls hM hS hl)
theorem V_ixor (C : Cx p l s m args meth c D ba own cc nL tb d) {x y : Int32} (h : decode cc pc = .ok (.ixor, 1)) (k : V p l e s m args below meth c D ba d mc ms Q nL ad w (pc + 1) lv (.int (x ^^^ y) :: rest) cells slots) : V p l e s m args below meth c D ba d mc ms Q nL ad w pc lv (.int y :: .int x :: rest) cells slots := fun H locs ls hM hS hl => lv_ixor C.1 C.2.1 h (k H locs ls hM hS hl)
theorem V_ladd (C : Cx p l s m args meth c D ba own cc nL tb d) {x y : Int64} (h : decode cc pc = .ok (.ladd, 1)) (k : V p l e s m args below meth c D ba d mc ms Q nL ad w (pc + 1) lv (.long (x + y) :: rest) cells slots) : V p l e s m args below meth c D ba d mc ms Q nL ad w pc lv (.long y :: .long x :: rest) cells slots := fun H locs ls hM hS hl => lv_ladd C.1 C.2.1 h (k H locs ls hM hS hl)
theorem V_lsub (C : Cx p l s m args meth c D ba own cc nL tb d) {x y : Int64} (h : decode cc pc = .ok (.lsub, 1)) (k : V p l e s m args below meth c D ba d mc ms Q nL ad w (pc + 1) lv (.long (x - y) :: rest) cells slots) : V p l e s m args below meth c D ba d mc ms Q nL ad w pc lv (.long y :: .long x :: rest) cells slots := fun H locs ls hM hS hl => lv_lsub C.1 C.2.1 h (k H locs ls hM hS hl)
theorem V_lmul (C : Cx p l s m args meth c D ba own cc nL tb d) {x y : Int64} (h : decode cc pc = .ok (.lmul, 1)) (k : V p l e s m args below meth c D ba d mc ms Q nL ad w (pc + 1) lv (.long (x * y) :: rest) cells slots) : V p l e s m args below meth c D ba d mc ms Q nL ad w pc lv (.long y :: .long x :: rest) cells slots := fun H locs ls hM hS hl => lv_lmul C.1 C.2.1 h (k H locs ls hM hS hl)
theorem V_idiv (C : Cx p l s m args meth c D ba own cc nL tb d) {x y : Int32} (h : decode cc pc = .ok (.idiv, 1)) (hne : ¬ y = 0) (k : V p l e s m args below meth c D ba d mc ms Q nL ad w (pc + 1) lv (.int (x / y) :: rest) cells slots) : V p l e s m args below meth c D ba d mc ms Q nL ad w pc lv (.int y :: .int x :: rest) cells slots := fun H locs ls hM hS hl => lv_idiv C.1 C.2.1 h hne (k H locs ls hM hS hl)
theorem V_irem (C : Cx p l s m args meth c D ba own cc nL tb d) {x y : Int32} (h : decode cc pc = .ok (.irem, 1)) (hne : ¬ y = 0) (k : V p l e s m args below meth c D ba d mc ms Q nL ad w (pc + 1) lv (.int (x - x / y * y) :: rest) cells slots) : V p l e s m args below meth c D ba d mc ms Q nL ad w pc lv (.int y :: .int x :: rest) cells slots := fun H locs ls hM hS hl => lv_irem C.1 C.2.1 h hne (k H locs ls hM hS hl)
theorem V_iconst (C : Cx p l s m args meth c D ba own cc nL tb d) {n : Int} {v : Int32} (h : decode cc pc = .ok (.iconst n, 1)) (hv : Int32.ofInt n = v) (k : V p l e s m args below meth c D ba d mc ms Q nL ad w (pc + 1) lv (.int v :: rest) cells slots) : V p l e s m args below meth c D ba d mc ms Q nL ad w pc lv rest cells slots := fun H locs ls hM hS hl => lv_iconst C.1 C.2.1 h hv (k H locs ls hM hS hl)
theorem V_bipush (C : Cx p l s m args meth c D ba own cc nL tb d) {n : Int} {v : Int32} (h : decode cc pc = .ok (.bipush n, 2)) (hv : (Int8.ofInt n).toInt32 = v) (k : V p l e s m args below meth c D ba d mc ms Q nL ad w (pc + 2) lv (.int v :: rest) cells slots) : V p l e s m args below meth c D ba d mc ms Q nL ad w pc lv rest cells slots := fun H locs ls hM hS hl => lv_bipush C.1 C.2.1 h hv (k H locs ls hM hS hl)
theorem V_sipush (C : Cx p l s m args meth c D ba own cc nL tb d) {n : Int} {v : Int32} (h : decode cc pc = .ok (.sipush n, 3)) (hv : (Int16.ofInt n).toInt32 = v) (k : V p l e s m args below meth c D ba d mc ms Q nL ad w (pc + 3) lv (.int v :: rest) cells slots) : V p l e s m args below meth c D ba d mc ms Q nL ad w pc lv rest cells slots := fun H locs ls hM hS hl => lv_sipush C.1 C.2.1 h hv (k H locs ls hM hS hl)
theorem V_lconst (C : Cx p l s m args meth c D ba own cc nL tb d) {n : Fin 2} {v : Int64} (h : decode cc pc = .ok (.lconst n, 1)) (hv : Int64.ofNat (n : Nat) = v) (k : V p l e s m args below meth c D ba d mc ms Q nL ad w (pc + 1) lv (.long v :: rest) cells slots) : V p l e s m args below meth c D ba d mc ms Q nL ad w pc lv rest cells slots := fun H locs ls hM hS hl => lv_lconst C.1 C.2.1 h hv (k H locs ls hM hS hl)
theorem V_null (C : Cx p l s m args meth c D ba own cc nL tb d) (h : decode cc pc = .ok (.aconst_null, 1)) (k : V p l e s m args below meth c D ba d mc ms Q nL ad w (pc + 1) lv (.null :: rest) cells slots) : V p l e s m args below meth c D ba d mc ms Q nL ad w pc lv rest cells slots := fun H locs ls hM hS hl => lv_null C.1 C.2.1 h (k H locs ls hM hS hl)
theorem V_dconst0 (C : Cx p l s m args meth c D ba own cc nL tb d) (h : decode cc pc = .ok (.dconst 0, 1)) (k : V p l e s m args below meth c D ba d mc ms Q nL ad w (pc + 1) lv (.double FP.dconst0 :: rest) cells slots) : V p l e s m args below meth c D ba d mc ms Q nL ad w pc lv rest cells slots := fun H locs ls hM hS hl => lv_dconst0 C.1 C.2.1 h (k H locs ls hM hS hl)
theorem V_iload_n (C : Cx p l s m args meth c D ba own cc nL tb d) {i : Fin 4} {x : Int32} (h : decode cc pc = .ok (.iload_n i, 1)) (j : Nat) (hj : lv[j]? = some ((i : Nat), .int x)) (k : V p l e s m args below meth c D ba d mc ms Q nL ad w (pc + 1) lv (.int x :: rest) cells slots) : V p l e s m args below meth c D ba d mc ms Q nL ad w pc lv rest cells slots := fun H locs ls hM hS hl => lv_iload_n C.1 C.2.1 h rfl (lv_at hl j hj) (k H locs ls hM hS hl)
theorem V_iload (C : Cx p l s m args meth c D ba own cc nL tb d) {i : Nat} {x : Int32} (h : decode cc pc = .ok (.iload i, 2)) (j : Nat) (hj : lv[j]? = some (i, .int x)) (k : V p l e s m args below meth c D ba d mc ms Q nL ad w (pc + 2) lv (.int x :: rest) cells slots) : V p l e s m args below meth c D ba d mc ms Q nL ad w pc lv rest cells slots := fun H locs ls hM hS hl => lv_iload C.1 C.2.1 h (lv_at hl j hj) (k H locs ls hM hS hl)
theorem V_lload_n (C : Cx p l s m args meth c D ba own cc nL tb d) {i : Fin 4} {x : Int64} (h : decode cc pc = .ok (.lload_n i, 1)) (j : Nat) (hj : lv[j]? = some ((i : Nat), .long x)) (k : V p l e s m args below meth c D ba d mc ms Q nL ad w (pc + 1) lv (.long x :: rest) cells slots) : V p l e s m args below meth c D ba d mc ms Q nL ad w pc lv rest cells slots := fun H locs ls hM hS hl => lv_lload_n C.1 C.2.1 h rfl (lv_at hl j hj) (k H locs ls hM hS hl)
theorem V_lload (C : Cx p l s m args meth c D ba own cc nL tb d) {i : Nat} {x : Int64} (h : decode cc pc = .ok (.lload i, 2)) (j : Nat) (hj : lv[j]? = some (i, .long x)) (k : V p l e s m args below meth c D ba d mc ms Q nL ad w (pc + 2) lv (.long x :: rest) cells slots) : V p l e s m args below meth c D ba d mc ms Q nL ad w pc lv rest cells slots := fun H locs ls hM hS hl => lv_lload C.1 C.2.1 h (lv_at hl j hj) (k H locs ls hM hS hl)
theorem V_aload_n (C : Cx p l s m args meth c D ba own cc nL tb d) {i : Fin 4} {x : Nat} (h : decode cc pc = .ok (.aload_n i, 1)) (j : Nat) (hj : lv[j]? = some ((i : Nat), .ref x)) (k : V p l e s m args below meth c D ba d mc ms Q nL ad w (pc + 1) lv (.ref x :: rest) cells slots) : V p l e s m args below meth c D ba d mc ms Q nL ad w pc lv rest cells slots := fun H locs ls hM hS hl => lv_aload_n C.1 C.2.1 h rfl (lv_at hl j hj) (k H locs ls hM hS hl)
theorem V_aload (C : Cx p l s m args meth c D ba own cc nL tb d) {i : Nat} {x : Nat} (h : decode cc pc = .ok (.aload i, 2)) (j : Nat) (hj : lv[j]? = some (i, .ref x)) (k : V p l e s m args below meth c D ba d mc ms Q nL ad w (pc + 2) lv (.ref x :: rest) cells slots) : V p l e s m args below meth c D ba d mc ms Q nL ad w pc lv rest cells slots := fun H locs ls hM hS hl => lv_aload C.1 C.2.1 h (lv_at hl j hj) (k H locs ls hM hS hl)
theorem V_dload_n (C : Cx p l s m args meth c D ba own cc nL tb d) {i : Fin 4} {x : UInt64} (h : decode cc pc = .ok (.dload_n i, 1)) (j : Nat) (hj : lv[j]? = some ((i : Nat), .double x)) (k : V p l e s m args below meth c D ba d mc ms Q nL ad w (pc + 1) lv (.double x :: rest) cells slots) : V p l e s m args below meth c D ba d mc ms Q nL ad w pc lv rest cells slots := fun H locs ls hM hS hl => lv_dload_n C.1 C.2.1 h rfl (lv_at hl j hj) (k H locs ls hM hS hl)
theorem V_dload (C : Cx p l s m args meth c D ba own cc nL tb d) {i : Nat} {x : UInt64} (h : decode cc pc = .ok (.dload i, 2)) (j : Nat) (hj : lv[j]? = some (i, .double x)) (k : V p l e s m args below meth c D ba d mc ms Q nL ad w (pc + 2) lv (.double x :: rest) cells slots) : V p l e s m args below meth c D ba d mc ms Q nL ad w pc lv rest cells slots := fun H locs ls hM hS hl => lv_dload C.1 C.2.1 h (lv_at hl j hj) (k H locs ls hM hS hl)
theorem V_istore_n (C : Cx p l s m args meth c D ba own cc nL tb d) {i : Fin 4} {x : Int32} (lv' : List (Nat × Value)) (h : decode cc pc = .ok (.istore_n i, 1)) (hn : (i : Nat) < nL) (hq : ((i : Nat), Value.int x) :: lv.filter (fun q => !(q.1 == (i : Nat)) && !(q.1 + 1 == (i : Nat) && q.2.category == 2)) = lv') (k : V p l e s m args below meth c D ba d mc ms Q nL ad w (pc + 1) lv' rest cells slots) : V p l e s m args below meth c D ba d mc ms Q nL ad w pc lv (.int x :: rest) cells slots := fun H locs ls hM hS hl => lv_istore_n (lv' := lv') C.1 C.2.1 h rfl hl hn hq (fun ls' hl' => k H locs ls' hM hS hl')
theorem V_lstore_n (C : Cx p l s m args meth c D ba own cc nL tb d) {i : Fin 4} {x : Int64} (lv' : List (Nat × Value)) (h : decode cc pc = .ok (.lstore_n i, 1)) (hn : (i : Nat) + 1 < nL) (hq : ((i : Nat), Value.long x) :: lv.filter (fun q => !(q.1 == (i : Nat)) && (!(q.1 == (i : Nat) + 1) && !(q.1 + 1 == (i : Nat) && q.2.category == 2))) = lv') (k : V p l e s m args below meth c D ba d mc ms Q nL ad w (pc + 1) lv' rest cells slots) : V p l e s m args below meth c D ba d mc ms Q nL ad w pc lv (.long x :: rest) cells slots := fun H locs ls hM hS hl => lv_lstore_n (lv' := lv') C.1 C.2.1 h rfl hl hn hq (fun ls' hl' => k H locs ls' hM hS hl')
theorem V_astore_n (C : Cx p l s m args meth c D ba own cc nL tb d) {i : Fin 4} {x : Nat} (lv' : List (Nat × Value)) (h : decode cc pc = .ok (.astore_n i, 1)) (hn : (i : Nat) < nL) (hq : ((i : Nat), Value.ref x) :: lv.filter (fun q => !(q.1 == (i : Nat)) && !(q.1 + 1 == (i : Nat) && q.2.category == 2)) = lv') (k : V p l e s m args below meth c D ba d mc ms Q nL ad w (pc + 1) lv' rest cells slots) : V p l e s m args below meth c D ba d mc ms Q nL ad w pc lv (.ref x :: rest) cells slots := fun H locs ls hM hS hl => lv_astore_n (lv' := lv') C.1 C.2.1 h rfl hl hn hq (fun ls' hl' => k H locs ls' hM hS hl')
theorem V_dstore_n (C : Cx p l s m args meth c D ba own cc nL tb d) {i : Fin 4} {x : UInt64} (lv' : List (Nat × Value)) (h : decode cc pc = .ok (.dstore_n i, 1)) (hn : (i : Nat) + 1 < nL) (hq : ((i : Nat), Value.double x) :: lv.filter (fun q => !(q.1 == (i : Nat)) && (!(q.1 == (i : Nat) + 1) && !(q.1 + 1 == (i : Nat) && q.2.category == 2))) = lv') (k : V p l e s m args below meth c D ba d mc ms Q nL ad w (pc + 1) lv' rest cells slots) : V p l e s m args below meth c D ba d mc ms Q nL ad w pc lv (.double x :: rest) cells slots := fun H locs ls hM hS hl => lv_dstore_n (lv' := lv') C.1 C.2.1 h rfl hl hn hq (fun ls' hl' => k H locs ls' hM hS hl')
theorem V_astore_nN (C : Cx p l s m args meth c D ba own cc nL tb d) {i : Fin 4} (lv' : List (Nat × Value)) (h : decode cc pc = .ok (.astore_n i, 1)) (hn : (i : Nat) < nL) (hq : ((i : Nat), Value.null) :: lv.filter (fun q => !(q.1 == (i : Nat)) && !(q.1 + 1 == (i : Nat) && q.2.category == 2)) = lv') (k : V p l e s m args below meth c D ba d mc ms Q nL ad w (pc + 1) lv' rest cells slots) : V p l e s m args below meth c D ba d mc ms Q nL ad w pc lv (.null :: rest) cells slots := fun H locs ls hM hS hl => lv_astore_nN (lv' := lv') C.1 C.2.1 h rfl hl hn hq (fun ls' hl' => k H locs ls' hM hS hl')
theorem V_istore (C : Cx p l s m args meth c D ba own cc nL tb d) {i : Nat} {x : Int32} (lv' : List (Nat × Value)) (h : decode cc pc = .ok (.istore i, 2)) (hn : i < nL) (hq : (i, Value.int x) :: lv.filter (fun q => !(q.1 == i) && !(q.1 + 1 == i && q.2.category == 2)) = lv') (k : V p l e s m args below meth c D ba d mc ms Q nL ad w (pc + 2) lv' rest cells slots) : V p l e s m args below meth c D ba d mc ms Q nL ad w pc lv (.int x :: rest) cells slots := fun H locs ls hM hS hl => lv_istore (lv' := lv') C.1 C.2.1 h hl hn hq (fun ls' hl' => k H locs ls' hM hS hl')
theorem V_lstore (C : Cx p l s m args meth c D ba own cc nL tb d) {i : Nat} {x : Int64} (lv' : List (Nat × Value)) (h : decode cc pc = .ok (.lstore i, 2)) (hn : i + 1 < nL) (hq : (i, Value.long x) :: lv.filter (fun q => !(q.1 == i) && (!(q.1 == i + 1) && !(q.1 + 1 == i && q.2.category == 2))) = lv') (k : V p l e s m args below meth c D ba d mc ms Q nL ad w (pc + 2) lv' rest cells slots) : V p l e s m args below meth c D ba d mc ms Q nL ad w pc lv (.long x :: rest) cells slots := fun H locs ls hM hS hl => lv_lstore (lv' := lv') C.1 C.2.1 h hl hn hq (fun ls' hl' => k H locs ls' hM hS hl')
theorem V_astore (C : Cx p l s m args meth c D ba own cc nL tb d) {i : Nat} {x : Nat} (lv' : List (Nat × Value)) (h : decode cc pc = .ok (.astore i, 2)) (hn : i < nL) (hq : (i, Value.ref x) :: lv.filter (fun q => !(q.1 == i) && !(q.1 + 1 == i && q.2.category == 2)) = lv') (k : V p l e s m args below meth c D ba d mc ms Q nL ad w (pc + 2) lv' rest cells slots) : V p l e s m args below meth c D ba d mc ms Q nL ad w pc lv (.ref x :: rest) cells slots := fun H locs ls hM hS hl => lv_astore (lv' := lv') C.1 C.2.1 h hl hn hq (fun ls' hl' => k H locs ls' hM hS hl')
theorem V_dstore (C : Cx p l s m args meth c D ba own cc nL tb d) {i : Nat} {x : UInt64} (lv' : List (Nat × Value)) (h : decode cc pc = .ok (.dstore i, 2)) (hn : i + 1 < nL) (hq : (i, Value.double x) :: lv.filter (fun q => !(q.1 == i) && (!(q.1 == i + 1) && !(q.1 + 1 == i && q.2.category == 2))) = lv') (k : V p l e s m args below meth c D ba d mc ms Q nL ad w (pc + 2) lv' rest cells slots) : V p l e s m args below meth c D ba d mc ms Q nL ad w pc lv (.double x :: rest) cells slots := fun H locs ls hM hS hl => lv_dstore (lv' := lv') C.1 C.2.1 h hl hn hq (fun ls' hl' => k H locs ls' hM hS hl')
theorem V_astoreN (C : Cx p l s m args meth c D ba own cc nL tb d) {i : Nat} (lv' : List (Nat × Value)) (h : decode cc pc = .ok (.astore i, 2)) (hn : i < nL) (hq : (i, Value.null) :: lv.filter (fun q => !(q.1 == i) && !(q.1 + 1 == i && q.2.category == 2)) = lv') (k : V p l e s m args below meth c D ba d mc ms Q nL ad w (pc + 2) lv' rest cells slots) : V p l e s m args below meth c D ba d mc ms Q nL ad w pc lv (.null :: rest) cells slots := fun H locs ls hM hS hl => lv_astoreN (lv' := lv') C.1 C.2.1 h hl hn hq (fun ls' hl' => k H locs ls' hM hS hl')
theorem V_iinc (C : Cx p l s m args meth c D ba own cc nL tb d) {i : Nat} {n : Int} {x v : Int32} (lv' : List (Nat × Value)) (h : decode cc pc = .ok (.iinc i n, 3)) (j : Nat) (hj : lv[j]? = some (i, .int x)) (hv : x + Int32.ofInt n = v) (hn : i < nL) (hq : (i, Value.int v) :: lv.filter (fun q => !(q.1 == i) && !(q.1 + 1 == i && q.2.category == 2)) = lv') (k : V p l e s m args below meth c D ba d mc ms Q nL ad w (pc + 3) lv' rest cells slots) : V p l e s m args below meth c D ba d mc ms Q nL ad w pc lv rest cells slots := fun H locs ls hM hS hl => lv_iinc (lv' := lv') C.1 C.2.1 h hl hj hv hn hq (fun ls' hl' => k H locs ls' hM hS hl')
theorem V_i2l (C : Cx p l s m args meth c D ba own cc nL tb d) {x : Int32} {v : Int64} (h : decode cc pc = .ok (.i2l, 1)) (hv : x.toInt64 = v) (k : V p l e s m args below meth c D ba d mc ms Q nL ad w (pc + 1) lv (.long v :: rest) cells slots) : V p l e s m args below meth c D ba d mc ms Q nL ad w pc lv (.int x :: rest) cells slots := fun H locs ls hM hS hl => lv_i2l C.1 C.2.1 h hv (k H locs ls hM hS hl)
theorem V_i2d (C : Cx p l s m args meth c D ba own cc nL tb d) {x : Int32} (h : decode cc pc = .ok (.i2d, 1)) (k : V p l e s m args below meth c D ba d mc ms Q nL ad w (pc + 1) lv (.double (FP.i2d x) :: rest) cells slots) : V p l e s m args below meth c D ba d mc ms Q nL ad w pc lv (.int x :: rest) cells slots := fun H locs ls hM hS hl => lv_i2d C.1 C.2.1 h (k H locs ls hM hS hl)
theorem V_ddiv (C : Cx p l s m args meth c D ba own cc nL tb d) {x y : UInt64} (h : decode cc pc = .ok (.ddiv, 1)) (hne : vf_n64 (FP.ddiv x y)) (k : V p l e s m args below meth c D ba d mc ms Q nL ad w (pc + 1) lv (.double (FP.ddiv x y) :: rest) cells slots) : V p l e s m args below meth c D ba d mc ms Q nL ad w pc lv (.double y :: .double x :: rest) cells slots := fun H locs ls hM hS hl => lv_ddiv C.1 C.2.1 h hne (k H locs ls hM hS hl)
theorem V_dcmp (C : Cx p l s m args meth c D ba own cc nL tb d) {x y : UInt64} {op : CmpOp} (h : decode cc pc = .ok (.dcmp op, 1)) (k : V p l e s m args below meth c D ba d mc ms Q nL ad w (pc + 1) lv (.int (Op.cmpValue (FP.dcmp x y) op) :: rest) cells slots) : V p l e s m args below meth c D ba d mc ms Q nL ad w pc lv (.double y :: .double x :: rest) cells slots := fun H locs ls hM hS hl => lv_dcmp C.1 C.2.1 h (k H locs ls hM hS hl)
theorem V_lcmp (C : Cx p l s m args meth c D ba own cc nL tb d) {x y : Int64} (h : decode cc pc = .ok (.lcmp, 1)) (k : V p l e s m args below meth c D ba d mc ms Q nL ad w (pc + 1) lv (.int (lg_cmp x y) :: rest) cells slots) : V p l e s m args below meth c D ba d mc ms Q nL ad w pc lv (.long y :: .long x :: rest) cells slots := fun H locs ls hM hS hl => W.lcmp C.1 C.2.1 h (k H locs ls hM hS hl)
theorem V_dup (C : Cx p l s m args meth c D ba own cc nL tb d) {v : Value} (h : decode cc pc = .ok (.dup, 1)) (hc : v.category = 1) (k : V p l e s m args below meth c D ba d mc ms Q nL ad w (pc + 1) lv (v :: v :: rest) cells slots) : V p l e s m args below meth c D ba d mc ms Q nL ad w pc lv (v :: rest) cells slots := fun H locs ls hM hS hl => lv_dup C.1 C.2.1 h hc (k H locs ls hM hS hl)
theorem V_dup2 (C : Cx p l s m args meth c D ba own cc nL tb d) {v v2 : Value} (h : decode cc pc = .ok (.dup2, 1)) (hc : v.category = 1) (hc2 : v2.category = 1) (k : V p l e s m args below meth c D ba d mc ms Q nL ad w (pc + 1) lv (v :: v2 :: v :: v2 :: rest) cells slots) : V p l e s m args below meth c D ba d mc ms Q nL ad w pc lv (v :: v2 :: rest) cells slots := fun H locs ls hM hS hl => lv_dup2_11 C.1 C.2.1 h hc hc2 (k H locs ls hM hS hl)
theorem V_pop (C : Cx p l s m args meth c D ba own cc nL tb d) {v : Value} (h : decode cc pc = .ok (.pop, 1)) (hc : v.category = 1) (k : V p l e s m args below meth c D ba d mc ms Q nL ad w (pc + 1) lv rest cells slots) : V p l e s m args below meth c D ba d mc ms Q nL ad w pc lv (v :: rest) cells slots := fun H locs ls hM hS hl => lv_pop C.1 C.2.1 h hc (k H locs ls hM hS hl)
theorem V_dup_x1 (C : Cx p l s m args meth c D ba own cc nL tb d) {v v2 : Value} (h : decode cc pc = .ok (.dup_x1, 1)) (hc : v.category = 1) (hc2 : v2.category = 1) (k : V p l e s m args below meth c D ba d mc ms Q nL ad w (pc + 1) lv (v :: v2 :: v :: rest) cells slots) : V p l e s m args below meth c D ba d mc ms Q nL ad w pc lv (v :: v2 :: rest) cells slots := fun H locs ls hM hS hl => lv_dup_x1 C.1 C.2.1 h hc hc2 (k H locs ls hM hS hl)
theorem V_ldc2 (C : Cx p l s m args meth c D ba own cc nL tb d) {i : Nat} {v : Int64} (h : decode cc pc = .ok (.ldc2_w i, 3)) (hw : Cond.constantLong own i v ∈ eg_T) (k : V p l e s m args below meth c D ba d mc ms Q nL ad w (pc + 3) lv (.long v :: rest) cells slots) : V p l e s m args below meth c D ba d mc ms Q nL ad w pc lv rest cells slots := fun H locs ls hM hS hl => W.ldc2 C.1 C.2.1 C.2.2.2.1 (C.2.2.2.2.1 _ hw) rfl h (k H locs ls hM hS hl)
theorem V_if_eq (C : Cx p l s m args meth c D ba own cc nL tb d) {x : Int32} {off : Int} {tgt : Nat} (h : decode cc pc = .ok (.ifCond .eq off, 3)) (ht : (pc : Int) + off = (tgt : Int)) (kt : x = 0 → V p l e s m args below meth c D ba d mc ms Q nL ad w tgt lv rest cells slots) (kf : ¬ x = 0 → V p l e s m args below meth c D ba d mc ms Q nL ad w (pc + 3) lv rest cells slots) : V p l e s m args below meth c D ba d mc ms Q nL ad w pc lv (.int x :: rest) cells slots := fun H locs ls hM hS hl => lv_if_eq C.1 C.2.1 h ht (fun q => kt q H locs ls hM hS hl) (fun q => kf q H locs ls hM hS hl)
theorem V_if_ne (C : Cx p l s m args meth c D ba own cc nL tb d) {x : Int32} {off : Int} {tgt : Nat} (h : decode cc pc = .ok (.ifCond .ne off, 3)) (ht : (pc : Int) + off = (tgt : Int)) (kt : ¬ x = 0 → V p l e s m args below meth c D ba d mc ms Q nL ad w tgt lv rest cells slots) (kf : x = 0 → V p l e s m args below meth c D ba d mc ms Q nL ad w (pc + 3) lv rest cells slots) : V p l e s m args below meth c D ba d mc ms Q nL ad w pc lv (.int x :: rest) cells slots := fun H locs ls hM hS hl => lv_if_ne C.1 C.2.1 h ht (fun q => kt q H locs ls hM hS hl) (fun q => kf q H locs ls hM hS hl)
theorem V_if_lt (C : Cx p l s m args meth c D ba own cc nL tb d) {x : Int32} {off : Int} {tgt : Nat} (h : decode cc pc = .ok (.ifCond .lt off, 3)) (ht : (pc : Int) + off = (tgt : Int)) (kt : x < 0 → V p l e s m args below meth c D ba d mc ms Q nL ad w tgt lv rest cells slots) (kf : ¬ x < 0 → V p l e s m args below meth c D ba d mc ms Q nL ad w (pc + 3) lv rest cells slots) : V p l e s m args below meth c D ba d mc ms Q nL ad w pc lv (.int x :: rest) cells slots := fun H locs ls hM hS hl => lv_if_lt C.1 C.2.1 h ht (fun q => kt q H locs ls hM hS hl) (fun q => kf q H locs ls hM hS hl)
theorem V_if_ge (C : Cx p l s m args meth c D ba own cc nL tb d) {x : Int32} {off : Int} {tgt : Nat} (h : decode cc pc = .ok (.ifCond .ge off, 3)) (ht : (pc : Int) + off = (tgt : Int)) (kt : 0 ≤ x → V p l e s m args below meth c D ba d mc ms Q nL ad w tgt lv rest cells slots) (kf : ¬ 0 ≤ x → V p l e s m args below meth c D ba d mc ms Q nL ad w (pc + 3) lv rest cells slots) : V p l e s m args below meth c D ba d mc ms Q nL ad w pc lv (.int x :: rest) cells slots := fun H locs ls hM hS hl => lv_if_ge C.1 C.2.1 h ht (fun q => kt q H locs ls hM hS hl) (fun q => kf q H locs ls hM hS hl)
theorem V_if_gt (C : Cx p l s m args meth c D ba own cc nL tb d) {x : Int32} {off : Int} {tgt : Nat} (h : decode cc pc = .ok (.ifCond .gt off, 3)) (ht : (pc : Int) + off = (tgt : Int)) (kt : 0 < x → V p l e s m args below meth c D ba d mc ms Q nL ad w tgt lv rest cells slots) (kf : ¬ 0 < x → V p l e s m args below meth c D ba d mc ms Q nL ad w (pc + 3) lv rest cells slots) : V p l e s m args below meth c D ba d mc ms Q nL ad w pc lv (.int x :: rest) cells slots := fun H locs ls hM hS hl => lv_if_gt C.1 C.2.1 h ht (fun q => kt q H locs ls hM hS hl) (fun q => kf q H locs ls hM hS hl)
theorem V_if_le (C : Cx p l s m args meth c D ba own cc nL tb d) {x : Int32} {off : Int} {tgt : Nat} (h : decode cc pc = .ok (.ifCond .le off, 3)) (ht : (pc : Int) + off = (tgt : Int)) (kt : x ≤ 0 → V p l e s m args below meth c D ba d mc ms Q nL ad w tgt lv rest cells slots) (kf : ¬ x ≤ 0 → V p l e s m args below meth c D ba d mc ms Q nL ad w (pc + 3) lv rest cells slots) : V p l e s m args below meth c D ba d mc ms Q nL ad w pc lv (.int x :: rest) cells slots := fun H locs ls hM hS hl => lv_if_le C.1 C.2.1 h ht (fun q => kt q H locs ls hM hS hl) (fun q => kf q H locs ls hM hS hl)
theorem V_icmp_eq (C : Cx p l s m args meth c D ba own cc nL tb d) {x y : Int32} {off : Int} {tgt : Nat} (h : decode cc pc = .ok (.if_icmp .eq off, 3)) (ht : (pc : Int) + off = (tgt : Int)) (kt : x = y → V p l e s m args below meth c D ba d mc ms Q nL ad w tgt lv rest cells slots) (kf : ¬ x = y → V p l e s m args below meth c D ba d mc ms Q nL ad w (pc + 3) lv rest cells slots) : V p l e s m args below meth c D ba d mc ms Q nL ad w pc lv (.int y :: .int x :: rest) cells slots := fun H locs ls hM hS hl => lv_icmp_eq C.1 C.2.1 h ht (fun q => kt q H locs ls hM hS hl) (fun q => kf q H locs ls hM hS hl)
theorem V_icmp_ne (C : Cx p l s m args meth c D ba own cc nL tb d) {x y : Int32} {off : Int} {tgt : Nat} (h : decode cc pc = .ok (.if_icmp .ne off, 3)) (ht : (pc : Int) + off = (tgt : Int)) (kt : ¬ x = y → V p l e s m args below meth c D ba d mc ms Q nL ad w tgt lv rest cells slots) (kf : x = y → V p l e s m args below meth c D ba d mc ms Q nL ad w (pc + 3) lv rest cells slots) : V p l e s m args below meth c D ba d mc ms Q nL ad w pc lv (.int y :: .int x :: rest) cells slots := fun H locs ls hM hS hl => lv_icmp_ne C.1 C.2.1 h ht (fun q => kt q H locs ls hM hS hl) (fun q => kf q H locs ls hM hS hl)
theorem V_icmp_lt (C : Cx p l s m args meth c D ba own cc nL tb d) {x y : Int32} {off : Int} {tgt : Nat} (h : decode cc pc = .ok (.if_icmp .lt off, 3)) (ht : (pc : Int) + off = (tgt : Int)) (kt : x < y → V p l e s m args below meth c D ba d mc ms Q nL ad w tgt lv rest cells slots) (kf : ¬ x < y → V p l e s m args below meth c D ba d mc ms Q nL ad w (pc + 3) lv rest cells slots) : V p l e s m args below meth c D ba d mc ms Q nL ad w pc lv (.int y :: .int x :: rest) cells slots := fun H locs ls hM hS hl => lv_icmp_lt C.1 C.2.1 h ht (fun q => kt q H locs ls hM hS hl) (fun q => kf q H locs ls hM hS hl)
theorem V_icmp_ge (C : Cx p l s m args meth c D ba own cc nL tb d) {x y : Int32} {off : Int} {tgt : Nat} (h : decode cc pc = .ok (.if_icmp .ge off, 3)) (ht : (pc : Int) + off = (tgt : Int)) (kt : y ≤ x → V p l e s m args below meth c D ba d mc ms Q nL ad w tgt lv rest cells slots) (kf : ¬ y ≤ x → V p l e s m args below meth c D ba d mc ms Q nL ad w (pc + 3) lv rest cells slots) : V p l e s m args below meth c D ba d mc ms Q nL ad w pc lv (.int y :: .int x :: rest) cells slots := fun H locs ls hM hS hl => lv_icmp_ge C.1 C.2.1 h ht (fun q => kt q H locs ls hM hS hl) (fun q => kf q H locs ls hM hS hl)
theorem V_icmp_gt (C : Cx p l s m args meth c D ba own cc nL tb d) {x y : Int32} {off : Int} {tgt : Nat} (h : decode cc pc = .ok (.if_icmp .gt off, 3)) (ht : (pc : Int) + off = (tgt : Int)) (kt : y < x → V p l e s m args below meth c D ba d mc ms Q nL ad w tgt lv rest cells slots) (kf : ¬ y < x → V p l e s m args below meth c D ba d mc ms Q nL ad w (pc + 3) lv rest cells slots) : V p l e s m args below meth c D ba d mc ms Q nL ad w pc lv (.int y :: .int x :: rest) cells slots := fun H locs ls hM hS hl => lv_icmp_gt C.1 C.2.1 h ht (fun q => kt q H locs ls hM hS hl) (fun q => kf q H locs ls hM hS hl)
theorem V_icmp_le (C : Cx p l s m args meth c D ba own cc nL tb d) {x y : Int32} {off : Int} {tgt : Nat} (h : decode cc pc = .ok (.if_icmp .le off, 3)) (ht : (pc : Int) + off = (tgt : Int)) (kt : x ≤ y → V p l e s m args below meth c D ba d mc ms Q nL ad w tgt lv rest cells slots) (kf : ¬ x ≤ y → V p l e s m args below meth c D ba d mc ms Q nL ad w (pc + 3) lv rest cells slots) : V p l e s m args below meth c D ba d mc ms Q nL ad w pc lv (.int y :: .int x :: rest) cells slots := fun H locs ls hM hS hl => lv_icmp_le C.1 C.2.1 h ht (fun q => kt q H locs ls hM hS hl) (fun q => kf q H locs ls hM hS hl)
theorem V_goto (C : Cx p l s m args meth c D ba own cc nL tb d) {off : Int} {tgt : Nat} (h : decode cc pc = .ok (.goto off, 3)) (ht : (pc : Int) + off = (tgt : Int)) (k : V p l e s m args below meth c D ba d mc ms Q nL ad w tgt lv rest cells slots) : V p l e s m args below meth c D ba d mc ms Q nL ad w pc lv rest cells slots := fun H locs ls hM hS hl => lv_goto C.1 C.2.1 h ht (k H locs ls hM hS hl)
theorem V_ifnull (C : Cx p l s m args meth c D ba own cc nL tb d) {x : Nat} {off : Int} (h : decode cc pc = .ok (.ifnull off, 3)) (k : V p l e s m args below meth c D ba d mc ms Q nL ad w (pc + 3) lv rest cells slots) : V p l e s m args below meth c D ba d mc ms Q nL ad w pc lv (.ref x :: rest) cells slots := fun H locs ls hM hS hl => lv_ifnull C.1 C.2.1 h (k H locs ls hM hS hl)
theorem V_ifnullN (C : Cx p l s m args meth c D ba own cc nL tb d) {off : Int} {tgt : Nat} (h : decode cc pc = .ok (.ifnull off, 3)) (ht : (pc : Int) + off = (tgt : Int)) (k : V p l e s m args below meth c D ba d mc ms Q nL ad w tgt lv rest cells slots) : V p l e s m args below meth c D ba d mc ms Q nL ad w pc lv (.null :: rest) cells slots := fun H locs ls hM hS hl => lv_ifnullN C.1 C.2.1 h ht (k H locs ls hM hS hl)
theorem V_ifnonnull (C : Cx p l s m args meth c D ba own cc nL tb d) {x : Nat} {off : Int} {tgt : Nat} (h : decode cc pc = .ok (.ifnonnull off, 3)) (ht : (pc : Int) + off = (tgt : Int)) (k : V p l e s m args below meth c D ba d mc ms Q nL ad w tgt lv rest cells slots) : V p l e s m args below meth c D ba d mc ms Q nL ad w pc lv (.ref x :: rest) cells slots := fun H locs ls hM hS hl => lv_ifnonnull C.1 C.2.1 h ht (k H locs ls hM hS hl)
theorem V_ifnonnullN (C : Cx p l s m args meth c D ba own cc nL tb d) {off : Int} (h : decode cc pc = .ok (.ifnonnull off, 3)) (k : V p l e s m args below meth c D ba d mc ms Q nL ad w (pc + 3) lv rest cells slots) : V p l e s m args below meth c D ba d mc ms Q nL ad w pc lv (.null :: rest) cells slots := fun H locs ls hM hS hl => lv_ifnonnullN C.1 C.2.1 h (k H locs ls hM hS hl)
theorem V_aload_nN (C : Cx p l s m args meth c D ba own cc nL tb d) {i : Fin 4} (h : decode cc pc = .ok (.aload_n i, 1)) (j : Nat) (hj : lv[j]? = some ((i : Nat), .null)) (k : V p l e s m args below meth c D ba d mc ms Q nL ad w (pc + 1) lv (.null :: rest) cells slots) : V p l e s m args below meth c D ba d mc ms Q nL ad w pc lv rest cells slots := fun H locs ls hM hS hl => lv_aload_nN C.1 C.2.1 h rfl (lv_at hl j hj) (k H locs ls hM hS hl)
theorem V_aloadN (C : Cx p l s m args meth c D ba own cc nL tb d) {i : Nat} (h : decode cc pc = .ok (.aload i, 2)) (j : Nat) (hj : lv[j]? = some (i, .null)) (k : V p l e s m args below meth c D ba d mc ms Q nL ad w (pc + 2) lv (.null :: rest) cells slots) : V p l e s m args below meth c D ba d mc ms Q nL ad w pc lv rest cells slots := fun H locs ls hM hS hl => lv_aloadN C.1 C.2.1 h (lv_at hl j hj) (k H locs ls hM hS hl)
theorem V_tableIn (C : Cx p l s m args meth c D ba own cc nL tb d) {dflt lo hi : Int} {offs : Array Int} {len : Nat} {x : Int32} {off : Int} {tgt : Nat} (h : decode cc pc = .ok (.tableswitch dflt lo hi offs, len)) (h1 : ¬ x.toInt < lo) (h2 : ¬ hi < x.toInt) (ho : offs[(x.toInt - lo).toNat]? = some off) (ht : (pc : Int) + off = (tgt : Int)) (k : V p l e s m args below meth c D ba d mc ms Q nL ad w tgt lv rest cells slots) : V p l e s m args below meth c D ba d mc ms Q nL ad w pc lv (.int x :: rest) cells slots := fun H locs ls hM hS hl => lv_tableIn C.1 C.2.1 h h1 h2 ho ht (k H locs ls hM hS hl)
theorem V_tableOut (C : Cx p l s m args meth c D ba own cc nL tb d) {dflt lo hi : Int} {offs : Array Int} {len : Nat} {x : Int32} {tgt : Nat} (h : decode cc pc = .ok (.tableswitch dflt lo hi offs, len)) (h1 : x.toInt < lo ∨ hi < x.toInt) (ht : (pc : Int) + dflt = (tgt : Int)) (k : V p l e s m args below meth c D ba d mc ms Q nL ad w tgt lv rest cells slots) : V p l e s m args below meth c D ba d mc ms Q nL ad w pc lv (.int x :: rest) cells slots := fun H locs ls hM hS hl => lv_tableOut C.1 C.2.1 h h1 ht (k H locs ls hM hS hl)
end EG
end
section
section EH
variable {p : Program} {l : Launch} {e : Env} {s : State} {m : MethodId} {args : Array Value} {below : List Frame} {meth : Method} {c : Code} {D : va_G} {ba : Nat} {d mc ms : Nat} {Q : State → Prop} {nL : Nat} {ad : Adr} {w : Wd} {pc : Nat} {lv : List (Nat × Value)} {rest : List Value} {cells slots : Nat}
variable {own : String} {cc : ByteArray} {tb : List ExceptionTableEntry}
theorem eg_one {D : va_G} {cl : List vw_C} {a : Nat} {x : va_E} {H : Heap} (h : va_at D cl (a, x) H) : va_P D cl [(a, x)] H := by
  intro k q hk
  match k, hk with
  | 0, hk => cases hk; exact h
theorem eg_K1 {cA : ClassId} {ty : FieldType} {U : State} (h : va_K D vwCl [] U) (h1 : ArrOfT U cA ty) (h2 : va_RA U cA ty) : va_K D vwCl [(cA, ty)] U :=
  ⟨h.1, fun k q hk => by
    match k, hk with
    | 0, hk => cases hk; exact ⟨h1, h2⟩⟩
/-- the field tables' words among all words -/
def eg_FW (C : String) (T : u_T) (N : Nat) : Prop := ∀ w ∈ u_ws C T N, w ∈ eg_T
theorem V_get (C : Cx p l s m args meth c D ba own cc nL tb d) {i ci k : Nat} {fs : List Value} {v : Value} {L : Lab} {a : Nat} (h : decode cc pc = .ok (.getfield i, 3)) (ref K : String) (T : u_T) (N : Nat) (hF : eg_FW K T N) (hc : vwCl[ci]? = some (K, T, N)) (hk : k < N) (hlink : Cond.fieldLink own i ref (T k).2.1 (T k).2.2.1 ∈ eg_T) (hsame : (T k).1 = ref) (ha : a = ad L) (hw : w L = some (.inr (ci, fs))) (hv : fs[k]? = some v)
    (kk : V p l e s m args below meth c D ba d mc ms Q nL ad w (pc + 3) lv (v :: rest) cells slots) : V p l e s m args below meth c D ba d mc ms Q nL ad w pc lv (.ref a :: rest) cells slots := by
  intro H locs ls hM hS hl
  subst ha
  have h1 : va_at D vwCl (ad L, .inr (ci, fs)) H := (hM.1 _ _ hw).1
  exact va_get (D := D) (cl := vwCl) (ci := ci) (C := K) (T := T) (N := N) (tys := []) C.1 C.2.1 C.2.2.2.2.1 hF C.2.2.2.1 C.2.2.2.2.2.1.1 (eg_one h1) 0 rfl hc k hk (C.2.2.2.2.1 _ hlink) (fun _ z => by rw [← hsame]; exact z) hv h (kk H locs ls hM hS hl)
theorem V_getN (C : Cx p l s m args meth c D ba own cc nL tb d) {i ci k : Nat} {fs : List Value} {v : Value} {L : Lab} {a : Nat} (h : decode cc pc = .ok (.getfield i, 3)) (ref K host : String) (T : u_T) (N : Nat) (hF : eg_FW K T N) (hc : vwCl[ci]? = some (K, T, N)) (hk : k < N) (hlink : Cond.fieldLinkNest own i ref (T k).2.1 (T k).2.2.1 host ∈ lw_tbl) (hsame : (T k).1 = ref) (ha : a = ad L) (hw : w L = some (.inr (ci, fs))) (hv : fs[k]? = some v)
    (kk : V p l e s m args below meth c D ba d mc ms Q nL ad w (pc + 3) lv (v :: rest) cells slots) : V p l e s m args below meth c D ba d mc ms Q nL ad w pc lv (.ref a :: rest) cells slots := by
  intro H locs ls hM hS hl
  subst ha
  have h1 : va_at D vwCl (ad L, .inr (ci, fs)) H := (hM.1 _ _ hw).1
  exact va_getN (D := D) (cl := vwCl) (ci := ci) (C := K) (T := T) (N := N) (tys := []) C.1 C.2.1 C.2.2.2.2.1 hF C.2.2.2.1 C.2.2.2.2.2.1.1 (eg_one h1) 0 rfl hc k hk (va_Nw.use rfl (C.2.2.2.2.2.1.2.1 _ hlink rfl)) (fun _ z => by rw [← hsame]; exact z) hv h (kk H locs ls hM hS hl)
theorem V_put (C : Cx p l s m args meth c D ba own cc nL tb d) {i ci k : Nat} {fs : List Value} {v : Value} {L : Lab} {a : Nat} (h : decode cc pc = .ok (.putfield i, 3)) (ref K : String) (T : u_T) (N : Nat) (ty0 : Nat → FieldType) (hty : ∀ k, k < N → parseFieldDescriptor (T k).2.2.1 = some (ty0 k)) (hnm : ∀ a, a < N → ∀ b, b < N → a ≠ b → (T a).2.1 ≠ (T b).2.1) (hF : eg_FW K T N) (hc : vwCl[ci]? = some (K, T, N)) (hk : k < N) (hlink : Cond.fieldLink own i ref (T k).2.1 (T k).2.2.1 ∈ eg_T) (hsame : (T k).1 = ref) (hfin : (T k).2.2.2 = false ∨ ((T k).2.2.2 = true ∧ meth.name = "<init>" ∧ (T k).1 = own)) (hn : narrow (ty0 k) v = v) (hfit : fits (ty0 k) v = true) (ha : a = ad L) (hw : w L = some (.inr (ci, fs))) (hl0 : k < fs.length)
    (kk : V p l e s m args below meth c D ba d mc ms Q nL ad (wset w L (.inr (ci, fs.set k v))) (pc + 3) lv rest cells slots) : V p l e s m args below meth c D ba d mc ms Q nL ad w pc lv (v :: .ref a :: rest) cells slots := by
  intro H locs ls hM hS hlv
  subst ha
  have hts := C.2.2.2.2.1
  have hK := C.2.2.2.2.2.1.1
  have hap := va_apart (own := own) hts hF ty0 hty hnm hK hc
  obtain ⟨r, h1, cell, q1, q2, q3, q4⟩ := (hM.1 _ _ hw).1
  have hr : r = (K, T, N) := Option.some.inj (h1.symm.trans hc)
  subst hr
  obtain ⟨hSl, hfc, kC, hkC, hkind⟩ := hK.1 ci _ hc
  obtain ⟨cf, kf, fi, f, hi, hsl⟩ := hSl k hk
  have hlay := hts _ (hF _ (u_in_lay hk))
  have hd := hty k hk
  have hi2 : s.fieldFound? ref (T k).2.1 (T k).2.2.1 = some (cf, kf, fi, f) := by rw [← hsame]; exact hi
  have fin : ∀ (H' : Heap), H'[ad L]? = some (cell.setSlot f.slot v) → H'.size = H.size → (∀ q, q ≠ ad L → H'[q]? = H[q]?) → W p l e (rmO d mc ms) s m args below meth c H' (locs ++ [⟨ad L, f.slot⟩]) cells slots Q (F0 m (pc + 3) ls rest) := by
    intro H' e1 e2 e3
    rw [hsl] at e1
    refine kk H' _ ls (hM.set hw ⟨_, hc, t_OB.to (V := updV (vp_V fs) k v) ⟨_, e1, q2, q3, t_set q4 hap hk v⟩ (fun j _ => vp_updV_set hl0 v j)⟩ e3) (hS.put e2 e3 (hM.1 _ _ hw).2) hlv
  rcases hfin with hfin | ⟨hfin, hin2, hdecl⟩
  · unfold u_lay at hlay
    rw [if_neg (by rw [hfin]; decide)] at hlay
    have hst := (u_facts hfc hkC (u_lays hts hF hk) hi).1
    have h6 := u_store hfc hkC hkind hlay hi hd hn hfit
    exact W.putK C.1 C.2.1 (f := f) ⟨C.2.2.2.1, hts _ hlink, ⟨_, _, _, hi2⟩, hst⟩ (by rw [q2]; exact h6) q1 q3 (by rw [hsl]; exact k2_hasslot (q4 k hk)) rfl rfl h fin
  · unfold u_lay at hlay
    rw [if_pos hfin] at hlay
    have hst := (u_facts hfc hkC (u_lays hts hF hk) hi).1
    have hcf : m.cls = cf := by
      obtain ⟨_, _, c', _, _, _, -, -, hf', -, -, -, hown2, -⟩ := Cond.laysFinal_spec hlay
      have e1 : c' = cf := by have := hi.symm.trans hf'; simp at this; exact this.1.symm
      rw [hdecl] at hown2
      rw [← e1]; exact Option.some.inj (C.2.2.2.1.symm.trans hown2)
    have h6 := u_fits hfc hkC hkind (Or.inr hlay) hi hd hn hfit
    exact W.putFinK C.1 C.2.1 C.2.2.2.1 (hts _ hlink) hi2 hst hcf hin2 (by rw [q2]; exact h6) q1 q3 (by rw [hsl]; exact k2_hasslot (q4 k hk)) rfl rfl h fin
theorem V_putN (C : Cx p l s m args meth c D ba own cc nL tb d) {i ci k : Nat} {fs : List Value} {v : Value} {L : Lab} {a : Nat} (h : decode cc pc = .ok (.putfield i, 3)) (ref K host : String) (T : u_T) (N : Nat) (ty0 : Nat → FieldType) (hty : ∀ k, k < N → parseFieldDescriptor (T k).2.2.1 = some (ty0 k)) (hnm : ∀ a, a < N → ∀ b, b < N → a ≠ b → (T a).2.1 ≠ (T b).2.1) (hF : eg_FW K T N) (hc : vwCl[ci]? = some (K, T, N)) (hk : k < N) (hlink : Cond.fieldLinkNest own i ref (T k).2.1 (T k).2.2.1 host ∈ lw_tbl) (hsame : (T k).1 = ref) (hfin : (T k).2.2.2 = false) (hn : narrow (ty0 k) v = v) (hfit : fits (ty0 k) v = true) (ha : a = ad L) (hw : w L = some (.inr (ci, fs))) (hl0 : k < fs.length)
    (kk : V p l e s m args below meth c D ba d mc ms Q nL ad (wset w L (.inr (ci, fs.set k v))) (pc + 3) lv rest cells slots) : V p l e s m args below meth c D ba d mc ms Q nL ad w pc lv (v :: .ref a :: rest) cells slots := by
  intro H locs ls hM hS hlv
  subst ha
  have hts := C.2.2.2.2.1
  have hK := C.2.2.2.2.2.1.1
  have hap := va_apart (own := own) hts hF ty0 hty hnm hK hc
  obtain ⟨r, h1, cell, q1, q2, q3, q4⟩ := (hM.1 _ _ hw).1
  have hr : r = (K, T, N) := Option.some.inj (h1.symm.trans hc)
  subst hr
  obtain ⟨hSl, hfc, kC, hkC, hkind⟩ := hK.1 ci _ hc
  obtain ⟨cf, kf, fi, f, hi, hsl⟩ := hSl k hk
  have hlay := hts _ (hF _ (u_in_lay hk))
  have hd := hty k hk
  have hi2 : s.fieldFound? ref (T k).2.1 (T k).2.2.1 = some (cf, kf, fi, f) := by rw [← hsame]; exact hi
  unfold u_lay at hlay
  rw [if_neg (by rw [hfin]; decide)] at hlay
  have hst := (u_facts hfc hkC (u_lays hts hF hk) hi).1
  have h6 := u_store hfc hkC hkind hlay hi hd hn hfit
  refine va_WputK C.1 C.2.1 (f := f) C.2.2.2.1 (va_Nw.use rfl (C.2.2.2.2.2.1.2.1 _ hlink rfl)) hi2 hst (by rw [q2]; exact h6) q1 q3 (by rw [hsl]; exact k2_hasslot (q4 k hk)) rfl rfl h ?_
  intro H' e1 e2 e3
  rw [hsl] at e1
  exact kk H' _ ls (hM.set hw ⟨_, hc, t_OB.to (V := updV (vp_V fs) k v) ⟨_, e1, q2, q3, t_set q4 hap hk v⟩ (fun j _ => vp_updV_set hl0 v j)⟩ e3) (hS.put e2 e3 (hM.1 _ _ hw).2) hlv
/-! arrays -/
abbrev eI (n : Nat) (f : Nat → Int32) : Ent := .inl (.int, n, .inl f)
abbrev eJ (n : Nat) (f : Nat → Int64) : Ent := .inl (.long, n, .inr (.inl f))
abbrev eQ (C : String) (n : Nat) (f : Nat → Option Nat) : Ent := .inl (.object C, n, .inr (.inr (.inr (.inr f))))
theorem V_iald (C : Cx p l s m args meth c D ba own cc nL tb d) {n : Nat} {f : Nat → Int32} {L : Lab} {a : Nat} {i : Int32} (h : decode cc pc = .ok (.iaload, 1)) (ha : a = ad L) (hw : w L = some (eI n f)) (hin : vp_in i n)
    (kk : V p l e s m args below meth c D ba d mc ms Q nL ad w (pc + 1) lv (.int (f i.toNatClampNeg) :: rest) cells slots) : V p l e s m args below meth c D ba d mc ms Q nL ad w pc lv (.int i :: .ref a :: rest) cells slots := by
  intro H locs ls hM hS hl
  subst ha
  obtain ⟨cA, ⟨h1, h2⟩, h3⟩ := (hM.1 _ _ hw).1
  exact va_iald (D := D) (cl := vwCl) C.1 C.2.1 (eg_K1 C.2.2.2.2.2.1.1 h1 h2) (eg_one (x := .inl (cA, n, .inl f)) h3) 0 0 rfl rfl hin h (kk H locs ls hM hS hl)
theorem V_lald (C : Cx p l s m args meth c D ba own cc nL tb d) {n : Nat} {f : Nat → Int64} {L : Lab} {a : Nat} {i : Int32} (h : decode cc pc = .ok (.laload, 1)) (ha : a = ad L) (hw : w L = some (eJ n f)) (hin : vp_in i n)
    (kk : V p l e s m args below meth c D ba d mc ms Q nL ad w (pc + 1) lv (.long (f i.toNatClampNeg) :: rest) cells slots) : V p l e s m args below meth c D ba d mc ms Q nL ad w pc lv (.int i :: .ref a :: rest) cells slots := by
  intro H locs ls hM hS hl
  subst ha
  obtain ⟨cA, ⟨h1, h2⟩, h3⟩ := (hM.1 _ _ hw).1
  exact va_lald (D := D) (cl := vwCl) C.1 C.2.1 (eg_K1 C.2.2.2.2.2.1.1 h1 h2) (eg_one (x := .inl (cA, n, .inr (.inl f))) h3) 0 0 rfl rfl hin h (kk H locs ls hM hS hl)
theorem V_aald (C : Cx p l s m args meth c D ba own cc nL tb d) {K : String} {n : Nat} {f : Nat → Option Nat} {L : Lab} {a : Nat} {i : Int32} {v : Value} (h : decode cc pc = .ok (.aaload, 1)) (ha : a = ad L) (hw : w L = some (eQ K n f)) (hin : vp_in i n) (hv : va_rf (f i.toNatClampNeg) = v)
    (kk : V p l e s m args below meth c D ba d mc ms Q nL ad w (pc + 1) lv (v :: rest) cells slots) : V p l e s m args below meth c D ba d mc ms Q nL ad w pc lv (.int i :: .ref a :: rest) cells slots := by
  intro H locs ls hM hS hl
  subst ha
  subst hv
  obtain ⟨cA, ⟨h1, h2⟩, h3⟩ := (hM.1 _ _ hw).1
  exact va_aldq (D := D) (cl := vwCl) C.1 C.2.1 (eg_K1 C.2.2.2.2.2.1.1 h1 h2) (eg_one (x := .inl (cA, n, .inr (.inr (.inr (.inr f))))) h3) 0 0 rfl rfl hin h (kk H locs ls hM hS hl)
theorem V_alen (C : Cx p l s m args meth c D ba own cc nL tb d) {x : FieldType × vp_A} {L : Lab} {a : Nat} {v : Int32} (h : decode cc pc = .ok (.arraylength, 1)) (ha : a = ad L) (hw : w L = some (.inl x)) (hv : Int32.ofNat x.2.1 = v)
    (kk : V p l e s m args below meth c D ba d mc ms Q nL ad w (pc + 1) lv (.int v :: rest) cells slots) : V p l e s m args below meth c D ba d mc ms Q nL ad w pc lv (.ref a :: rest) cells slots := by
  intro H locs ls hM hS hl
  subst ha
  obtain ⟨cA, ⟨h1, h2⟩, h3⟩ := (hM.1 _ _ hw).1
  exact va_alen (D := D) (cl := vwCl) C.1 C.2.1 (eg_K1 C.2.2.2.2.2.1.1 h1 h2) (eg_one (x := .inl (cA, x.2)) h3) 0 0 rfl rfl hv h (kk H locs ls hM hS hl)
theorem V_iast (C : Cx p l s m args meth c D ba own cc nL tb d) {n : Nat} {f : Nat → Int32} {L : Lab} {a : Nat} {i x : Int32} (h : decode cc pc = .ok (.iastore, 1)) (ha : a = ad L) (hw : w L = some (eI n f)) (hin : vp_in i n)
    (kk : V p l e s m args below meth c D ba d mc ms Q nL ad (wset w L (eI n (upd f i.toNatClampNeg x))) (pc + 1) lv rest cells slots) : V p l e s m args below meth c D ba d mc ms Q nL ad w pc lv (.int x :: .int i :: .ref a :: rest) cells slots := by
  intro H locs ls hM hS hl
  subst ha
  obtain ⟨cA, ⟨h1, h2⟩, h3⟩ := (hM.1 _ _ hw).1
  refine W.iast C.1 C.2.1 h3 (h1 n (fun j => .int (f j))) (fun q => by cases q) (by show ¬ (i < 0 ∨ (arrV _ _ _).slots.size ≤ _); rw [arrV_size]; exact hin) rfl rfl h fun H1 e1 z oq => ?_
  refine kk H1 _ ls (hM.set hw ⟨cA, ⟨h1, h2⟩, ?_⟩ oq) (hS.put z oq (hM.1 _ _ hw).2) hl
  show H1[ad L]? = some (vp_cell _ _)
  rw [e1]
  rw [vp_cell_i, vp_cell_i, arrV_store]
  congr 2
  funext q
  by_cases hq : q = i.toNatClampNeg
  · subst hq
    simp [updV, upd]
  · simp [updV, upd, hq]
theorem V_last (C : Cx p l s m args meth c D ba own cc nL tb d) {n : Nat} {f : Nat → Int64} {L : Lab} {a : Nat} {i : Int32} {x : Int64} (h : decode cc pc = .ok (.lastore, 1)) (ha : a = ad L) (hw : w L = some (eJ n f)) (hin : vp_in i n)
    (kk : V p l e s m args below meth c D ba d mc ms Q nL ad (wset w L (eJ n (vp_updL f i.toNatClampNeg x))) (pc + 1) lv rest cells slots) : V p l e s m args below meth c D ba d mc ms Q nL ad w pc lv (.long x :: .int i :: .ref a :: rest) cells slots := by
  intro H locs ls hM hS hl
  subst ha
  obtain ⟨cA, ⟨h1, h2⟩, h3⟩ := (hM.1 _ _ hw).1
  refine W.last C.1 C.2.1 h3 (h1 n (fun j => .long (f j))) (fun q => by cases q) (by show ¬ (i < 0 ∨ (arrV _ _ _).slots.size ≤ _); rw [arrV_size]; exact hin) rfl rfl h fun H1 e1 z oq => ?_
  refine kk H1 _ ls (hM.set hw ⟨cA, ⟨h1, h2⟩, ?_⟩ oq) (hS.put z oq (hM.1 _ _ hw).2) hl
  show H1[ad L]? = some (vp_cell _ _)
  rw [e1]
  rw [vp_cell_l, vp_cell_l, arrV_store]
  congr 2
  funext q
  by_cases hq : q = i.toNatClampNeg
  · subst hq
    simp [updV, vp_updL]
  · simp [updV, vp_updL, hq]
theorem V_aast (C : Cx p l s m args meth c D ba own cc nL tb d) {r : vw_C} {n ci : Nat} {f : Nat → Option Nat} {L Lv : Lab} {a b : Nat} {i : Int32} {vs : List Value} (h : decode cc pc = .ok (.aastore, 1)) (ha : a = ad L) (hw : w L = some (eQ r.1 n f)) (hb : b = ad Lv) (hv : w Lv = some (.inr (ci, vs))) (hc : vwCl[ci]? = some r) (hin : vp_in i n)
    (kk : V p l e s m args below meth c D ba d mc ms Q nL ad (wset w L (eQ r.1 n (va_up f i.toNatClampNeg (some b)))) (pc + 1) lv rest cells slots) : V p l e s m args below meth c D ba d mc ms Q nL ad w pc lv (.ref b :: .int i :: .ref a :: rest) cells slots := by
  intro H locs ls hM hS hl
  subst ha
  subst hb
  obtain ⟨cA, ⟨h1, h2⟩, h3⟩ := (hM.1 _ _ hw).1
  obtain ⟨r', hr', cellV, g1, g2, g3, -⟩ := (hM.1 _ _ hv).1
  have hlt : i.toNatClampNeg < n := Nat.not_le.mp fun q => hin (Or.inr q)
  have h0 : ¬ i < 0 := fun q => hin (Or.inl q)
  have hdv : va_RA s cA (.object r.1) := h2
  have hcls := (C.2.2.2.2.2.1.1.1 ci r hc).2
  obtain ⟨kA, comp, k1, k2, k3, -⟩ := h2
  have hcomp : comp = D.1 ci := Option.some.inj (k3.symm.trans hcls.1)
  subst hcomp
  obtain ⟨kC, hkC, -⟩ := hcls.2
  refine W.aast C.1 C.2.1 h3 (fun q h => by cases h) (fun h => by cases h) k1 k2 rfl hkC ⟨h0, by show _ < (arrV _ _ _).slots.size; rw [arrV_size]; exact hlt⟩ g1 (fun q h => by rw [g3] at h; cases h) (by rw [g2]; exact hkC) (by rw [g2]; exact va_assign hcls) rfl rfl h fun H1 e1 z oq => ?_
  refine kk H1 _ ls (hM.set hw ⟨cA, ⟨h1, hdv⟩, ?_⟩ oq) (hS.put z oq (hM.1 _ _ hw).2) hl
  show H1[ad L]? = some (vp_cell _ _)
  rw [e1]
  rw [vp_cell_q, vp_cell_q, arrV_store]
  congr 2
  funext q
  by_cases hq : q = i.toNatClampNeg
  · subst hq
    simp [updV, va_up, va_rf]
  · simp [updV, va_up, hq]
/-! making -/
theorem V_new (C : Cx p l s m args meth c D ba own cc nL tb d) {i ci : Nat} {fs : List Value} (L : Lab) (h : decode cc pc = .ok (.new i, 3)) (K : String) (T : u_T) (N : Nat) (ty0 : Nat → FieldType) (hty : ∀ k, k < N → parseFieldDescriptor (T k).2.2.1 = some (ty0 k)) (hF : eg_FW K T N) (hc : vwCl[ci]? = some (K, T, N)) (hl1 : Cond.classLink own i K ∈ eg_T) (hl2 : Cond.instantiable K N ∈ eg_T) (hl3 : Cond.initialized K ∈ eg_T) (hfs : ∀ j, j < N → defaultValue (ty0 j) = vp_V fs j) (hL : w L = none) (h1 : cells + 1 ≤ mc) (h2 : slots + N ≤ ms)
    (kk : ∀ a : Nat, V p l e s m args below meth c D ba d mc ms Q nL (aset ad L a) (wset w L (.inr (ci, fs))) (pc + 3) lv (.ref a :: rest) (cells + 1) (slots + N)) : V p l e s m args below meth c D ba d mc ms Q nL ad w pc lv rest cells slots := by
  intro H locs ls hM hS hl
  have hts := C.2.2.2.2.1
  have hKn := C.2.2.2.2.2.1.1.1 ci _ hc
  refine W.newcK C.1 C.2.1 C.2.2.2.1 (hts _ hl1) (hts _ hl2) (hts _ hl3) rfl h h1 h2 hKn.2.1 rfl fun H1 kC hkC e1 z1 o1 => ?_
  exact kk H.size H1 locs ls (hM.new hL (Nat.le_trans C.2.2.2.2.2.2.1 hS.1) ⟨_, hc, (u_born ty0 hts hF hKn hkC e1 hty).to hfs⟩ o1) ⟨Nat.le_trans hS.1 (by omega), fun x h1 h2 => (o1 x (Nat.lt_of_lt_of_le h1 hS.1)).trans (hS.2.1 x h1 h2), hS.2.2⟩ hl
theorem V_newI (C : Cx p l s m args meth c D ba own cc nL tb d) {n : Int32} {N : Nat} (L : Lab) (h : decode cc pc = .ok (.newarray .int, 2)) (hl1 : Cond.arrayClass .int ∈ eg_T) (hn : ¬ n < 0) (hN : n.toNatClampNeg = N) (hb : N * 4 ≤ 536870912) (hL : w L = none) (h1 : cells + 1 ≤ mc) (h2 : slots + N ≤ ms)
    (kk : ∀ a : Nat, V p l e s m args below meth c D ba d mc ms Q nL (aset ad L a) (wset w L (eI N (fun _ => 0))) (pc + 2) lv (.ref a :: rest) (cells + 1) (slots + N)) : V p l e s m args below meth c D ba d mc ms Q nL ad w pc lv (.int n :: rest) cells slots := by
  intro H locs ls hM hS hl
  refine va_newaK (atype := .int) C.1 C.2.1 (C.2.2.2.2.1 _ hl1) rfl h rfl hn hN hb h1 h2 rfl fun H1 cA e1 z1 o1 hAr hNm => ?_
  exact kk H.size H1 locs ls (hM.new hL (Nat.le_trans C.2.2.2.2.2.2.1 hS.1) ⟨cA, ⟨hAr, hNm⟩, e1⟩ o1) ⟨Nat.le_trans hS.1 (by omega), fun x h1 h2 => (o1 x (Nat.lt_of_lt_of_le h1 hS.1)).trans (hS.2.1 x h1 h2), hS.2.2⟩ hl
theorem V_newJ (C : Cx p l s m args meth c D ba own cc nL tb d) {n : Int32} {N : Nat} (L : Lab) (h : decode cc pc = .ok (.newarray .long, 2)) (hl1 : Cond.arrayClass .long ∈ eg_T) (hn : ¬ n < 0) (hN : n.toNatClampNeg = N) (hb : N * 8 ≤ 536870912) (hL : w L = none) (h1 : cells + 1 ≤ mc) (h2 : slots + N ≤ ms)
    (kk : ∀ a : Nat, V p l e s m args below meth c D ba d mc ms Q nL (aset ad L a) (wset w L (eJ N (fun _ => 0))) (pc + 2) lv (.ref a :: rest) (cells + 1) (slots + N)) : V p l e s m args below meth c D ba d mc ms Q nL ad w pc lv (.int n :: rest) cells slots := by
  intro H locs ls hM hS hl
  refine va_newaK (atype := .long) C.1 C.2.1 (C.2.2.2.2.1 _ hl1) rfl h rfl hn hN hb h1 h2 rfl fun H1 cA e1 z1 o1 hAr hNm => ?_
  exact kk H.size H1 locs ls (hM.new hL (Nat.le_trans C.2.2.2.2.2.2.1 hS.1) ⟨cA, ⟨hAr, hNm⟩, e1⟩ o1) ⟨Nat.le_trans hS.1 (by omega), fun x h1 h2 => (o1 x (Nat.lt_of_lt_of_le h1 hS.1)).trans (hS.2.1 x h1 h2), hS.2.2⟩ hl
theorem V_newQ (C : Cx p l s m args meth c D ba own cc nL tb d) {i : Nat} {n : Int32} {N : Nat} (L : Lab) (K : String) (h : decode cc pc = .ok (.anewarray i, 3)) (hl1 : Cond.classLink own i K ∈ eg_T) (hl2 : Cond.arrayOver (.object K) ∈ lw_tbl) (hn : ¬ n < 0) (hN : n.toNatClampNeg = N) (hb : N * 4 ≤ 536870912) (hL : w L = none) (h1 : cells + 1 ≤ mc) (h2 : slots + N ≤ ms)
    (kk : ∀ a : Nat, V p l e s m args below meth c D ba d mc ms Q nL (aset ad L a) (wset w L (eQ K N (fun _ => none))) (pc + 3) lv (.ref a :: rest) (cells + 1) (slots + N)) : V p l e s m args below meth c D ba d mc ms Q nL ad w pc lv (.int n :: rest) cells slots := by
  intro H locs ls hM hS hl
  subst hN
  refine W.anew C.1 C.2.1 C.2.2.2.1 (C.2.2.2.2.1 _ hl1) (va_AO.use (C.2.2.2.2.2.1.2.2.1 K hl2)) rfl h rfl hn hb h1 h2 fun cA kA comp f1 f2 f3 f4 => ?_
  generalize hH1 : H.push ({ cls := cA, slots := Array.replicate n.toNatClampNeg .null, vm := .none } : Cell) = H1
  have z1 : H1.size = H.size + 1 := by rw [← hH1, Array.size_push]
  have e1 : H1[H.size]? = some (arrV cA n.toNatClampNeg (fun _ => .null)) := by rw [← hH1, Array.getElem?_push_size, ← arrV_new]
  have o1 : ∀ q : Nat, q < H.size → H1[q]? = H[q]? := fun q hq => by rw [← hH1, Array.getElem?_push, if_neg (Nat.ne_of_lt hq)]
  have hAr : ArrOfT s cA (.object K) := fun N z => ⟨(fun k h => by cases h), kA, f2, comp, f3⟩
  exact kk H.size H1 locs ls (hM.new hL (Nat.le_trans C.2.2.2.2.2.2.1 hS.1) ⟨cA, ⟨hAr, kA, comp, f2, f3, f4, f1⟩, by rw [vp_cell_q]; exact e1⟩ o1) ⟨Nat.le_trans hS.1 (by omega), fun x h1 h2 => (o1 x (Nat.lt_of_lt_of_le h1 hS.1)).trans (hS.2.1 x h1 h2), hS.2.2⟩ hl
end EH
end
section
section EC
variable {p : Program} {l : Launch} {e : Env} {s : State} {m : MethodId} {args : Array Value} {below : List Frame} {meth : Method} {c : Code} {D : va_G} {ba : Nat} {d mc ms : Nat} {Q : State → Prop} {nL : Nat} {ad : Adr} {w : Wd} {pc : Nat} {lv : List (Nat × Value)} {rest : List Value} {cells slots : Nat}
variable {own : String} {cc : ByteArray} {tb : List ExceptionTableEntry}
variable {QR : Option Value → Adr → Wd → Prop} {QX : String → Adr → Wd → Prop}
abbrev wsO (y : MethodName) (cy : ByteArray) (n : Nat) (ry : Option FieldType) : List Cond := Cond.code y cy n ry :: eg_T
abbrev wsH (y : MethodName) (cy : ByteArray) (n : Nat) (ry : Option FieldType) (hh : List (Nat × Nat × Nat × Nat)) : List Cond := Cond.codeWith y cy n ry hh :: eg_T
theorem eg_gi {ws : List Cond} (h : ∀ w ∈ ws, w ∈ eg_T) : GoodIn eg_T ws := fun w hw => ⟨h w hw, (eg_TT w (h w hw)).2⟩
theorem eg_c1 {w : Cond} (h : w ∈ eg_T) {ws : List Cond} (hs : ∀ w ∈ ws, w ∈ eg_T) : ∀ w' ∈ w :: ws, w' ∈ eg_T := fun w' h' => (List.mem_cons.mp h').elim (fun z => by rw [z]; exact h) (hs w')
theorem eg_c0 : ∀ w' ∈ eg_T, w' ∈ eg_T := fun _ h => h
/-- what the tables say of a method that is called: by a static, an instance, a constructor's call -/
def eg_M (y : MethodName) (cy : ByteArray) (n : Nat) (ry : Option FieldType) (k : Nat) : Prop := Cond.code y cy n ry ∈ eg_T ∧ Cond.initialized y.cls ∈ eg_T ∧ y.cls ≠ "java/lang/invoke/MethodHandle" ∧ y.cls ≠ "java/lang/invoke/VarHandle" ∧ (parseMethodDescriptor y.desc).map (fun d => d.parameters.length) = some k
def eg_MH (y : MethodName) (cy : ByteArray) (n : Nat) (ry : Option FieldType) (hh : List (Nat × Nat × Nat × Nat)) (k : Nat) : Prop := Cond.codeWith y cy n ry hh ∈ eg_T ∧ Cond.initialized y.cls ∈ eg_T ∧ y.cls ≠ "java/lang/invoke/MethodHandle" ∧ y.cls ≠ "java/lang/invoke/VarHandle" ∧ (parseMethodDescriptor y.desc).map (fun d => d.parameters.length) = some k
theorem eg_pre (C : Cx p l s m args meth c D ba own cc nL tb d) {H : Heap} {locs : List Loc} (hM : Mem D ba s ad w H) (hS : va_S (fun q => ba ≤ q) s.heap H locs) (as : List Value) : ∀ U : State, U.heap = H → s.WarmedH U.vm → mPc D ba as ad w as.toArray U := fun U hU hW =>
  ⟨rfl, NF.moved hW (fun q h1 h2 => by rw [hU]; exact hS.2.1 q h1 h2) C.2.2.2.2.2.1, by rw [hU]; exact Nat.le_trans C.2.2.2.2.2.2.1 hS.1, by rw [hU]; exact hM.moved hW.alike⟩
theorem eg_recv (C : Cx p l s m args meth c D ba own cc nL tb d) {H : Heap} (hM : Mem D ba s ad w H) {L : Lab} {ci : Nat} {fs : List Value} {r : vw_C} (hc : vwCl[ci]? = some r) (hw : w L = some (.inr (ci, fs))) : ∃ cell : Cell, H[ad L]? = some cell ∧ cell.vm.isStatics = false ∧ s.vm.findClass r.1 = some cell.cls := by
  have h1 : va_at D vwCl (ad L, .inr (ci, fs)) H := (hM.1 _ _ hw).1
  exact va_recv (tys := []) C.2.2.2.2.2.1.1 (eg_one h1) hc (q0 := 0) rfl
/-- what a call's run gives behind it -/
theorem V_run {st0 : List Value} {a : Array Value} {mc' ms' : Nat} (C : Cx p l s m args meth c D ba own cc nL tb d)
    (hr : ∀ (H : Heap) (locs : List Loc) (ls : Array Slot), Mem D ba s ad w H → va_S (fun q => ba ≤ q) s.heap H locs → lv_has ls nL lv → vx_Run p l e (rmO d mc ms) s m args below meth c H locs cells slots mc' ms' (F0 m pc ls st0) rest (mQc D ba QR a) (mXC D ba QX) (fun q => ba ≤ q))
    (kr : ∀ (v : Option Value) (ad' : Adr) (w' : Wd), QR v ad' w' → V p l e s m args below meth c D ba d mc ms Q nL ad' w' (pc + 3) lv (v.toList ++ rest) (cells + mc') (slots + ms'))
    (kx : ∀ (E : String) (ad' : Adr) (w' : Wd), QX E ad' w' → VX p l e s m args below meth c D ba d mc ms Q nL E ad' w' pc lv rest (cells + mc') (slots + ms')) : V p l e s m args below meth c D ba d mc ms Q nL ad w pc lv st0 cells slots := by
  intro H locs ls hM hS hl T hT X
  rcases hr H locs ls hM hS hl T hT X with ⟨v, st₀, t, T', L, h0, X', hL, e1, e2, ⟨v', ad', w', hv, hq, hM', hF⟩, st⟩ | ⟨q, st₀, t, T', L, E, ce, h0, X', hL, e1, e2, ⟨ad', w', hq, hM', hF⟩, hce, hcv, hcl, st⟩
  · cases hv
    obtain ⟨-, -, k3⟩ := vx_keep h0 e1 hS (A1 := fun q => ba ≤ q) (fun _ _ z => z) (fun _ z => z) hL hF
    have hal : t.vm.Alike s.vm := by rw [← e2]; exact X'.warmed.alike.symm
    obtain ⟨t2, a1, b1⟩ := kr v ad' w' hq T'.heap (locs ++ L) ls (by rw [e1]; exact hM'.moved hal) k3 hl T' rfl X'
    exact ⟨t2, st t2 a1, b1⟩
  · obtain ⟨-, -, k3⟩ := vx_keep h0 e1 hS (A1 := fun q => ba ≤ q) (fun _ _ z => z) (fun _ z => z) hL hF
    have hal : t.vm.Alike s.vm := by rw [← e2]; exact X'.warmed.alike.symm
    obtain ⟨t2, a1, b1⟩ := kx E ad' w' hq T'.heap (locs ++ L) ls q ce (by rw [e1]; exact hM'.moved hal) k3 hl (by rw [e1]; exact hce) hcv hcl T' rfl X'
    exact ⟨t2, st.trans a1, b1⟩
/-- .. of one through an interface -/
theorem V_run5 {st0 : List Value} {a : Array Value} {mc' ms' : Nat} (C : Cx p l s m args meth c D ba own cc nL tb d)
    (hr : ∀ (H : Heap) (locs : List Loc) (ls : Array Slot), Mem D ba s ad w H → va_S (fun q => ba ≤ q) s.heap H locs → lv_has ls nL lv → vx_Run5 p l e (rmO d mc ms) s m args below meth c H locs cells slots mc' ms' (F0 m pc ls st0) rest (mQc D ba QR a) (mXC D ba QX) (fun q => ba ≤ q))
    (kr : ∀ (v : Option Value) (ad' : Adr) (w' : Wd), QR v ad' w' → V p l e s m args below meth c D ba d mc ms Q nL ad' w' (pc + 5) lv (v.toList ++ rest) (cells + mc') (slots + ms'))
    (kx : ∀ (E : String) (ad' : Adr) (w' : Wd), QX E ad' w' → VX p l e s m args below meth c D ba d mc ms Q nL E ad' w' pc lv rest (cells + mc') (slots + ms')) : V p l e s m args below meth c D ba d mc ms Q nL ad w pc lv st0 cells slots := by
  intro H locs ls hM hS hl T hT X
  rcases hr H locs ls hM hS hl T hT X with ⟨v, st₀, t, T', L, h0, X', hL, e1, e2, ⟨v', ad', w', hv, hq, hM', hF⟩, st⟩ | ⟨q, st₀, t, T', L, E, ce, h0, X', hL, e1, e2, ⟨ad', w', hq, hM', hF⟩, hce, hcv, hcl, st⟩
  · cases hv
    obtain ⟨-, -, k3⟩ := vx_keep h0 e1 hS (A1 := fun q => ba ≤ q) (fun _ _ z => z) (fun _ z => z) hL hF
    have hal : t.vm.Alike s.vm := by rw [← e2]; exact X'.warmed.alike.symm
    obtain ⟨t2, a1, b1⟩ := kr v ad' w' hq T'.heap (locs ++ L) ls (by rw [e1]; exact hM'.moved hal) k3 hl T' rfl X'
    exact ⟨t2, st t2 a1, b1⟩
  · obtain ⟨-, -, k3⟩ := vx_keep h0 e1 hS (A1 := fun q => ba ≤ q) (fun _ _ z => z) (fun _ z => z) hL hF
    have hal : t.vm.Alike s.vm := by rw [← e2]; exact X'.warmed.alike.symm
    obtain ⟨t2, a1, b1⟩ := kx E ad' w' hq T'.heap (locs ++ L) ls q ce (by rw [e1]; exact hM'.moved hal) k3 hl (by rw [e1]; exact hce) hcv hcl T' rfl X'
    exact ⟨t2, st.trans a1, b1⟩
/-- a call's room: the callee's depth, its locals -/
def eg_rm (d d' n mc ms cells slots mc' ms' : Nat) : Prop := d' + 1 ≤ d ∧ 8 + (n + 11) + 36 * d' ≤ 36 * d ∧ cells + mc' ≤ mc ∧ slots + ms' ≤ ms
theorem V_callV (C : Cx p l s m args meth c D ba own cc nL tb d) {i n k d' mc' ms' : Nat} {y : MethodName} {cy : ByteArray} {ry : Option FieldType} {b : Nat} {L : Lab} {ci : Nat} {fs : List Value} {r : vw_C} {st : List Value} (As : List Value) (h : decode cc pc = .ok (.invokevirtual i, 3)) (hy : eg_M y cy n ry k) (hy2 : Cond.instanceMethod y ∈ eg_T ∧ Cond.selects y.cls y y ∈ eg_T) (hlink : Cond.methodLink own i y ∈ eg_T) (hb : b = ad L) (hc : vwCl[ci]? = some r) (hrc : r.1 = y.cls) (hw : w L = some (.inr (ci, fs))) (hk : As.length = k) (hst : st = As.reverse ++ .ref b :: rest) (hW : (rest.map fun v => v.category).sum ≤ 8) (hrm : eg_rm d d' n mc ms cells slots mc' ms')
    (hM : CT l y (wsO y cy n ry) d' mc' ms' D ba (.ref b :: As) ad w QR QX)
    (kr : ∀ (v : Option Value) (ad' : Adr) (w' : Wd), QR v ad' w' → V p l e s m args below meth c D ba d mc ms Q nL ad' w' (pc + 3) lv (v.toList ++ rest) (cells + mc') (slots + ms'))
    (kx : ∀ (E : String) (ad' : Adr) (w' : Wd), QX E ad' w' → VX p l e s m args below meth c D ba d mc ms Q nL E ad' w' pc lv rest (cells + mc') (slots + ms')) : V p l e s m args below meth c D ba d mc ms Q nL ad w pc lv st cells slots := by
  subst hst
  subst hb
  refine V_run (a := (Value.ref (ad L) :: As).toArray) C (fun H locs ls hMm hS hl => ?_) kr kx
  have hts := C.2.2.2.2.1
  have hrv := eg_recv C hMm hc hw
  rw [hrc] at hrv
  refine vx_runV (Ts := eg_T) (C := y.cls) (bytes := cy) (maxL := n) (ret := ry) (ws := wsO y cy n ry) (rm := rmO d' mc' ms') (n := k) ⟨C.1, C.2.1, C.2.2.1, C.2.2.2.1, hts⟩ hM ?_ ⟨mPc_blind, hrv, eg_pre C hMm hS _⟩ rfl hk hl.1 rfl (lv_room hW) h ⟨hrm.2.2.1, hrm.2.2.2⟩
  exact cwV k hts (eg_gi (eg_c1 hlink (eg_c1 hy2.1 (eg_c1 hy2.2 (eg_c1 hy.2.1 (eg_c1 hy.1 eg_c0)))))) rfl rfl rfl ⟨rfl, hy.2.2.1, hy.2.2.2.1, hy.2.2.2.2⟩ ⟨hrm.1, hrm.2.1⟩
/-- a private method of a nest mate -/
theorem V_callVN (C : Cx p l s m args meth c D ba own cc nL tb d) {i n k d' mc' ms' : Nat} {y : MethodName} {cy : ByteArray} {ry : Option FieldType} {b : Nat} {L : Lab} {ci : Nat} {fs : List Value} {r : vw_C} {st : List Value} (host : String) (As : List Value) (h : decode cc pc = .ok (.invokevirtual i, 3)) (hy : eg_M y cy n ry k) (hy2 : Cond.instanceMethod y ∈ eg_T ∧ Cond.selects y.cls y y ∈ eg_T) (hlink : Cond.methodLinkNest own i y host ∈ lw_tbl) (hb : b = ad L) (hc : vwCl[ci]? = some r) (hrc : r.1 = y.cls) (hw : w L = some (.inr (ci, fs))) (hk : As.length = k) (hst : st = As.reverse ++ .ref b :: rest) (hW : (rest.map fun v => v.category).sum ≤ 8) (hrm : eg_rm d d' n mc ms cells slots mc' ms')
    (hM : CT l y (wsO y cy n ry) d' mc' ms' D ba (.ref b :: As) ad w QR QX)
    (kr : ∀ (v : Option Value) (ad' : Adr) (w' : Wd), QR v ad' w' → V p l e s m args below meth c D ba d mc ms Q nL ad' w' (pc + 3) lv (v.toList ++ rest) (cells + mc') (slots + ms'))
    (kx : ∀ (E : String) (ad' : Adr) (w' : Wd), QX E ad' w' → VX p l e s m args below meth c D ba d mc ms Q nL E ad' w' pc lv rest (cells + mc') (slots + ms')) : V p l e s m args below meth c D ba d mc ms Q nL ad w pc lv st cells slots := by
  subst hst
  subst hb
  refine V_run (a := (Value.ref (ad L) :: As).toArray) C (fun H locs ls hMm hS hl => ?_) kr kx
  have hts := C.2.2.2.2.1
  have hrv := eg_recv C hMm hc hw
  rw [hrc] at hrv
  refine vx_runVN (Ts := eg_T) (C := y.cls) (host := host) (bytes := cy) (maxL := n) (ret := ry) (ws := wsO y cy n ry) (rm := rmO d' mc' ms') (n := k) ⟨C.1, C.2.1, C.2.2.1, C.2.2.2.1, hts⟩ hM ?_ ⟨mPc_blind, hrv, eg_pre C hMm hS _⟩ rfl hk hl.1 rfl (lv_room hW) h ⟨hrm.2.2.1, hrm.2.2.2⟩
  exact ⟨va_cnB k hts (eg_gi (eg_c1 hy.1 eg_c0)) rfl rfl rfl (C.2.2.2.2.2.1.2.1 _ hlink rfl) (hts _ hy.2.1) ⟨hy.2.2.1, hy.2.2.2.1, hy.2.2.2.2⟩ ⟨hrm.1, hrm.2.1⟩, hts _ hy2.1, hts _ hy2.2⟩
theorem V_callS (C : Cx p l s m args meth c D ba own cc nL tb d) {i n k d' mc' ms' : Nat} {y : MethodName} {cy : ByteArray} {ry : Option FieldType} {st : List Value} (As : List Value) (h : decode cc pc = .ok (.invokestatic i, 3)) (hy : eg_M y cy n ry k) (hy2 : Cond.static y ∈ eg_T) (hlink : Cond.methodLink own i y ∈ eg_T) (hk : As.length = k) (hst : st = As.reverse ++ rest) (hW : (rest.map fun v => v.category).sum ≤ 8) (hrm : eg_rm d d' n mc ms cells slots mc' ms')
    (hM : CT l y (wsO y cy n ry) d' mc' ms' D ba As ad w QR QX)
    (kr : ∀ (v : Option Value) (ad' : Adr) (w' : Wd), QR v ad' w' → V p l e s m args below meth c D ba d mc ms Q nL ad' w' (pc + 3) lv (v.toList ++ rest) (cells + mc') (slots + ms'))
    (kx : ∀ (E : String) (ad' : Adr) (w' : Wd), QX E ad' w' → VX p l e s m args below meth c D ba d mc ms Q nL E ad' w' pc lv rest (cells + mc') (slots + ms')) : V p l e s m args below meth c D ba d mc ms Q nL ad w pc lv st cells slots := by
  subst hst
  refine V_run (a := As.toArray) C (fun H locs ls hMm hS hl => ?_) kr kx
  have hts := C.2.2.2.2.1
  refine vx_runS (Ts := eg_T) (bytes := cy) (maxL := n) (ret := ry) (ws := wsO y cy n ry) (rm := rmO d' mc' ms') (n := k) ⟨C.1, C.2.1, C.2.2.1, C.2.2.2.1, hts⟩ hM ?_ ⟨mPc_blind, eg_pre C hMm hS _⟩ rfl hk hl.1 rfl (lv_room hW) h ⟨hrm.2.2.1, hrm.2.2.2⟩
  exact ⟨callB_of k hts (eg_gi (eg_c1 hy.1 eg_c0)) rfl rfl rfl (hts _ hy.2.1) (hts _ hlink) ⟨hy.2.2.1, hy.2.2.2.1, hy.2.2.2.2⟩ ⟨hrm.1, hrm.2.1⟩, hts _ hy2⟩
/-- a static method with a table of its own -/
theorem V_callSX (C : Cx p l s m args meth c D ba own cc nL tb d) {i n k d' mc' ms' : Nat} {y : MethodName} {cy : ByteArray} {ry : Option FieldType} {hh : List (Nat × Nat × Nat × Nat)} {st : List Value} (As : List Value) (h : decode cc pc = .ok (.invokestatic i, 3)) (hy : eg_MH y cy n ry hh k) (hy2 : Cond.static y ∈ eg_T) (hlink : Cond.methodLink own i y ∈ eg_T) (hk : As.length = k) (hst : st = As.reverse ++ rest) (hW : (rest.map fun v => v.category).sum ≤ 8) (hrm : eg_rm d d' n mc ms cells slots mc' ms')
    (hM : CT l y (wsH y cy n ry hh) d' mc' ms' D ba As ad w QR QX)
    (kr : ∀ (v : Option Value) (ad' : Adr) (w' : Wd), QR v ad' w' → V p l e s m args below meth c D ba d mc ms Q nL ad' w' (pc + 3) lv (v.toList ++ rest) (cells + mc') (slots + ms'))
    (kx : ∀ (E : String) (ad' : Adr) (w' : Wd), QX E ad' w' → VX p l e s m args below meth c D ba d mc ms Q nL E ad' w' pc lv rest (cells + mc') (slots + ms')) : V p l e s m args below meth c D ba d mc ms Q nL ad w pc lv st cells slots := by
  subst hst
  refine V_run (a := As.toArray) C (fun H locs ls hMm hS hl => ?_) kr kx
  have hts := C.2.2.2.2.1
  refine vx_runSX (Ts := eg_T) (hh := hh) (bytes := cy) (maxL := n) (ret := ry) (ws := wsH y cy n ry hh) (rm := rmO d' mc' ms') (n := k) ⟨C.1, C.2.1, C.2.2.1, C.2.2.2.1, hts⟩ hM ?_ ⟨mPc_blind, eg_pre C hMm hS _⟩ rfl hk hl.1 rfl (lv_room hW) h ⟨hrm.2.2.1, hrm.2.2.2⟩
  exact vx_cwSW k hts (eg_gi (eg_c1 hlink (eg_c1 hy2 (eg_c1 hy.2.1 (eg_c1 hy.1 eg_c0))))) rfl rfl rfl ⟨hy.2.2.1, hy.2.2.2.1, hy.2.2.2.2⟩ ⟨hrm.1, hrm.2.1⟩
theorem V_callI (C : Cx p l s m args meth c D ba own cc nL tb d) {i n k d' mc' ms' : Nat} {y : MethodName} {cy : ByteArray} {b : Nat} {st : List Value} (As : List Value) (h : decode cc pc = .ok (.invokespecial i, 3)) (hy : eg_M y cy n none k) (hy2 : Cond.instanceMethod y ∈ eg_T ∧ y.name = "<init>") (hlink : Cond.methodLink own i y ∈ eg_T) (hk : As.length = k) (hst : st = As.reverse ++ .ref b :: rest) (hW : (rest.map fun v => v.category).sum ≤ 8) (hrm : eg_rm d d' n mc ms cells slots mc' ms')
    (hM : CT l y (wsO y cy n none) d' mc' ms' D ba (.ref b :: As) ad w QR QX)
    (kr : ∀ (v : Option Value) (ad' : Adr) (w' : Wd), QR v ad' w' → V p l e s m args below meth c D ba d mc ms Q nL ad' w' (pc + 3) lv (v.toList ++ rest) (cells + mc') (slots + ms'))
    (kx : ∀ (E : String) (ad' : Adr) (w' : Wd), QX E ad' w' → VX p l e s m args below meth c D ba d mc ms Q nL E ad' w' pc lv rest (cells + mc') (slots + ms')) : V p l e s m args below meth c D ba d mc ms Q nL ad w pc lv st cells slots := by
  subst hst
  refine V_run (a := (Value.ref b :: As).toArray) C (fun H locs ls hMm hS hl => ?_) kr kx
  have hts := C.2.2.2.2.1
  refine vx_runI (Ts := eg_T) (bytes := cy) (maxL := n) (ws := wsO y cy n none) (rm := rmO d' mc' ms') (n := k) ⟨C.1, C.2.1, C.2.2.1, C.2.2.2.1, hts⟩ hM ?_ ⟨mPc_blind, eg_pre C hMm hS _⟩ rfl hk hl.1 rfl (lv_room hW) h ⟨hrm.2.2.1, hrm.2.2.2⟩
  exact cwI k hts (eg_gi (eg_c1 hy.1 eg_c0)) rfl rfl rfl (hts _ hy.2.1) (hts _ hlink) (hts _ hy2.1) hy2.2 ⟨hy.2.2.1, hy.2.2.2.1, hy.2.2.2.2⟩ ⟨hrm.1, hrm.2.1⟩
/-- a private constructor of a nest mate -/
theorem V_callIN (C : Cx p l s m args meth c D ba own cc nL tb d) {i n k d' mc' ms' : Nat} {y : MethodName} {cy : ByteArray} {b : Nat} {st : List Value} (host : String) (As : List Value) (h : decode cc pc = .ok (.invokespecial i, 3)) (hy : eg_M y cy n none k) (hy2 : Cond.instanceMethod y ∈ eg_T ∧ y.name = "<init>") (hlink : Cond.methodLinkNest own i y host ∈ lw_tbl) (hk : As.length = k) (hst : st = As.reverse ++ .ref b :: rest) (hW : (rest.map fun v => v.category).sum ≤ 8) (hrm : eg_rm d d' n mc ms cells slots mc' ms')
    (hM : CT l y (wsO y cy n none) d' mc' ms' D ba (.ref b :: As) ad w QR QX)
    (kr : ∀ (v : Option Value) (ad' : Adr) (w' : Wd), QR v ad' w' → V p l e s m args below meth c D ba d mc ms Q nL ad' w' (pc + 3) lv (v.toList ++ rest) (cells + mc') (slots + ms'))
    (kx : ∀ (E : String) (ad' : Adr) (w' : Wd), QX E ad' w' → VX p l e s m args below meth c D ba d mc ms Q nL E ad' w' pc lv rest (cells + mc') (slots + ms')) : V p l e s m args below meth c D ba d mc ms Q nL ad w pc lv st cells slots := by
  subst hst
  refine V_run (a := (Value.ref b :: As).toArray) C (fun H locs ls hMm hS hl => ?_) kr kx
  have hts := C.2.2.2.2.1
  refine vx_runIN (Ts := eg_T) (host := host) (bytes := cy) (maxL := n) (ws := wsO y cy n none) (rm := rmO d' mc' ms') (n := k) ⟨C.1, C.2.1, C.2.2.1, C.2.2.2.1, hts⟩ hM ?_ ⟨mPc_blind, eg_pre C hMm hS _⟩ rfl hk hl.1 rfl (lv_room hW) h ⟨hrm.2.2.1, hrm.2.2.2⟩
  exact ⟨va_cnB k hts (eg_gi (eg_c1 hy.1 eg_c0)) rfl rfl rfl (C.2.2.2.2.2.1.2.1 _ hlink rfl) (hts _ hy.2.1) ⟨hy.2.2.1, hy.2.2.2.1, hy.2.2.2.2⟩ ⟨hrm.1, hrm.2.1⟩, hy2.2, hts _ hy2.1⟩
/-- through an interface, the receiver's kind known -/
theorem V_callF (C : Cx p l s m args meth c D ba own cc nL tb d) {i n k d' mc' ms' cnt : Nat} {x y : MethodName} {cy : ByteArray} {ry : Option FieldType} {b : Nat} {L : Lab} {ci : Nat} {fs : List Value} {r : vw_C} {st : List Value} (As : List Value) (h : decode cc pc = .ok (.invokeinterface i cnt, 5)) (hy : eg_M y cy n ry k) (hy2 : Cond.instanceMethod y ∈ eg_T ∧ Cond.selects y.cls x y ∈ eg_T) (hlink : Cond.methodLink own i x ∈ eg_T) (hx : x.cls ≠ "java/lang/invoke/MethodHandle" ∧ x.cls ≠ "java/lang/invoke/VarHandle" ∧ (parseMethodDescriptor x.desc).map (fun d => d.parameters.length) = some k) (hf : (y.cls, x, y) ∈ eg_faces) (hb : b = ad L) (hc : vwCl[ci]? = some r) (hrc : r.1 = y.cls) (hw : w L = some (.inr (ci, fs))) (hk : As.length = k) (hst : st = As.reverse ++ .ref b :: rest) (hW : (rest.map fun v => v.category).sum ≤ 8) (hrm : eg_rm d d' n mc ms cells slots mc' ms')
    (hM : CT l y (wsO y cy n ry) d' mc' ms' D ba (.ref b :: As) ad w QR QX)
    (kr : ∀ (v : Option Value) (ad' : Adr) (w' : Wd), QR v ad' w' → V p l e s m args below meth c D ba d mc ms Q nL ad' w' (pc + 5) lv (v.toList ++ rest) (cells + mc') (slots + ms'))
    (kx : ∀ (E : String) (ad' : Adr) (w' : Wd), QX E ad' w' → VX p l e s m args below meth c D ba d mc ms Q nL E ad' w' pc lv rest (cells + mc') (slots + ms')) : V p l e s m args below meth c D ba d mc ms Q nL ad w pc lv st cells slots := by
  subst hst
  subst hb
  refine V_run5 (a := (Value.ref (ad L) :: As).toArray) C (fun H locs ls hMm hS hl => ?_) kr kx
  have hts := C.2.2.2.2.1
  have hrv := eg_recv C hMm hc hw
  have hat := (C.2.2.2.2.2.1.1.1 ci r hc).2
  rw [hrc] at hrv hat
  refine vx_runF (Ts := eg_T) (C := y.cls) (x := x) (bytes := cy) (maxL := n) (ret := ry) (ws := wsO y cy n ry) (rm := rmO d' mc' ms') (n := k) hat ⟨C.1, C.2.1, C.2.2.1, C.2.2.2.1, hts⟩ hM ?_ ⟨mPc_blind, hrv, eg_pre C hMm hS _⟩ rfl hk hl.1 rfl (lv_room hW) h ⟨hrm.2.2.1, hrm.2.2.2⟩
  exact va_cwF k hts (eg_gi (eg_c1 hlink (eg_c1 hy2.2 (eg_c1 hy2.1 (eg_c1 hy.2.1 (eg_c1 hy.1 eg_c0)))))) rfl rfl rfl (C.2.2.2.2.2.1.2.2.2.1 _ hf) hx ⟨hrm.1, hrm.2.1⟩
/-! ends -/
theorem V_iret (C : Cx p l s m args meth c D ba own cc nL tb d) {v : Int32} (ty : FieldType) (h : decode cc pc = .ok (.ireturn, 1)) (hr : meth.sig.returnType = some ty) (hn : narrow ty (.int v) = .int v) (hq : QR (some (.int v)) ad w) (h1 : cells ≤ mc) (h2 : slots ≤ ms) : V p l e s m args below meth c D ba d mc ms (MO D ba QR QX below args s mc ms) nL ad w pc lv [.int v] cells slots := fun H locs ls hM hS hl =>
  W.widen h1 h2 (vx_ret (W.zret (hlocks := C.2.2.2.2.2.2.2.1) C.1 C.2.1 hr hn (fun t ht hW => ⟨_, ad, w, rfl, hq, by rw [ht]; exact hM.moved hW.alike, hS.F ht⟩) hS.2.2 h))
theorem V_lret (C : Cx p l s m args meth c D ba own cc nL tb d) {v : Int64} (h : decode cc pc = .ok (.lreturn, 1)) (hr : meth.sig.returnType = some .long) (hq : QR (some (.long v)) ad w) (h1 : cells ≤ mc) (h2 : slots ≤ ms) : V p l e s m args below meth c D ba d mc ms (MO D ba QR QX below args s mc ms) nL ad w pc lv [.long v] cells slots := fun H locs ls hM hS hl =>
  W.widen h1 h2 (vx_ret (W.lret (hlocks := C.2.2.2.2.2.2.2.1) C.1 C.2.1 hr (fun t ht hW => ⟨_, ad, w, rfl, hq, by rw [ht]; exact hM.moved hW.alike, hS.F ht⟩) hS.2.2 h))
theorem V_dret (C : Cx p l s m args meth c D ba own cc nL tb d) {v : UInt64} (h : decode cc pc = .ok (.dreturn, 1)) (hr : meth.sig.returnType = some .double) (hq : QR (some (.double v)) ad w) (h1 : cells ≤ mc) (h2 : slots ≤ ms) : V p l e s m args below meth c D ba d mc ms (MO D ba QR QX below args s mc ms) nL ad w pc lv [.double v] cells slots := fun H locs ls hM hS hl =>
  W.widen h1 h2 (vx_ret (W.dret (hlocks := C.2.2.2.2.2.2.2.1) C.1 C.2.1 hr (fun t ht hW => ⟨_, ad, w, rfl, hq, by rw [ht]; exact hM.moved hW.alike, hS.F ht⟩) hS.2.2 h))
theorem V_vret (C : Cx p l s m args meth c D ba own cc nL tb d) (h : decode cc pc = .ok (.return_, 1)) (hr : meth.sig.returnType = none) (hq : QR none ad w) (h1 : cells ≤ mc) (h2 : slots ≤ ms) : V p l e s m args below meth c D ba d mc ms (MO D ba QR QX below args s mc ms) nL ad w pc lv [] cells slots := fun H locs ls hM hS hl =>
  W.widen h1 h2 (vx_ret (W.vret (hlocks := C.2.2.2.2.2.2.2.1) C.1 C.2.1 hr (fun t ht hW => ⟨_, ad, w, rfl, hq, by rw [ht]; exact hM.moved hW.alike, hS.F ht⟩) hS.2.2 h))
theorem V_aret (C : Cx p l s m args meth c D ba own cc nL tb d) {a : Nat} (K : String) (h : decode cc pc = .ok (.areturn, 1)) (hr : meth.sig.returnType = some (.object K)) (hq : QR (some (.ref a)) ad w) (h1 : cells ≤ mc) (h2 : slots ≤ ms) : V p l e s m args below meth c D ba d mc ms (MO D ba QR QX below args s mc ms) nL ad w pc lv [.ref a] cells slots := fun H locs ls hM hS hl =>
  W.widen h1 h2 (vx_ret (W.aret (hlocks := C.2.2.2.2.2.2.2.1) C.1 C.2.1 hr (Or.inl ⟨K, rfl⟩) (Or.inr ⟨a, rfl⟩) (fun t ht hW => ⟨_, ad, w, rfl, hq, by rw [ht]; exact hM.moved hW.alike, hS.F ht⟩) hS.2.2 h))
/-! throws -/
theorem eg_atS {own : String} {ic : Nat} {K : String} {names : List String} (C : Cx p l s m args meth c D ba own cc nL tb d) (h1 : ∀ w ∈ vx_atS own ic K names, w ∈ lw_tbl) (h2 : ∀ w ∈ vx_atS own ic K names, (goodWord w || eg_nw w) = true) : ∀ w ∈ vx_atS own ic K names, w.before args s = true := by
  intro w hw
  have h3 := h2 w hw
  simp only [Bool.or_eq_true] at h3
  rcases h3 with h3 | h3
  · exact C.2.2.2.2.1 w (List.mem_filter.mpr ⟨h1 w hw, h3⟩)
  · exact va_Nw.use (eg_nw_tab h3) (C.2.2.2.2.2.1.2.1 w (h1 w hw) h3)
theorem V_throw (C : Cx p l s m args meth c D ba own cc nL tb d) {ik is ic : Nat} (K text : String) (names : List String) (d0 : decode cc pc = .ok (.new ik, 3)) (d3 : decode cc (pc + 3) = .ok (.dup, 1)) (d4 : decode cc (pc + 4) = .ok (.ldc is, 2)) (d6 : decode cc (pc + 6) = .ok (.invokespecial ic, 3)) (d9 : decode cc (pc + 9) = .ok (.athrow, 1))
    (hcls : Bundle.fit K = true) (hnames : ∀ n ∈ names, Bundle.fit n = true) (hk : Cond.classLink own ik K ∈ eg_T) (hini : Cond.initialized K ∈ eg_T) (hstr : Cond.stringRef own is text ∈ lw_tbl) (hat : ∀ w ∈ vx_atS own ic K names, w ∈ lw_tbl) (hat2 : ∀ w ∈ vx_atS own ic K names, (goodWord w || eg_nw w) = true) (hgood : ∀ w ∈ Cond.classLink own ik K :: Cond.initialized K :: vx_atS own ic K names, vx_ot w = true)
    (hout : tb.all (fun x => covers x (pc + 9) == false) = true) (hd : names.length + 3 < d) (hd2 : (rest.map fun v => v.category).sum + (13 * (names.length + 1) + 43) ≤ 36 * d) (h1 : cells + 1 ≤ mc) (h2 : slots + 6 ≤ ms) (hq : QX K ad w) : V p l e s m args below meth c D ba d mc ms (MO D ba QR QX below args s mc ms) nL ad w pc lv rest cells slots := by
  intro H locs ls hM hS hl
  obtain ⟨sa, hsa⟩ := C.2.2.2.2.2.1.2.2.2.2.2.1 _ _ _ hstr
  have hts := C.2.2.2.2.1
  refine vx_throwS C.1 C.2.1 C.2.2.2.2.2.2.2.2.1 C.2.2.2.1 hcls hnames (hts _ hk) (hts _ hini) hsa (eg_atS C hat hat2) hgood C.2.2.2.2.2.1.2.2.2.2.1.1 C.2.2.2.2.2.1.2.2.2.2.1.2 hS (hl.1.trans C.2.2.1.symm) d0 d3 d4 d6 d9 ?_ hd hd2 h1 h2 C.2.2.2.2.2.2.2.1 ?_ hS.2.2 h1 h2
  · intro x hx
    rw [C.2.2.2.2.2.2.2.2.2] at hx
    exact beq_iff_eq.mp (List.all_eq_true.mp hout x hx)
  · intro t hvm hz hk2
    exact ⟨ad, w, hq, (hM.kept hk2).moved hvm, ⟨Nat.le_trans hS.1 hz, fun q g1 g2 => (hk2 q (Nat.lt_of_lt_of_le g1 hS.1)).trans (hS.2.1 q g1 g2)⟩⟩
/-- a callee's throw goes on -/
theorem VX_out (C : Cx p l s m args meth c D ba own cc nL tb d) {E : String} (hout : tb.all (fun x => covers x pc == false) = true) (hq : QX E ad w) (h1 : cells ≤ mc) (h2 : slots ≤ ms) : VX p l e s m args below meth c D ba d mc ms (MO D ba QR QX below args s mc ms) nL E ad w pc lv rest cells slots := by
  intro H locs ls q ce hM hS hl hce hcv hcl
  refine vx_out ?_ C.2.2.2.2.2.2.2.1 hce hcv hcl ?_ hS.2.2 h1 h2
  · intro x hx
    rw [C.2.2.2.2.2.2.2.2.2] at hx
    exact beq_iff_eq.mp (List.all_eq_true.mp hout x hx)
  · intro t ht hvm
    exact ⟨ad, w, hq, by rw [ht]; exact hM.moved hvm, hS.F ht⟩
/-- caught by the row x of the table -/
theorem VX_catch (C : Cx p l s m args meth c D ba own cc nL tb d) {E : String} (name : String) (pre : List ExceptionTableEntry) (x : ExceptionTableEntry) (suf : List ExceptionTableEntry) (hsplit : tb = pre ++ x :: suf)
    (hpass : ∀ z ∈ pre, covers z pc = false ∨ (z.catchType ≠ 0 ∧ ∃ nm : String, Cond.classLink own z.catchType nm ∈ eg_T ∧ (E, nm) ∈ eg_nc)) (hx : covers x pc = true) (h0 : x.catchType ≠ 0) (hlink : Cond.classLink own x.catchType name ∈ eg_T) (hcast : Cond.castable E name ∈ lw_tbl)
    (kk : ∀ a : Nat, V p l e s m args below meth c D ba d mc ms Q nL ad w x.handlerPc lv [.ref a] cells slots) : VX p l e s m args below meth c D ba d mc ms Q nL E ad w pc lv rest cells slots := by
  intro H locs ls q ce hM hS hl hce hcv hcl
  have hts := C.2.2.2.2.1
  refine vx_catch C.2.2.2.1 pre x suf (C.2.2.2.2.2.2.2.2.2.trans hsplit) ?_ hx h0 (hts _ hlink) (va_Nw.use rfl (C.2.2.2.2.2.1.2.1 _ hcast rfl)) hce hcv hcl (kk q H locs ls hM hS hl)
  intro z hz
  rcases hpass z hz with h | ⟨h, nm, h3, h4⟩
  · exact Or.inl h
  · exact Or.inr ⟨h, nm, hts _ h3, C.2.2.2.2.2.1.2.2.2.2.2.2 _ h4⟩
/-! methods of the JDK -/
theorem V_max (C : Cx p l s m args meth c D ba own cc nL tb d) {i : Nat} {x y : Int32} (h : decode cc pc = .ok (.invokestatic i, 3)) (hlink : Cond.methodLink own i Lib.Math.max.name ∈ eg_T) (h1 : Cond.static Lib.Math.max.name ∈ eg_T) (h2 : Cond.initialized "java/lang/Math" ∈ eg_T) (h3 : Cond.code Lib.Math.max.name Lib.Math.max.code 2 (some .int) ∈ eg_T) (hd : 1 ≤ d) (hd2 : (rest.map fun v => v.category).sum + 13 ≤ 36 * d) (hc : cells ≤ mc) (hs : slots ≤ ms)
    (k : V p l e s m args below meth c D ba d mc ms Q nL ad w (pc + 3) lv (.int (if x < y then y else x) :: rest) cells slots) : V p l e s m args below meth c D ba d mc ms Q nL ad w pc lv (.int y :: .int x :: rest) cells slots := fun H locs ls hM hS hl =>
  va_mmax C.1 C.2.1 (C.2.2.1.trans hl.1.symm) C.2.2.2.1 (C.2.2.2.2.1 _ hlink) (C.2.2.2.2.1 _ h1) (C.2.2.2.2.1 _ h2) (C.2.2.2.2.1 _ h3) hd hd2 hc hs h (k H locs ls hM hS hl)
theorem V_min (C : Cx p l s m args meth c D ba own cc nL tb d) {i : Nat} {x y : Int32} (h : decode cc pc = .ok (.invokestatic i, 3)) (hlink : Cond.methodLink own i Lib.Math.min.name ∈ eg_T) (h1 : Cond.static Lib.Math.min.name ∈ eg_T) (h2 : Cond.initialized "java/lang/Math" ∈ eg_T) (h3 : Cond.code Lib.Math.min.name Lib.Math.min.code 2 (some .int) ∈ eg_T) (hd : 1 ≤ d) (hd2 : (rest.map fun v => v.category).sum + 13 ≤ 36 * d) (hc : cells ≤ mc) (hs : slots ≤ ms)
    (k : V p l e s m args below meth c D ba d mc ms Q nL ad w (pc + 3) lv (.int (if y < x then y else x) :: rest) cells slots) : V p l e s m args below meth c D ba d mc ms Q nL ad w pc lv (.int y :: .int x :: rest) cells slots := fun H locs ls hM hS hl =>
  va_mmin C.1 C.2.1 (C.2.2.1.trans hl.1.symm) C.2.2.2.1 (C.2.2.2.2.1 _ hlink) (C.2.2.2.2.1 _ h1) (C.2.2.2.2.1 _ h2) (C.2.2.2.2.1 _ h3) hd hd2 hc hs h (k H locs ls hM hS hl)
theorem V_obj (C : Cx p l s m args meth c D ba own cc nL tb d) {i a : Nat} (h : decode cc pc = .ok (.invokespecial i, 3)) (hlink : Cond.methodLink own i Lib.objectInit ∈ eg_T) (h1 : Cond.instanceMethod Lib.objectInit ∈ eg_T) (h2 : Cond.code Lib.objectInit ⟨#[0xb1]⟩ 1 none ∈ eg_T) (hd : 1 ≤ d) (hd2 : (rest.map fun v => v.category).sum + 12 ≤ 36 * d)
    (k : V p l e s m args below meth c D ba d mc ms Q nL ad w (pc + 3) lv rest cells slots) : V p l e s m args below meth c D ba d mc ms Q nL ad w pc lv (.ref a :: rest) cells slots := fun H locs ls hM hS hl =>
  W.objInit C.1 C.2.1 C.2.2.2.1 (C.2.2.2.2.1 _ hlink) (C.2.2.2.2.1 _ h1) (C.2.2.2.2.1 _ h2) rfl (hl.1.trans C.2.2.1.symm) rfl h hd (by show 2 * 0 + _ + 12 ≤ 36 * d; omega) (k H locs ls hM hS hl)
/-! the law's own script -/
theorem V_sld (C : Cx p l s m args meth c D ba own cc nL tb d) {b L : Nat} {xs : Nat → Int32} (hX : va_X b L xs s s.heap) (hb : b < ba) {i : Int32} (hin : vp_in i L) (h : decode cc pc = .ok (.iaload, 1))
    (k : V p l e s m args below meth c D ba d mc ms Q nL ad w (pc + 1) lv (.int (xs i.toNatClampNeg) :: rest) cells slots) : V p l e s m args below meth c D ba d mc ms Q nL ad w pc lv (.int i :: .ref b :: rest) cells slots := fun H locs ls hM hS hl =>
  va_sld (A := fun q => ba ≤ q) C.1 C.2.1 hX (Nat.lt_of_lt_of_le hb C.2.2.2.2.2.2.1) (Nat.not_le.mpr hb) hS hin h (k H locs ls hM hS hl)
theorem V_slen (C : Cx p l s m args meth c D ba own cc nL tb d) {b L : Nat} {xs : Nat → Int32} (hX : va_X b L xs s s.heap) (hb : b < ba) (h : decode cc pc = .ok (.arraylength, 1))
    (k : V p l e s m args below meth c D ba d mc ms Q nL ad w (pc + 1) lv (.int (Int32.ofNat L) :: rest) cells slots) : V p l e s m args below meth c D ba d mc ms Q nL ad w pc lv (.ref b :: rest) cells slots := fun H locs ls hM hS hl =>
  va_slen (A := fun q => ba ≤ q) C.1 C.2.1 hX (Nat.lt_of_lt_of_le hb C.2.2.2.2.2.2.1) (Nat.not_le.mpr hb) hS h (k H locs ls hM hS hl)
/-! methods begin -/
theorem CT_of {y : MethodName} {cy : ByteArray} {n : Nat} {ry : Option FieldType} {as : List Value} (own : String) (hown : y.cls = own) (hy : plainName y.cls = true) (hl : l.stackTraces = false) (hn : (lg_sl as).length ≤ n)
    (body : ∀ (p : Program) (e : Env) (s : State) (m : MethodId) (args : Array Value) (below : List Frame) (meth : Method) (c : Code), Cx p l s m args meth c D ba own cy n [] d → meth.sig.returnType = ry → meth.name = y.name → V p l e s m args below meth c D ba d mc ms (MO D ba QR QX below args s mc ms) n ad w 0 (lv_args 0 as) [] 0 0) : CT l y (wsO y cy n ry) d mc ms D ba as ad w QR QX := by
  subst hown
  refine vx_ofW (cc := cy) (maxL := n) (ret := ry) hy rfl ?_
  intro p e s m args below meth c s₁ B hml ht hv
  obtain ⟨rfl, hNF, hba, hM⟩ := hv
  have hts := atoms_spec (ws := wsO y cy n ry) B.pre
  have hown : s.vm.findClass y.cls = some m.cls := findClass_of_methodNamed B.named
  have htb : c.exceptionTable.toList = [] := List.eq_nil_iff_forall_not_mem.mpr (fun x hx => ht x hx)
  have K := body p e s m as.toArray below meth c ⟨B.exec, B.bytes, hml, hown, fun w hw => hts w (List.mem_cons_of_mem _ hw), hNF, hba, B.notSynchronized, hl, htb⟩ B.returns (name_of_methodNamed B.named B.method).1
  rw [lg_entry_eq]
  exact K s.heap [] _ hM va_S.rf (lv_entry as hn)
theorem CT_ofH {y : MethodName} {cy : ByteArray} {n : Nat} {ry : Option FieldType} {hh : List (Nat × Nat × Nat × Nat)} {as : List Value} (own : String) (hown : y.cls = own) (hy : plainName y.cls = true) (hl : l.stackTraces = false) (hn : (lg_sl as).length ≤ n)
    (body : ∀ (p : Program) (e : Env) (s : State) (m : MethodId) (args : Array Value) (below : List Frame) (meth : Method) (c : Code), Cx p l s m args meth c D ba own cy n (tableOf hh) d → meth.sig.returnType = ry → meth.name = y.name → V p l e s m args below meth c D ba d mc ms (MO D ba QR QX below args s mc ms) n ad w 0 (lv_args 0 as) [] 0 0) : CT l y (wsH y cy n ry hh) d mc ms D ba as ad w QR QX := by
  subst hown
  refine vx_ofWH (cc := cy) (maxL := n) (ret := ry) (hh := hh) hy rfl ?_
  intro p e s m args below meth c s₁ B hml hv
  obtain ⟨rfl, hNF, hba, hM⟩ := hv
  have hts := atoms_spec (ws := wsH y cy n ry hh) B.pre
  have hown : s.vm.findClass y.cls = some m.cls := findClass_of_methodNamed B.named
  have htb := vx_table (x := y) B (hts _ List.mem_cons_self)
  have K := body p e s m as.toArray below meth c ⟨B.exec, B.bytes, hml, hown, fun w hw => hts w (List.mem_cons_of_mem _ hw), hNF, hba, B.notSynchronized, hl, htb⟩ B.returns (name_of_methodNamed B.named B.method).1
  rw [lg_entry_eq]
  exact K s.heap [] _ hM va_S.rf (lv_entry as hn)
end EC
end
