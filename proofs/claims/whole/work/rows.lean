section
/-! ===== BEGIN words of one list among another's, by their places ===== -/
theorem goodIn_r {big : List Cond} (ws : List Cond) (ps : List Nat) (hp : ws = ps.filterMap (fun i => big[i]?)) (h : ws.all goodWord = true) : GoodIn big ws := by
  intro w hw
  have h1 := List.all_eq_true.mp h w hw
  rw [hp] at hw
  obtain ⟨i, -, hi⟩ := List.mem_filterMap.mp hw
  have hm : w ∈ big := by first | exact List.mem_of_getElem? hi | exact List.getElem?_mem hi
  exact ⟨hm, good_of_word h1⟩
theorem goodIn_app {big a b : List Cond} (ha : GoodIn big a) (hb : GoodIn big b) : GoodIn big (a ++ b) := fun w h => (List.mem_append.mp h).elim (ha w) (hb w)
theorem goodIn_ca {big a b : List Cond} {c : Cond} (ha : GoodIn big (c :: a)) (hb : GoodIn big b) : GoodIn big (c :: (a ++ b)) := fun w h => (List.mem_cons.mp h).elim (fun e => ha w (List.mem_cons.mpr (Or.inl e))) (fun h => (List.mem_append.mp h).elim (fun h => ha w (List.mem_cons.mpr (Or.inr h))) (hb w))
theorem goodIn_sub {big ws : List Cond} (hm : ∀ w ∈ ws, w ∈ big) (h : ws.all goodWord = true) : GoodIn big ws := fun w hw => ⟨hm w hw, good_of_word (List.all_eq_true.mp h w hw)⟩
/-! ===== END ===== -/
/-! ===== BEGIN exceptions that leave a method, and their catching by the caller (launches without stack traces) ===== -/
section VXA
/-! The laws vx_back, vx_callV, vx_callS, vx_callSW, vx_throw0, vx_throwS follow proofs of the library, with one case more: JvmDerived/Free/Laws.lean (Back.of_free), Shelf42/LK1.lean (callV, callS), Shelf/KitTraced.lean (throwNew0V, throwNewS). -/
/-- where a method has thrown q: the class by its name, the cell, what was written, the world -/
def vx_T (XC : String → State → State → Prop) (st : State) (q : Addr) (t : State) (mc ms : Nat) (free : Addr → Prop) : Prop :=
  ∃ (E : String) (ce : Cell) (L : List Loc), XC E st t ∧ t.heap[q]? = some ce ∧ ce.vm = .none ∧ st.vm.findClass E = some ce.cls ∧ st.WarmedH t.vm ∧ st.sameButNew ({ t with vm := st.vm } : State) L mc ms ∧ ∀ z ∈ L, free z.base
def vx_Q (Qc : Array Value → State → Outcome → State → Prop) (XC : String → State → State → Prop) (mc ms : Nat) (free : Addr → Prop) : Array Value → State → Outcome → State → Prop := fun a st o t =>
  (Qc a st o t ∧ ∃ L, FrameEnd st o t L mc ms ∧ ∀ q ∈ L, free q.base) ∨ ∃ q, o = .threw q ∧ vx_T XC st q t mc ms free
/-- a callee that returns or throws -/
def vx_Met (l : Launch) (y : MethodName) (ws : List Cond) (rm : Room) (Pc : Array Value → State → Prop) (Qc : Array Value → State → Outcome → State → Prop) (XC : String → State → State → Prop) (mc ms : Nat) (free : Addr → Prop) : Prop :=
  MetFree l y (headSpec ws rm) Pc (fun _ _ _ _ _ => True) (vx_Q Qc XC mc ms free)
def vx_Post (XC : String → State → State → Prop) (mc ms : Nat) (free : Addr → Prop) : Pt → Array Value → Addr → Pt → Prop := fun A a q B =>
  ∃ (g : JFrame) (mk : MethodId) (t : State) (L : List Loc) (E : String) (ce : Cell), B.U.heap = t.heap ∧ B.U.vm = t.vm ∧ XC E (A.U.calling g mk a) t ∧ t.heap[q]? = some ce ∧ ce.vm = .none ∧ A.U.vm.findClass E = some ce.cls ∧ B.locs = A.locs ++ L ∧ (∀ z ∈ L, free z.base) ∧ B.cells = A.cells + mc ∧ B.slots = A.slots + ms
def vx_Back (l : Launch) (R : Room) (p : Program) (e : Env) (below : List Frame) (s : State) (sargs : Array Value) (y : MethodName) (len W9 : Nat)
    (Pre : Pt → Array Value → Prop) (Post : Pt → Array Value → Option Value → Pt → Prop) (PostX : Pt → Array Value → Addr → Pt → Prop) : Prop :=
  ∀ (m : MethodId) (meth : Method) (c : Code) (A : Pt) (g : JFrame) (ig : Instr) (mk : MethodId) (a : Array Value),
    Stand p l e R s m sargs below meth c A.U A.locs A.cells A.slots → g.method = m → g.locals.size = c.maxLocals → decode c.code g.pc = .ok (ig, len) →
    2 * g.monitorRoom + (g.stack.map fun v => v.category).sum ≤ W9 → A.U.methodNamed? y = some mk → Pre A a →
    (∃ (v : Option Value) (B : Pt), Stand p l e R s m sargs below meth c B.U B.locs B.cells B.slots ∧ Post A a v B ∧
      Steps p.tables e below (doInvoke e (A.U.setTop g) [] mk a).1 (B.U.setTop { g with pc := g.pc + len, stack := v.toList ++ g.stack })) ∨
    (∃ (q : Addr) (B : Pt), Stand p l e R s m sargs below meth c B.U B.locs B.cells B.slots ∧ PostX A a q B ∧
      Steps p.tables e below (doInvoke e (A.U.setTop g) [] mk a).1 ((B.U.setTop g).pushFrame (.throwing q)))
section Payer
variable {l : Launch} {R : Room} {p : Program} {e : Env} {below : List Frame} {s : State} {sargs : Array Value} {y : MethodName} {len W9 : Nat}
theorem vx_back {ws : List Cond} {rm : Room} {Pc : Array Value → State → Prop} {Qc : Array Value → State → Outcome → State → Prop} {XC : String → State → State → Prop} {mc ms : Nat} {free : Addr → Prop} {bytes : ByteArray} {maxL : Nat} {ret : Option FieldType}
    (hM : vx_Met l y ws rm Pc Qc XC mc ms free) (hblind : FrameBlind Pc) (hrc : rm.cells = mc) (hrs : rm.slots = ms)
    (hframes : rm.frames + 1 ≤ R.frames) (hlocals : W9 + (maxL + 11) + rm.locals ≤ R.locals)
    (hws : ∀ w ∈ ws, ∀ a' U, s.WarmedH U.vm → w.before a' U = true) (hcode : Cond.code y bytes maxL ret ∈ ws) (hinit : ∀ a' U, s.WarmedH U.vm → (Cond.initialized y.cls).before a' U = true) :
    vx_Back l R p e below s sargs y len W9 (PreOf R mc ms Pc) (PostOf Qc mc ms free) (vx_Post XC mc ms free) := by
  intro m meth c A g ig mk a X hg hsize hdg hW hn hp
  have h1 : (headSpec ws rm).pre.before a A.U = true := atoms_intro fun w hw => hws w hw _ _ X.warmed
  have h2 : (Cond.code y bytes maxL ret).before a A.U = true := hws _ hcode _ _ X.warmed
  have h3 : (Cond.initialized y.cls).before a A.U = true := hinit _ _ X.warmed
  have h4 : A.cells + (headSpec ws rm).room.cells ≤ R.cells := by rw [show (headSpec ws rm).room.cells = mc from hrc]; exact hp.1
  have h5 : A.slots + (headSpec ws rm).room.slots ≤ R.slots := by rw [show (headSpec ws rm).room.slots = ms from hrs]; exact hp.2.1
  have hPc : Pc a (A.U.calling g mk a) := hblind _ _ _ _ hp.2.2
  obtain ⟨U, Ls, c0, s0⟩ := A
  dsimp only [Pt.U, Pt.locs, Pt.cells, Pt.slots] at h1 h2 h3 h4 h5 X hn hPc ⊢
  obtain ⟨methY, cY, hmY, hcY, -, hlY, -, -, -, -⟩ := Cond.code_spec hn h2
  obtain ⟨kY, hkY, -⟩ := className_of_methodNamed hn
  have hinitY : kY.init = .initialized := Cond.initialized_spec (findClass_of_methodNamed hn) hkY h3
  have h : At U g.method c below := by rw [hg]; exact X.here
  have hlocals9 : W9 + (maxL + 11) + (headSpec ws rm).room.locals ≤ R.locals := hlocals
  have happ : (headSpec ws rm).appliesLoose y e.platform (U.calling g mk a) = true :=
    Spec.appliesLoose_calling (g := g) h hdg hn hkY hinitY
      (X.room_calling (g := g) (R' := (headSpec ws rm).room) hsize hmY hcY hframes (by rw [hlY]; omega) h4 h5) h1
  obtain ⟨mid, hmid⟩ := h.above
  have hfr : (U.setTop g).frames = (.java g :: mid) ++ below := by rw [State.frames_setTop' g h.top, hmid]; rfl
  obtain ⟨o, s₂, hsteps, -, hend, hq⟩ := Steps.callFree hM p X.admits X.cas X.clock (acts := []) hfr happ hPc trivial
  have hq' : vx_Q Qc XC mc ms free a (U.calling g mk a) o s₂ := hq
  rw [State.frames_setTop' g h.top] at hend
  obtain ⟨g₀, hg0⟩ := Option.isSome_iff_exists.mp h.top
  obtain ⟨r, hr⟩ := State.topJava?_eq_some.mp hg0
  have hr' : (({ U with heap := s₂.heap, slotsUsed := s₂.slotsUsed } : State).setVm s₂.vm).frames = .java g₀ :: r := hr
  rcases hq' with ⟨hqc, L, hfe, hL⟩ | ⟨q, rfl, E, ce, L, hx, hce, hcv, hcl, hW₂, hsm, hL⟩
  · obtain ⟨⟨v, rfl⟩, hW₂, e2, q2, q3, q4, q5, q6⟩ := id hfe
    have e3 : s₂ = ({ (U.calling g mk a).setFrames s₂.frames with heap := s₂.heap, slotsUsed := s₂.slotsUsed } : State).setVm s₂.vm := by
      have : s₂ = ({ s₂ with vm := (U.calling g mk a).vm } : State).setVm s₂.vm := rfl
      rw [e2] at this
      exact this
    obtain ⟨c₂, i₂, len₂, hc₂, hd₂, hf₂⟩ := hend
    have hW' : U.WarmedH s₂.vm := hW₂
    have hcc : c₂ = c := by
      have h1 : s₂.code? g.method = U.code? g.method := by
        rw [State.code?_eq, State.code?_eq, hW'.alike.method?]
      exact Option.some.inj (hc₂.symm.trans (h1.trans h.code))
    subst hcc
    have hlen : len₂ = len := by rw [hdg] at hd₂; cases hd₂; rfl
    subst hlen
    have hs₂ : s₂ = (({ U with heap := s₂.heap, slotsUsed := s₂.slotsUsed } : State).setVm s₂.vm).setTop { g with pc := g.pc + len₂, stack := v.toList ++ g.stack } := by
      refine e3.trans ?_
      rw [hf₂, State.calling_eq h.top, State.setFrames_setFrames, State.setTop_of_frames _ hr', hr]
      rfl
    have hsame : U.sameButNew ({ U with heap := s₂.heap, slotsUsed := s₂.slotsUsed } : State) L mc ms := by
      refine ⟨?_, q2, q3, q4, q5, q6⟩
      obtain ⟨t, ht, -⟩ := State.frames_cons hr
      show ({ U with heap := s₂.heap, slotsUsed := s₂.slotsUsed } : State) = { U.setFrames U.frames with heap := s₂.heap, slotsUsed := s₂.slotsUsed }
      rw [State.setFrames_self ht]
    subst hg
    refine Or.inl ⟨v, ⟨(({ U with heap := s₂.heap, slotsUsed := s₂.slotsUsed } : State).setVm s₂.vm), Ls ++ L, c0 + mc, s0 + ms⟩,
      ⟨X.admits, X.cas, X.clock, X.frames, X.room, X.hears, X.method, X.code, (X.here.setHeapUsed s₂.heap s₂.slotsUsed).setVm hW'.alike, X.tail, State.WarmedH.trans X.warmed hW', X.limits, X.bytes, X.same.trans (hsame.setVm s.vm)⟩,
      ⟨g, mk, s₂, L, rfl, rfl, hqc, rfl, hL, rfl, rfl⟩, ?_⟩
    show Steps p.tables e below _ ((({ U with heap := s₂.heap, slotsUsed := s₂.slotsUsed } : State).setVm s₂.vm).setTop { g with pc := g.pc + len₂, stack := v.toList ++ g.stack })
    rw [← hs₂]
    exact hsteps
  · obtain ⟨e2, q2, q3, q4, q5, q6⟩ := id hsm
    have e3 : s₂ = ({ (U.calling g mk a).setFrames s₂.frames with heap := s₂.heap, slotsUsed := s₂.slotsUsed } : State).setVm s₂.vm := by
      have : s₂ = ({ s₂ with vm := (U.calling g mk a).vm } : State).setVm s₂.vm := rfl
      rw [e2] at this
      exact this
    have hf₂ : s₂.frames = .throwing q :: .java g :: U.frames.tail := hend
    have hW' : U.WarmedH s₂.vm := hW₂
    have hs₂ : s₂ = ((({ U with heap := s₂.heap, slotsUsed := s₂.slotsUsed } : State).setVm s₂.vm).setTop g).pushFrame (.throwing q) := by
      refine e3.trans ?_
      rw [hf₂, State.calling_eq h.top, State.setFrames_setFrames, State.pushFrame, State.frames_setTop _ hr', State.setTop_of_frames _ hr', State.setFrames_setFrames, hr]
      rfl
    have hsame : U.sameButNew ({ U with heap := s₂.heap, slotsUsed := s₂.slotsUsed } : State) L mc ms := by
      refine ⟨?_, q2, q3, q4, q5, q6⟩
      obtain ⟨t, ht, -⟩ := State.frames_cons hr
      show ({ U with heap := s₂.heap, slotsUsed := s₂.slotsUsed } : State) = { U.setFrames U.frames with heap := s₂.heap, slotsUsed := s₂.slotsUsed }
      rw [State.setFrames_self ht]
    subst hg
    refine Or.inr ⟨q, ⟨(({ U with heap := s₂.heap, slotsUsed := s₂.slotsUsed } : State).setVm s₂.vm), Ls ++ L, c0 + mc, s0 + ms⟩,
      ⟨X.admits, X.cas, X.clock, X.frames, X.room, X.hears, X.method, X.code, (X.here.setHeapUsed s₂.heap s₂.slotsUsed).setVm hW'.alike, X.tail, State.WarmedH.trans X.warmed hW', X.limits, X.bytes, X.same.trans (hsame.setVm s.vm)⟩,
      ⟨g, mk, s₂, L, E, ce, rfl, rfl, hx, hce, hcv, hcl, rfl, hL, rfl, rfl⟩, ?_⟩
    show Steps p.tables e below _ (((({ U with heap := s₂.heap, slotsUsed := s₂.slotsUsed } : State).setVm s₂.vm).setTop g).pushFrame (.throwing q))
    rw [← hs₂]
    exact hsteps
end Payer
section Calls
variable {p : Program} {l : Launch} {e : Env} {R : Room} {s : State} {m : MethodId} {args : Array Value} {below : List Frame} {meth : Method} {c : Code} {T : State} {locs : List Loc} {cells slots : Nat}
theorem vx_callV (X : Stand p l e R s m args below meth c T locs cells slots) (hexec : p.tables.exec = Jvm.exec) {own C : String} {index : Nat} {y : MethodName} {bytes : ByteArray} {maxL : Nat} {ret : Option FieldType}
    (hown : s.vm.findClass own = some m.cls) (hlink : (Cond.methodLink own index y).before args s = true) (hinst : (Cond.instanceMethod y).before args s = true) (hsel : (Cond.selects C y y).before args s = true)
    (hcode : (Cond.code y bytes maxL ret).before args s = true) (hy : y.cls ≠ "java/lang/invoke/MethodHandle" ∧ y.cls ≠ "java/lang/invoke/VarHandle")
    {W9 : Nat} {Pre : Pt → Array Value → Prop} {Post : Pt → Array Value → Option Value → Pt → Prop} {PostX : Pt → Array Value → Addr → Pt → Prop} (hK : vx_Back l R p e below s args y 3 W9 Pre Post PostX)
    {b : Addr} {cellB : Cell} (hcell : T.heap[b]? = some cellB) (hobj : cellB.vm.isStatics = false) (hcls : s.vm.findClass C = some cellB.cls)
    {g : JFrame} (hg : g.method = m) (hsize : g.locals.size = c.maxLocals) {argsL rest : List Value} (hlen : ∀ sig, parseMethodDescriptor y.desc = some sig → argsL.length = sig.parameters.length)
    (hstack : g.stack = argsL.reverse ++ .ref b :: rest) (hW : 2 * g.monitorRoom + (rest.map fun v => v.category).sum ≤ W9) (hdg : decode c.code g.pc = .ok (.invokevirtual index, 3))
    (hpre : ∀ vm₁, s.WarmedH vm₁ → Pre ⟨T.setVm vm₁, locs, cells, slots⟩ (Value.ref b :: argsL).toArray) :
    (∃ (v : Option Value) (vm₁ : Vm) (B : Pt), s.WarmedH vm₁ ∧ Stand p l e R s m args below meth c B.U B.locs B.cells B.slots ∧ Post ⟨T.setVm vm₁, locs, cells, slots⟩ (Value.ref b :: argsL).toArray v B ∧
      ∀ target, Steps p.tables e below (B.U.setTop { g with pc := g.pc + 3, stack := v.toList ++ rest }) target → Steps p.tables e below (T.setTop g) target) ∨
    (∃ (q : Addr) (vm₁ : Vm) (B : Pt), s.WarmedH vm₁ ∧ Stand p l e R s m args below meth c B.U B.locs B.cells B.slots ∧ PostX ⟨T.setVm vm₁, locs, cells, slots⟩ (Value.ref b :: argsL).toArray q B ∧
      Steps p.tables e below (T.setTop g) ((B.U.setTop { g with stack := rest }).pushFrame (.throwing q))) := by
  obtain ⟨mk, methM, hnamed, hmethM, hstM, habM⟩ := Cond.instanceMethod_spec hinst
  obtain ⟨methM', cM, hmethM', -, -, -, -, -, -, hsigM⟩ := Cond.code_spec hnamed hcode
  cases hmethM.symm.trans hmethM'
  obtain ⟨c2, r2, m2, q1, q2, q3, q4, kP, hkP, hkPi⟩ := Cond.selects_spec hsel
  cases hcls.symm.trans q1
  cases (State.methodFound?_of_named hnamed hy).symm.trans q2
  cases hnamed.symm.trans q3
  have hselP : selectMethod e.platform s.vm cellB.cls mk = .method mk := by rw [Launch.admits_selectMethod X.admits]; exact q4
  obtain ⟨vm₁, X₁, hstep₁⟩ := X.invokevirtual hexec hown hlink hnamed hmethM hstM hkP hkPi hy (a := b) (cell := cellB) hcell
    (fun z h => by rw [h] at hobj; cases hobj) hselP hmethM habM hkP hkPi (g := g) hg (argsL := argsL) (rest := rest) (hlen _ hsigM) hstack hdg
  rcases hK m meth c ⟨T.setVm vm₁, locs, cells, slots⟩ { g with stack := rest } (.invokevirtual index) mk (Value.ref b :: argsL).toArray X₁ hg hsize hdg hW (X₁.named hnamed) (hpre vm₁ X₁.warmed) with ⟨v, B, X', hpost, hsteps⟩ | ⟨q, B, X', hpost, hsteps⟩
  · exact Or.inl ⟨v, vm₁, B, X₁.warmed, X', hpost, fun target h => hstep₁ _ fun acts => by rw [doInvoke_state]; exact hsteps.trans h⟩
  · exact Or.inr ⟨q, vm₁, B, X₁.warmed, X', hpost, hstep₁ _ fun acts => by rw [doInvoke_state]; exact hsteps⟩
theorem vx_callS (X : Stand p l e R s m args below meth c T locs cells slots) (hexec : p.tables.exec = Jvm.exec) {own : String} {index : Nat} {y : MethodName} {bytes : ByteArray} {maxL : Nat} {ret : Option FieldType}
    (hown : s.vm.findClass own = some m.cls) (hlink : (Cond.methodLink own index y).before args s = true) (hstat : (Cond.static y).before args s = true) (hinit : (Cond.initialized y.cls).before args s = true)
    (hcode : (Cond.code y bytes maxL ret).before args s = true) (hy : y.cls ≠ "java/lang/invoke/MethodHandle" ∧ y.cls ≠ "java/lang/invoke/VarHandle")
    {W9 : Nat} {Pre : Pt → Array Value → Prop} {Post : Pt → Array Value → Option Value → Pt → Prop} {PostX : Pt → Array Value → Addr → Pt → Prop} (hK : vx_Back l R p e below s args y 3 W9 Pre Post PostX)
    {g : JFrame} (hg : g.method = m) (hsize : g.locals.size = c.maxLocals) {argsL rest : List Value} (hlen : ∀ sig, parseMethodDescriptor y.desc = some sig → argsL.length = sig.parameters.length)
    (hstack : g.stack = argsL.reverse ++ rest) (hW : 2 * g.monitorRoom + (rest.map fun v => v.category).sum ≤ W9) (hdg : decode c.code g.pc = .ok (.invokestatic index, 3))
    (hpre : ∀ vm₁, s.WarmedH vm₁ → Pre ⟨T.setVm vm₁, locs, cells, slots⟩ argsL.toArray) :
    (∃ (v : Option Value) (vm₁ : Vm) (B : Pt), s.WarmedH vm₁ ∧ Stand p l e R s m args below meth c B.U B.locs B.cells B.slots ∧ Post ⟨T.setVm vm₁, locs, cells, slots⟩ argsL.toArray v B ∧
      ∀ target, Steps p.tables e below (B.U.setTop { g with pc := g.pc + 3, stack := v.toList ++ rest }) target → Steps p.tables e below (T.setTop g) target) ∨
    (∃ (q : Addr) (vm₁ : Vm) (B : Pt), s.WarmedH vm₁ ∧ Stand p l e R s m args below meth c B.U B.locs B.cells B.slots ∧ PostX ⟨T.setVm vm₁, locs, cells, slots⟩ argsL.toArray q B ∧
      Steps p.tables e below (T.setTop g) ((B.U.setTop { g with stack := rest }).pushFrame (.throwing q))) := by
  obtain ⟨mk, hnamed⟩ := Cond.code_named hcode
  obtain ⟨methM, cM, hmethM, -, -, -, -, -, -, hsigM⟩ := Cond.code_spec hnamed hcode
  have hstatic : methM.isStatic = true := Cond.static_spec hnamed hmethM hstat
  obtain ⟨kP, hkP, -⟩ := className_of_methodNamed hnamed
  have hinitP : kP.init = .initialized := Cond.initialized_spec (findClass_of_methodNamed hnamed) hkP hinit
  obtain ⟨vm₁, X₁, hstep₁⟩ := X.invokestatic hexec hown hlink hnamed hmethM hstatic hkP hinitP hy (g := g) hg (argsL := argsL) (rest := rest) (hlen _ hsigM) hstack hdg
  rcases hK m meth c ⟨T.setVm vm₁, locs, cells, slots⟩ { g with stack := rest } (.invokestatic index) mk argsL.toArray X₁ hg hsize hdg hW (X₁.named hnamed) (hpre vm₁ X₁.warmed) with ⟨v, B, X', hpost, hsteps⟩ | ⟨q, B, X', hpost, hsteps⟩
  · exact Or.inl ⟨v, vm₁, B, X₁.warmed, X', hpost, fun target h => hstep₁ _ fun acts => by rw [doInvoke_state]; exact hsteps.trans h⟩
  · exact Or.inr ⟨q, vm₁, B, X₁.warmed, X', hpost, hstep₁ _ fun acts => by rw [doInvoke_state]; exact hsteps⟩
end Calls
theorem vx_cls {s : State} {T : State} {vm₁ : Vm} {E : String} {k : ClassId} (hW : s.WarmedH vm₁) (h : (T.setVm vm₁).vm.findClass E = some k) : s.vm.findClass E = some k := by
  have h1 : vm₁.findClass E = some k := h
  rw [hW.alike.findClass] at h1
  exact h1
/-- the method's frame g, with q thrown over it -/
def vx_W (p : Program) (l : Launch) (e : Env) (R : Room) (s : State) (m : MethodId) (args : Array Value) (below : List Frame) (meth : Method) (c : Code) (H : Heap) (locs : List Loc) (cells slots : Nat) (Q : State → Prop) (g : JFrame) (q : Addr) : Prop :=
  ∀ T : State, T.heap = H → Stand p l e R s m args below meth c T locs cells slots → ∃ t, Steps p.tables e below ((T.setTop g).pushFrame (.throwing q)) t ∧ Q t
def vx_Run (p : Program) (l : Launch) (e : Env) (R : Room) (s : State) (m : MethodId) (args : Array Value) (below : List Frame) (meth : Method) (c : Code) (H : Heap) (locs : List Loc) (cells slots mc ms : Nat) (g : JFrame) (rest : List Value) (Qa : State → Outcome → State → Prop) (XC : String → State → State → Prop) (free : Addr → Prop) : Prop :=
  ∀ T : State, T.heap = H → Stand p l e R s m args below meth c T locs cells slots →
    (∃ (v : Option Value) (st₀ t T' : State) (L : List Loc), st₀.heap = H ∧ Stand p l e R s m args below meth c T' (locs ++ L) (cells + mc) (slots + ms) ∧ (∀ q ∈ L, free q.base) ∧ T'.heap = t.heap ∧ T'.vm = t.vm ∧ Qa st₀ (.returned v) t ∧
      Goes p e below T g T' { g with pc := g.pc + 3, stack := v.toList ++ rest }) ∨
    (∃ (q : Addr) (st₀ t T' : State) (L : List Loc) (E : String) (ce : Cell), st₀.heap = H ∧ Stand p l e R s m args below meth c T' (locs ++ L) (cells + mc) (slots + ms) ∧ (∀ z ∈ L, free z.base) ∧ T'.heap = t.heap ∧ T'.vm = t.vm ∧ XC E st₀ t ∧ t.heap[q]? = some ce ∧ ce.vm = .none ∧ s.vm.findClass E = some ce.cls ∧
      Steps p.tables e below (T.setTop g) ((T'.setTop { g with stack := rest }).pushFrame (.throwing q)))
def vx_X {S : Type} (px : S → Prop) (B : String → S → State → Prop) (A : Nat → Prop) : String → State → State → Prop := fun E st t => ∃ u : S, px u ∧ B E u t ∧ va_F A st t
section Runs
variable {p : Program} {l : Launch} {e : Env} {R : Room} {s : State} {m : MethodId} {args : Array Value} {below : List Frame} {meth : Method} {c : Code} {H : Heap} {locs : List Loc} {cells slots : Nat}
variable {y : MethodName} {bytes cc : ByteArray} {maxL nL mc ms n index : Nat} {ret : Option FieldType} {ws : List Cond} {rm : Room} {Pc : Array Value → State → Prop} {Qc : Array Value → State → Outcome → State → Prop} {XC : String → State → State → Prop} {free : Addr → Prop} {Ts : List Cond} {own C : String} {b : Addr} {As rest : List Value} {g : JFrame}
theorem vx_callBack (cb : CallB R s args own index y bytes maxL ret ws rm mc ms n) (hM : vx_Met l y ws rm Pc Qc XC mc ms free) (hbl : FrameBlind Pc) : vx_Back l R p e below s args y 3 8 (PreOf R mc ms Pc) (PostOf Qc mc ms free) (vx_Post XC mc ms free) := by
  obtain ⟨hrc, hrs, hfr, hlo, hws, hcw, -, hini, -⟩ := cb
  exact vx_back (bytes := bytes) (maxL := maxL) (ret := ret) hM hbl hrc hrs hfr hlo hws hcw (fun a' U hW => word_at hW (Or.inl (by first | rfl | simp [Cond.onTables, Cond.keeps, Cond.steady])) hini)
theorem vx_runV (S : CallFix p m c cc nL s args Ts own) (hM : vx_Met l y ws rm Pc Qc XC mc ms free) (cw : CallW R s args own C index y bytes maxL ret ws rm mc ms n) (hp : PreV s H C b Pc As)
    (hg : g.method = m) (hn : As.length = n) (hsize : g.locals.size = nL) (hstack : g.stack = As.reverse ++ .ref b :: rest) (hW : 2 * g.monitorRoom + (rest.map fun v => v.category).sum ≤ 8) (hdg : decode cc g.pc = .ok (.invokevirtual index, 3)) (hf : cells + mc ≤ R.cells ∧ slots + ms ≤ R.slots) :
    vx_Run p l e R s m args below meth c H locs cells slots mc ms g rest (Qc (Value.ref b :: As).toArray) XC free := by
  have hK : vx_Back l R p e below s args y 3 8 (PreOf R mc ms Pc) (PostOf Qc mc ms free) (vx_Post XC mc ms free) := vx_callBack cw.1 hM hp.1
  obtain ⟨⟨-, -, -, -, -, -, hcode, -, hy, hlen, hl⟩, hin, hse⟩ := cw
  obtain ⟨hx, hb, hml, ho, -⟩ := S
  obtain ⟨-, ⟨cellB, hcB, hoB, hclB⟩, hPc⟩ := hp
  intro T hT X
  rcases vx_callV X hx (C := C) (bytes := bytes) (maxL := maxL) (ret := ret) ho hl hin hse hcode hy hK (by rw [hT]; exact hcB) hoB hclB hg (hsize.trans hml.symm) (argsL := As) (rest := rest) (fun sig h => hn.trans (hlen sig h)) hstack hW (by rw [hb]; exact hdg)
    (fun vm₁ hW₁ => ⟨hf.1, hf.2, hPc (T.setVm vm₁) hT hW₁⟩) with ⟨v, vm₁, ⟨U', l2, c2, s2⟩, hW₁, X', ⟨g', mk, t, L, e1, e2, hq, h1, hL, h2, h3⟩, st⟩ | ⟨q, vm₁, ⟨U', l2, c2, s2⟩, hW₁, X', ⟨g', mk, t, L, E, ce, e1, e2, hq, hce, hcv, hcl, h1, hL, h2, h3⟩, st⟩
  · dsimp only [Pt.U, Pt.locs, Pt.cells, Pt.slots] at X' e1 e2 h1 h2 h3 st
    subst h1; subst h2; subst h3
    exact Or.inl ⟨v, (T.setVm vm₁).calling g' mk (Value.ref b :: As).toArray, t, U', L, hT, X', hL, e1, e2, hq, st⟩
  · dsimp only [Pt.U, Pt.locs, Pt.cells, Pt.slots] at X' e1 e2 h1 h2 h3 st hcl
    subst h1; subst h2; subst h3
    exact Or.inr ⟨q, (T.setVm vm₁).calling g' mk (Value.ref b :: As).toArray, t, U', L, E, ce, hT, X', hL, e1, e2, hq, hce, hcv, vx_cls hW₁ hcl, st⟩
theorem vx_runS (S : CallFix p m c cc nL s args Ts own) (hM : vx_Met l y ws rm Pc Qc XC mc ms free) (cw : CallB R s args own index y bytes maxL ret ws rm mc ms n ∧ (Cond.static y).before args s = true) (hp : PreS s H Pc As)
    (hg : g.method = m) (hn : As.length = n) (hsize : g.locals.size = nL) (hstack : g.stack = As.reverse ++ rest) (hW : 2 * g.monitorRoom + (rest.map fun v => v.category).sum ≤ 8) (hdg : decode cc g.pc = .ok (.invokestatic index, 3)) (hf : cells + mc ≤ R.cells ∧ slots + ms ≤ R.slots) :
    vx_Run p l e R s m args below meth c H locs cells slots mc ms g rest (Qc As.toArray) XC free := by
  have hK : vx_Back l R p e below s args y 3 8 (PreOf R mc ms Pc) (PostOf Qc mc ms free) (vx_Post XC mc ms free) := vx_callBack cw.1 hM hp.1
  obtain ⟨⟨-, -, -, -, -, -, hcode, hini, hy, hlen, hl⟩, hstt⟩ := cw
  obtain ⟨hx, hb, hml, ho, -⟩ := S
  intro T hT X
  rcases vx_callS X hx (bytes := bytes) (maxL := maxL) (ret := ret) ho hl hstt hini hcode hy hK hg (hsize.trans hml.symm) (argsL := As) (rest := rest) (fun sig h => hn.trans (hlen sig h)) hstack hW (by rw [hb]; exact hdg)
    (fun vm₁ hW₁ => ⟨hf.1, hf.2, hp.2 (T.setVm vm₁) hT hW₁⟩) with ⟨v, vm₁, ⟨U', l2, c2, s2⟩, hW₁, X', ⟨g', mk, t, L, e1, e2, hq, h1, hL, h2, h3⟩, st⟩ | ⟨q, vm₁, ⟨U', l2, c2, s2⟩, hW₁, X', ⟨g', mk, t, L, E, ce, e1, e2, hq, hce, hcv, hcl, h1, hL, h2, h3⟩, st⟩
  · dsimp only [Pt.U, Pt.locs, Pt.cells, Pt.slots] at X' e1 e2 h1 h2 h3 st
    subst h1; subst h2; subst h3
    exact Or.inl ⟨v, (T.setVm vm₁).calling g' mk As.toArray, t, U', L, hT, X', hL, e1, e2, hq, st⟩
  · dsimp only [Pt.U, Pt.locs, Pt.cells, Pt.slots] at X' e1 e2 h1 h2 h3 st hcl
    subst h1; subst h2; subst h3
    exact Or.inr ⟨q, (T.setVm vm₁).calling g' mk As.toArray, t, U', L, E, ce, hT, X', hL, e1, e2, hq, hce, hcv, vx_cls hW₁ hcl, st⟩
end Runs
section Rows
variable {p : Program} {l : Launch} {e : Env} {R : Room} {s : State} {m : MethodId} {args : Array Value} {below : List Frame} {meth : Method} {c : Code} {H : Heap} {locs : List Loc} {cells slots : Nat} {Q : State → Prop}
variable {mc ms : Nat} {free : Addr → Prop} {A0 A1 : Nat → Prop} {H0 : Heap} {a : Array Value} {pc : Nat} {ls : Array Slot} {st0 rest : List Value}
theorem vx_keep {st₀ t T' : State} {L : List Loc} (h0 : st₀.heap = H) (e1 : T'.heap = t.heap) (hS : va_S A0 H0 H locs) (hA : ∀ q, q < H.size → A1 q → A0 q) (hf : ∀ q, free q → A0 q) (hL : ∀ q ∈ L, free q.base) (hF : va_F A1 st₀ t) :
    H.size ≤ T'.heap.size ∧ (∀ q : Nat, q < H.size → ¬ A1 q → T'.heap[q]? = H[q]?) ∧ va_S A0 H0 T'.heap (locs ++ L) := by
  obtain ⟨hz, hk⟩ := hF
  rw [h0] at hz hk
  exact ⟨by rw [e1]; exact hz, fun q h1 h2 => by rw [e1]; exact hk q h1 h2,
    ⟨Nat.le_trans hS.1 (by rw [e1]; exact hz), fun q h1 h2 => by rw [e1, hk q (Nat.lt_of_lt_of_le h1 hS.1) (fun z => h2 (hA q (Nat.lt_of_lt_of_le h1 hS.1) z))]; exact hS.2.1 q h1 h2, fun q hq => by
      rcases List.mem_append.mp hq with h | h
      · exact hS.2.2 q h
      · exact hf _ (hL q h)⟩⟩
theorem vx_calli {S SX : Type} {post : Int32 → S → Prop} {px : SX → Prop} {B : S → State → Prop} {BX : String → SX → State → Prop} {AX : Nat → Prop} (hr : vx_Run p l e R s m args below meth c H locs cells slots mc ms (F0 m pc ls st0) rest (va_Qi post B A1 a) (vx_X px BX AX) free) (hS : va_S A0 H0 H locs) (hA : ∀ q, q < H.size → A1 q → A0 q) (hf : ∀ q, free q → A0 q) (hAX : ∀ q, q < H.size → AX q → A0 q)
    (kx : ∀ (E : String) (ce : Cell) (q9 : Addr) (u : SX) (t : State) (H1 : Heap) (locs1 : List Loc), t.heap = H1 → s.vm.Alike t.vm → px u → BX E u t → H.size ≤ H1.size → (∀ q : Nat, q < H.size → ¬ AX q → H1[q]? = H[q]?) → va_S A0 H0 H1 locs1 → H1[q9]? = some ce → ce.vm = .none → s.vm.findClass E = some ce.cls → vx_W p l e R s m args below meth c H1 locs1 (cells + mc) (slots + ms) Q (F0 m pc ls rest) q9)
    (kk : ∀ (r : Int32) (u : S) (t : State) (H1 : Heap) (locs1 : List Loc), t.heap = H1 → s.vm.Alike t.vm → post r u → B u t → H.size ≤ H1.size → (∀ q : Nat, q < H.size → ¬ A1 q → H1[q]? = H[q]?) → va_S A0 H0 H1 locs1 → W p l e R s m args below meth c H1 locs1 (cells + mc) (slots + ms) Q (F0 m (pc + 3) ls (.int r :: rest))) : W p l e R s m args below meth c H locs cells slots Q (F0 m pc ls st0) := by
  intro T hT X
  rcases hr T hT X with ⟨v, st₀, t, T', L, h0, X', hL, e1, e2, ⟨⟨r, u, hv, hp, hb⟩, hF⟩, st⟩ | ⟨q, st₀, t, T', L, E, ce, h0, X', hL, e1, e2, ⟨u, hp, hb, hF⟩, hce, hcv, hcl, st⟩
  · cases hv
    obtain ⟨k1, k2, k3⟩ := vx_keep h0 e1 hS hA hf hL hF
    obtain ⟨t2, a1, b1⟩ := kk r u t T'.heap (locs ++ L) e1.symm (by rw [← e2]; exact X'.warmed.alike) hp hb k1 k2 k3 T' rfl X'
    exact ⟨t2, st t2 a1, b1⟩
  · obtain ⟨k1, k2, k3⟩ := vx_keep h0 e1 hS hAX hf hL hF
    obtain ⟨t2, a1, b1⟩ := kx E ce q u t T'.heap (locs ++ L) e1.symm (by rw [← e2]; exact X'.warmed.alike) hp hb k1 k2 k3 (by rw [e1]; exact hce) hcv hcl T' rfl X'
    exact ⟨t2, st.trans a1, b1⟩
theorem vx_calll {S SX : Type} {post : Int64 → S → Prop} {px : SX → Prop} {B : S → State → Prop} {BX : String → SX → State → Prop} {AX : Nat → Prop} (hr : vx_Run p l e R s m args below meth c H locs cells slots mc ms (F0 m pc ls st0) rest (va_Ql post B A1 a) (vx_X px BX AX) free) (hS : va_S A0 H0 H locs) (hA : ∀ q, q < H.size → A1 q → A0 q) (hf : ∀ q, free q → A0 q) (hAX : ∀ q, q < H.size → AX q → A0 q)
    (kx : ∀ (E : String) (ce : Cell) (q9 : Addr) (u : SX) (t : State) (H1 : Heap) (locs1 : List Loc), t.heap = H1 → s.vm.Alike t.vm → px u → BX E u t → H.size ≤ H1.size → (∀ q : Nat, q < H.size → ¬ AX q → H1[q]? = H[q]?) → va_S A0 H0 H1 locs1 → H1[q9]? = some ce → ce.vm = .none → s.vm.findClass E = some ce.cls → vx_W p l e R s m args below meth c H1 locs1 (cells + mc) (slots + ms) Q (F0 m pc ls rest) q9)
    (kk : ∀ (r : Int64) (u : S) (t : State) (H1 : Heap) (locs1 : List Loc), t.heap = H1 → s.vm.Alike t.vm → post r u → B u t → H.size ≤ H1.size → (∀ q : Nat, q < H.size → ¬ A1 q → H1[q]? = H[q]?) → va_S A0 H0 H1 locs1 → W p l e R s m args below meth c H1 locs1 (cells + mc) (slots + ms) Q (F0 m (pc + 3) ls (.long r :: rest))) : W p l e R s m args below meth c H locs cells slots Q (F0 m pc ls st0) := by
  intro T hT X
  rcases hr T hT X with ⟨v, st₀, t, T', L, h0, X', hL, e1, e2, ⟨⟨r, u, hv, hp, hb⟩, hF⟩, st⟩ | ⟨q, st₀, t, T', L, E, ce, h0, X', hL, e1, e2, ⟨u, hp, hb, hF⟩, hce, hcv, hcl, st⟩
  · cases hv
    obtain ⟨k1, k2, k3⟩ := vx_keep h0 e1 hS hA hf hL hF
    obtain ⟨t2, a1, b1⟩ := kk r u t T'.heap (locs ++ L) e1.symm (by rw [← e2]; exact X'.warmed.alike) hp hb k1 k2 k3 T' rfl X'
    exact ⟨t2, st t2 a1, b1⟩
  · obtain ⟨k1, k2, k3⟩ := vx_keep h0 e1 hS hAX hf hL hF
    obtain ⟨t2, a1, b1⟩ := kx E ce q u t T'.heap (locs ++ L) e1.symm (by rw [← e2]; exact X'.warmed.alike) hp hb k1 k2 k3 (by rw [e1]; exact hce) hcv hcl T' rfl X'
    exact ⟨t2, st.trans a1, b1⟩
theorem vx_callf {S SX : Type} {post : UInt32 → S → Prop} {px : SX → Prop} {B : S → State → Prop} {BX : String → SX → State → Prop} {AX : Nat → Prop} (hr : vx_Run p l e R s m args below meth c H locs cells slots mc ms (F0 m pc ls st0) rest (va_Qf post B A1 a) (vx_X px BX AX) free) (hS : va_S A0 H0 H locs) (hA : ∀ q, q < H.size → A1 q → A0 q) (hf : ∀ q, free q → A0 q) (hAX : ∀ q, q < H.size → AX q → A0 q)
    (kx : ∀ (E : String) (ce : Cell) (q9 : Addr) (u : SX) (t : State) (H1 : Heap) (locs1 : List Loc), t.heap = H1 → s.vm.Alike t.vm → px u → BX E u t → H.size ≤ H1.size → (∀ q : Nat, q < H.size → ¬ AX q → H1[q]? = H[q]?) → va_S A0 H0 H1 locs1 → H1[q9]? = some ce → ce.vm = .none → s.vm.findClass E = some ce.cls → vx_W p l e R s m args below meth c H1 locs1 (cells + mc) (slots + ms) Q (F0 m pc ls rest) q9)
    (kk : ∀ (r : UInt32) (u : S) (t : State) (H1 : Heap) (locs1 : List Loc), t.heap = H1 → s.vm.Alike t.vm → post r u → B u t → H.size ≤ H1.size → (∀ q : Nat, q < H.size → ¬ A1 q → H1[q]? = H[q]?) → va_S A0 H0 H1 locs1 → W p l e R s m args below meth c H1 locs1 (cells + mc) (slots + ms) Q (F0 m (pc + 3) ls (.float r :: rest))) : W p l e R s m args below meth c H locs cells slots Q (F0 m pc ls st0) := by
  intro T hT X
  rcases hr T hT X with ⟨v, st₀, t, T', L, h0, X', hL, e1, e2, ⟨⟨r, u, hv, hp, hb⟩, hF⟩, st⟩ | ⟨q, st₀, t, T', L, E, ce, h0, X', hL, e1, e2, ⟨u, hp, hb, hF⟩, hce, hcv, hcl, st⟩
  · cases hv
    obtain ⟨k1, k2, k3⟩ := vx_keep h0 e1 hS hA hf hL hF
    obtain ⟨t2, a1, b1⟩ := kk r u t T'.heap (locs ++ L) e1.symm (by rw [← e2]; exact X'.warmed.alike) hp hb k1 k2 k3 T' rfl X'
    exact ⟨t2, st t2 a1, b1⟩
  · obtain ⟨k1, k2, k3⟩ := vx_keep h0 e1 hS hAX hf hL hF
    obtain ⟨t2, a1, b1⟩ := kx E ce q u t T'.heap (locs ++ L) e1.symm (by rw [← e2]; exact X'.warmed.alike) hp hb k1 k2 k3 (by rw [e1]; exact hce) hcv hcl T' rfl X'
    exact ⟨t2, st.trans a1, b1⟩
theorem vx_calld {S SX : Type} {post : UInt64 → S → Prop} {px : SX → Prop} {B : S → State → Prop} {BX : String → SX → State → Prop} {AX : Nat → Prop} (hr : vx_Run p l e R s m args below meth c H locs cells slots mc ms (F0 m pc ls st0) rest (va_Qd post B A1 a) (vx_X px BX AX) free) (hS : va_S A0 H0 H locs) (hA : ∀ q, q < H.size → A1 q → A0 q) (hf : ∀ q, free q → A0 q) (hAX : ∀ q, q < H.size → AX q → A0 q)
    (kx : ∀ (E : String) (ce : Cell) (q9 : Addr) (u : SX) (t : State) (H1 : Heap) (locs1 : List Loc), t.heap = H1 → s.vm.Alike t.vm → px u → BX E u t → H.size ≤ H1.size → (∀ q : Nat, q < H.size → ¬ AX q → H1[q]? = H[q]?) → va_S A0 H0 H1 locs1 → H1[q9]? = some ce → ce.vm = .none → s.vm.findClass E = some ce.cls → vx_W p l e R s m args below meth c H1 locs1 (cells + mc) (slots + ms) Q (F0 m pc ls rest) q9)
    (kk : ∀ (r : UInt64) (u : S) (t : State) (H1 : Heap) (locs1 : List Loc), t.heap = H1 → s.vm.Alike t.vm → post r u → B u t → H.size ≤ H1.size → (∀ q : Nat, q < H.size → ¬ A1 q → H1[q]? = H[q]?) → va_S A0 H0 H1 locs1 → W p l e R s m args below meth c H1 locs1 (cells + mc) (slots + ms) Q (F0 m (pc + 3) ls (.double r :: rest))) : W p l e R s m args below meth c H locs cells slots Q (F0 m pc ls st0) := by
  intro T hT X
  rcases hr T hT X with ⟨v, st₀, t, T', L, h0, X', hL, e1, e2, ⟨⟨r, u, hv, hp, hb⟩, hF⟩, st⟩ | ⟨q, st₀, t, T', L, E, ce, h0, X', hL, e1, e2, ⟨u, hp, hb, hF⟩, hce, hcv, hcl, st⟩
  · cases hv
    obtain ⟨k1, k2, k3⟩ := vx_keep h0 e1 hS hA hf hL hF
    obtain ⟨t2, a1, b1⟩ := kk r u t T'.heap (locs ++ L) e1.symm (by rw [← e2]; exact X'.warmed.alike) hp hb k1 k2 k3 T' rfl X'
    exact ⟨t2, st t2 a1, b1⟩
  · obtain ⟨k1, k2, k3⟩ := vx_keep h0 e1 hS hAX hf hL hF
    obtain ⟨t2, a1, b1⟩ := kx E ce q u t T'.heap (locs ++ L) e1.symm (by rw [← e2]; exact X'.warmed.alike) hp hb k1 k2 k3 (by rw [e1]; exact hce) hcv hcl T' rfl X'
    exact ⟨t2, st.trans a1, b1⟩
theorem vx_callv {S SX : Type} {post : S → Prop} {px : SX → Prop} {B : S → State → Prop} {BX : String → SX → State → Prop} {AX : Nat → Prop} (hr : vx_Run p l e R s m args below meth c H locs cells slots mc ms (F0 m pc ls st0) rest (va_Qv post B A1 a) (vx_X px BX AX) free) (hS : va_S A0 H0 H locs) (hA : ∀ q, q < H.size → A1 q → A0 q) (hf : ∀ q, free q → A0 q) (hAX : ∀ q, q < H.size → AX q → A0 q)
    (kx : ∀ (E : String) (ce : Cell) (q9 : Addr) (u : SX) (t : State) (H1 : Heap) (locs1 : List Loc), t.heap = H1 → s.vm.Alike t.vm → px u → BX E u t → H.size ≤ H1.size → (∀ q : Nat, q < H.size → ¬ AX q → H1[q]? = H[q]?) → va_S A0 H0 H1 locs1 → H1[q9]? = some ce → ce.vm = .none → s.vm.findClass E = some ce.cls → vx_W p l e R s m args below meth c H1 locs1 (cells + mc) (slots + ms) Q (F0 m pc ls rest) q9)
    (kk : ∀ (u : S) (t : State) (H1 : Heap) (locs1 : List Loc), t.heap = H1 → s.vm.Alike t.vm → post u → B u t → H.size ≤ H1.size → (∀ q : Nat, q < H.size → ¬ A1 q → H1[q]? = H[q]?) → va_S A0 H0 H1 locs1 → W p l e R s m args below meth c H1 locs1 (cells + mc) (slots + ms) Q (F0 m (pc + 3) ls (rest))) : W p l e R s m args below meth c H locs cells slots Q (F0 m pc ls st0) := by
  intro T hT X
  rcases hr T hT X with ⟨v, st₀, t, T', L, h0, X', hL, e1, e2, ⟨⟨u, hv, hp, hb⟩, hF⟩, st⟩ | ⟨q, st₀, t, T', L, E, ce, h0, X', hL, e1, e2, ⟨u, hp, hb, hF⟩, hce, hcv, hcl, st⟩
  · cases hv
    obtain ⟨k1, k2, k3⟩ := vx_keep h0 e1 hS hA hf hL hF
    obtain ⟨t2, a1, b1⟩ := kk u t T'.heap (locs ++ L) e1.symm (by rw [← e2]; exact X'.warmed.alike) hp hb k1 k2 k3 T' rfl X'
    exact ⟨t2, st t2 a1, b1⟩
  · obtain ⟨k1, k2, k3⟩ := vx_keep h0 e1 hS hAX hf hL hF
    obtain ⟨t2, a1, b1⟩ := kx E ce q u t T'.heap (locs ++ L) e1.symm (by rw [← e2]; exact X'.warmed.alike) hp hb k1 k2 k3 (by rw [e1]; exact hce) hcv hcl T' rfl X'
    exact ⟨t2, st.trans a1, b1⟩
/-- caught by the row x of this method's table; the rows ahead don't take it -/
theorem vx_catch {own name : String} {E : String} {ce : Cell} {q : Addr} (hown : s.vm.findClass own = some m.cls) (pre : List ExceptionTableEntry) (x : ExceptionTableEntry) (suf : List ExceptionTableEntry) (hsplit : c.exceptionTable.toList = pre ++ x :: suf)
    (hpass : ∀ z ∈ pre, covers z pc = false ∨ (z.catchType ≠ 0 ∧ ∃ nm : String, (Cond.classLink own z.catchType nm).before args s = true ∧ va_Nc E nm s)) (hx : covers x pc = true) (h0 : x.catchType ≠ 0)
    (hlink : (Cond.classLink own x.catchType name).before args s = true) (hcast : (Cond.castable E name).before args s = true) (hcell : H[q]? = some ce) (hv : ce.vm = .none) (hcl : s.vm.findClass E = some ce.cls)
    (kk : W p l e R s m args below meth c H locs cells slots Q (F0 m x.handlerPc ls [.ref q])) : vx_W p l e R s m args below meth c H locs cells slots Q (F0 m pc ls rest) q := by
  intro T hT X
  have hpl : e.platform.magicAccessors = ({} : Platform).magicAccessors := by rw [X.admits.platform]
  obtain ⟨c3, c4, hc3, hc4, hasg⟩ := Cond.castable_spec hcast
  cases Option.some.inj (hc3.symm.trans hcl)
  obtain ⟨c5, hc5, hcl5⟩ := Cond.classLink_spec hown hlink e.platform hpl
  cases Option.some.inj (hc4.symm.trans hc5)
  obtain ⟨vm', X', st⟩ := X.thenCaughtThrough q (g := F0 m pc ls rest) rfl (Steps.refl _) (by rw [hT]; exact hcell) (by rw [hv]; rfl) (by obtain ⟨k9, h9, -⟩ := Vm.findClass_spec hcl; exact ⟨k9, h9⟩) pre x suf hsplit
    (fun z hz => by
      rcases hpass z hz with h | ⟨hz0, nm, hl1, hn1⟩
      · exact Or.inl h
      · obtain ⟨c6, hc6, hcl6⟩ := Cond.classLink_spec hown hl1 e.platform hpl
        obtain ⟨a8, b8, h1, h2, h3⟩ := hn1
        cases Option.some.inj (h1.symm.trans hcl)
        cases Option.some.inj (h2.symm.trans hc6)
        exact Or.inr ⟨hz0, _, hcl6, h3⟩) hx (Or.inr ⟨h0, c4, hcl5, hasg⟩)
  obtain ⟨t, a1, b1⟩ := kk (T.setVm vm') hT X'
  exact ⟨t, st.trans a1, b1⟩
end Rows
section Ends
variable {p : Program} {l : Launch} {e : Env} {R : Room} {s : State} {m : MethodId} {args : Array Value} {below : List Frame} {meth : Method} {c : Code} {H : Heap} {locs : List Loc} {cells slots : Nat} {Q : State → Prop}
variable {mc ms : Nat} {free : Addr → Prop} {A0 A1 : Nat → Prop} {H0 : Heap} {a : Array Value} {ls : Array Slot} {st0 rest : List Value}
variable {Qc : Array Value → State → Outcome → State → Prop} {XC : String → State → State → Prop}
/-- what a body that may throw owes at its end -/
def vx_MQ (below : List Frame) (Qc : Array Value → State → Outcome → State → Prop) (XC : String → State → State → Prop) (a : Array Value) (s : State) (mc ms : Nat) (free : Addr → Prop) : State → Prop := fun t =>
  ∃ o, t.status = .running ∧ Ended t below o ∧ vx_Q Qc XC mc ms free a s o t
theorem vx_ret {g : JFrame} {mc ms : Nat} (k : W p l e R s m args below meth c H locs cells slots (MQ below Qc args s mc ms free) g) : W p l e R s m args below meth c H locs cells slots (vx_MQ below Qc XC args s mc ms free) g := by
  intro T hT X
  obtain ⟨t, a1, o, b1, b2, b3, b4⟩ := k T hT X
  exact ⟨t, a1, o, b1, b2, Or.inl ⟨b3, b4⟩⟩
/-- not caught here: it goes on to the caller -/
theorem vx_widen {g : JFrame} {q : Addr} {k n : Nat} (h1 : cells ≤ k) (h2 : slots ≤ n) (kk : vx_W p l e R s m args below meth c H locs k n Q g q) : vx_W p l e R s m args below meth c H locs cells slots Q g q := fun T hT X => kk T hT (stand_widen X h1 h2)
theorem vx_out {pc : Nat} {E : String} {ce : Cell} {q : Addr} {mc ms : Nat} (hout : ∀ x ∈ c.exceptionTable.toList, covers x pc = false) (hlocks : meth.locks = false) (hcell : H[q]? = some ce) (hv : ce.vm = .none) (hcl : s.vm.findClass E = some ce.cls)
    (hx : ∀ t : State, t.heap = H → s.vm.Alike t.vm → XC E s t) (hf : ∀ z ∈ locs, free z.base) (hc : cells ≤ mc) (hs : slots ≤ ms) :
    vx_W p l e R s m args below meth c H locs cells slots (vx_MQ below Qc XC args s mc ms free) (F0 m pc ls rest) q := by
  intro T hT X
  obtain ⟨st1, hrun, hend, hW, hsm⟩ := X.leaveThrown q (g := F0 m pc ls rest) rfl rfl rfl hout hlocks
  have hcell9 : (T.setFrames (.throwing q :: below)).heap[q]? = some ce := by
    show T.heap[q]? = some ce
    rw [hT]; exact hcell
  exact ⟨_, st1, .threw q, hrun, hend, Or.inr ⟨q, rfl, E, ce, locs, hx _ hT hW.alike, hcell9, hv, hcl, hW, hsm.mono hc hs, hf⟩⟩
theorem vx_frame {U : State} {k n : Nat} (h : s.sameButNew ({ U with vm := s.vm } : State) locs k n) : s.heap.size ≤ U.heap.size ∧ ∀ q : Nat, q < s.heap.size → (∀ z ∈ locs, z.base ≠ q) → U.heap[q]? = s.heap[q]? := by
  obtain ⟨-, h2, -, -, -, h6⟩ := h
  refine ⟨h2, fun q hq hz => ?_⟩
  obtain ⟨c9, e1, e2, e3, e4⟩ := h6 q _ (Array.getElem?_eq_getElem hq)
  have hs : c9.slots = (s.heap[q]).slots := Array.ext_getElem? fun i => e4 i fun hm => hz _ hm rfl
  have h9 : c9 = s.heap[q] := by
    rw [hs] at e2
    exact e2
  have e5 : U.heap[q]? = some c9 := e1
  rw [e5, h9, Array.getElem?_eq_getElem hq]
/-- the words of a throw but the four that speak of the heap -/
def vx_no (w : Cond) : Bool := decide (w ≠ .isRef (.static Bundle.tN "UNASSIGNED_STACK" Bundle.steD)) && decide (w ≠ .isRef (.static Bundle.tN "SUPPRESSED_SENTINEL" Bundle.listD)) && decide (w ≠ .laysStatic Bundle.tN "UNASSIGNED_STACK" Bundle.steD) && decide (w ≠ .laysStatic Bundle.tN "SUPPRESSED_SENTINEL" Bundle.listD)
def vx_at0 (own : String) (ic : Nat) (X : String) (names : List String) : List Cond := (Bundle.ownAtoms0 own ic X names).filter vx_no
def vx_atS (own : String) (ic : Nat) (X : String) (names : List String) : List Cond := (Bundle.ownAtoms own ic X names).filter vx_no
/-- a word that the tables alone decide, or a good one -/
def vx_ot (w : Cond) : Bool := w.onTables || goodWord w
theorem vx_ot_at {args a' : Array Value} {s U : State} {w : Cond} (hW : s.WarmedH U.vm) (hvm : s.vm = U.vm) (hg : vx_ot w = true) (h : w.before args s = true) : w.before a' U = true := by
  simp only [vx_ot, Bool.or_eq_true] at hg
  rcases hg with hg | hg
  · exact va_tabs hg hvm h
  · exact word_at hW (good_of_word hg) h
/-- a list's words: the good ones out of the method's own list, the others by premises of their own -/
theorem vx_hat {args : Array Value} {s : State} {L B : List Cond} (h1 : ∀ w ∈ L.filter goodWord, w.before args s = true) (h2 : ∀ w ∈ L.filter (fun w => !goodWord w), w ∈ B) (h3 : ∀ w ∈ B, w.before args s = true) : ∀ w ∈ L, w.before args s = true := by
  intro w hw
  by_cases g : goodWord w = true
  · exact h1 w (List.mem_filter.mpr ⟨hw, g⟩)
  · refine h3 w (h2 w (List.mem_filter.mpr ⟨hw, ?_⟩))
    show (!goodWord w) = true
    cases hgw : goodWord w
    · rfl
    · exact absurd hgw g
theorem vx_c {args : Array Value} {s : State} {w : Cond} {B : List Cond} (h : w.before args s = true) (t : ∀ w ∈ B, w.before args s = true) : ∀ w' ∈ w :: B, w'.before args s = true := fun w' h' => (List.mem_cons.mp h').elim (fun e => by rw [e]; exact h) (t w')
theorem vx_n {args : Array Value} {s : State} : ∀ w ∈ ([] : List Cond), w.before args s = true := fun _ h => nomatch h
theorem vx_own {args : Array Value} {s : State} {L : List Cond} (h1 : ∀ w ∈ L.filter vx_no, w.before args s = true)
    (hU : (Cond.isRef (.static Bundle.tN "UNASSIGNED_STACK" Bundle.steD)).before args s = true) (hN : (Cond.isRef (.static Bundle.tN "SUPPRESSED_SENTINEL" Bundle.listD)).before args s = true)
    (lU : (Cond.laysStatic Bundle.tN "UNASSIGNED_STACK" Bundle.steD).before args s = true) (lN : (Cond.laysStatic Bundle.tN "SUPPRESSED_SENTINEL" Bundle.listD).before args s = true) : ∀ w ∈ L, w.before args s = true := by
  intro w hw
  by_cases e1 : w = .isRef (.static Bundle.tN "UNASSIGNED_STACK" Bundle.steD)
  · rw [e1]; exact hU
  · by_cases e2 : w = .isRef (.static Bundle.tN "SUPPRESSED_SENTINEL" Bundle.listD)
    · rw [e2]; exact hN
    · by_cases e3 : w = .laysStatic Bundle.tN "UNASSIGNED_STACK" Bundle.steD
      · rw [e3]; exact lU
      · by_cases e4 : w = .laysStatic Bundle.tN "SUPPRESSED_SENTINEL" Bundle.listD
        · rw [e4]; exact lN
        · exact h1 w (List.mem_filter.mpr ⟨hw, by unfold vx_no; rw [decide_eq_true e1, decide_eq_true e2, decide_eq_true e3, decide_eq_true e4]; rfl⟩)
/-- where a static field lies, its class's statics cell in H -/
def vx_L (C n d : String) (A : Nat → Prop) (U : State) (H : Heap) : Prop := ∃ (c : ClassId) (k : Class) (i : Nat) (f : Field) (a : Nat) (cell : Cell), U.vm.findClass C = some c ∧ U.fieldFound? C n d = some (c, k, i, f) ∧ f.isStatic = true ∧ k.statics = some a ∧ H[a]? = some cell ∧ cell.vm.isStatics = true ∧ cell.cls = c ∧ f.slot < cell.slots.size ∧ k.staticTypes[f.slot]? = some f.type ∧ ¬ A a
theorem vx_L.moved {C n d : String} {A : Nat → Prop} {u U : State} {H : Heap} (hvm : u.vm.Alike U.vm) (h : vx_L C n d A u H) : vx_L C n d A U H := by
  obtain ⟨c, k, i, f, a, cell, h1, h2, h3, h4, h5, h6, h7, h8, h9, h10⟩ := h
  obtain ⟨k', hi', he⟩ := State.fieldFound?_setVm hvm h2
  exact ⟨c, k', i, f, a, cell, by rw [hvm.findClass]; exact h1, hi', h3, by rw [he]; exact h4, h5, h6, h7, h8, by rw [he]; exact h9, h10⟩
theorem vx_L.kept {C n d : String} {A : Nat → Prop} {U : State} {H H1 : Heap} (h : vx_L C n d A U H) (hq : ∀ a : Nat, a < H.size → ¬ A a → H1[a]? = H[a]?) : vx_L C n d A U H1 := by
  obtain ⟨c, k, i, f, a, cell, h1, h2, h3, h4, h5, h6, h7, h8, h9, h10⟩ := h
  exact ⟨c, k, i, f, a, cell, h1, h2, h3, h4, by rw [hq a (Array.getElem?_eq_some_iff.mp h5).1 h10]; exact h5, h6, h7, h8, h9, h10⟩
theorem vx_L.narrow {C n d : String} {A B : Nat → Prop} {U : State} {H : Heap} (h : vx_L C n d A U H) (hAB : ∀ q, B q → A q) : vx_L C n d B U H := by
  obtain ⟨c, k, i, f, a, cell, h1, h2, h3, h4, h5, h6, h7, h8, h9, h10⟩ := h
  exact ⟨c, k, i, f, a, cell, h1, h2, h3, h4, h5, h6, h7, h8, h9, fun z => h10 (hAB _ z)⟩
theorem vx_L.word {C n d : String} {A : Nat → Prop} {s : State} {args : Array Value} (h : vx_L C n d A s s.heap) : (Cond.laysStatic C n d).before args s = true := by
  obtain ⟨c, k, i, f, a, cell, h1, h2, h3, h4, h5, h6, h7, h8, h9, -⟩ := h
  show (Cond.laysStatic C n d).holds args s none s [] = true
  exact Cond.laysStatic_of h1 h2 h3 h4 h5 h6 h7 h8 h9
/-- .. and what it holds: null or some reference -/
def vx_Zq (C n d : String) (A : Nat → Prop) (U : State) (H : Heap) : Prop := va_Zq C n d A U H ∧ vx_L C n d A U H
theorem vx_Zq.moved {C n d : String} {A : Nat → Prop} {u U : State} {H : Heap} (hvm : u.vm.Alike U.vm) (h : vx_Zq C n d A u H) : vx_Zq C n d A U H := ⟨va_Zq.moved hvm h.1, vx_L.moved hvm h.2⟩
theorem vx_Zq.kept {C n d : String} {A : Nat → Prop} {U : State} {H H1 : Heap} (h : vx_Zq C n d A U H) (hq : ∀ a : Nat, a < H.size → ¬ A a → H1[a]? = H[a]?) : vx_Zq C n d A U H1 := ⟨va_Zq.kept h.1 hq, vx_L.kept h.2 hq⟩
theorem vx_Zq.narrow {C n d : String} {A B : Nat → Prop} {U : State} {H : Heap} (h : vx_Zq C n d A U H) (hAB : ∀ q, B q → A q) : vx_Zq C n d B U H := ⟨va_Zq.narrow h.1 hAB, vx_L.narrow h.2 hAB⟩
theorem vx_Zqof {args : Array Value} {s : State} {C n d : String} {A : Nat → Prop} (hl : (Cond.laysStatic C n d).before args s = true) (hini : (Cond.initialized C).before args s = true) (h : (Cond.isRef (.static C n d)).before args s = true) (hA : ∀ a : Nat, a < s.heap.size → ¬ A a) : vx_Zq C n d A s s.heap := by
  refine ⟨va_Zqof hl hini h hA, ?_⟩
  obtain ⟨c, k, i, f, a, cell, h1, h2, h3, h4, h5, h6, h7, h8, h9⟩ := Cond.laysStatic_spec hl
  exact ⟨c, k, i, f, a, cell, h1, h2, h3, h4, h5, h6, h7, h8, h9, hA a (Array.getElem?_eq_some_iff.mp h5).1⟩
theorem vx_isRef {C n d : String} {v : Value} {A : Nat → Prop} {s : State} {args : Array Value} (h : va_Z C n d v A s s.heap) (hv : v.isRef = true) : (Cond.isRef (.static C n d)).before args s = true := by
  obtain ⟨cf, kf, fi, f, a, cell, h1, h2, h3, h4, h5, h6, h7, -⟩ := h
  have he : (Term.static C n d).eval args s none [] s = some v := by
    simp [Term.eval, State.fieldNamed?, h1, h2, h4, h5, h6, h7]
  simp only [Cond.before, Cond.holds, Cond.value, he]
  cases v <;> simp_all [Value.isRef]
theorem vx_isRefq {C n d : String} {A : Nat → Prop} {s : State} {args : Array Value} (h : va_Zq C n d A s s.heap) : (Cond.isRef (.static C n d)).before args s = true := by
  rcases h with h | ⟨t, h⟩
  · exact vx_isRef h rfl
  · exact vx_isRef h rfl
/-- the same frame, seen from here: as if the method were called anew in this heap -/
theorem vx_rebase {T : State} (X : Stand p l e R s m args below meth c T locs cells slots) {R' : Room} (hf : R'.frames ≤ R.frames) (hl : R'.locals ≤ R.locals) (hc : cells + R'.cells ≤ R.cells) (hs : slots + R'.slots ≤ R.slots) :
    Stand p l e R' ((T.setVm s.vm).setFrames (.invoking m args :: below)) m args below meth c T [] 0 0 := by
  have htop : (T.setVm s.vm).topJava?.isSome := X.here.top
  have hF : ((T.setVm s.vm).setFrames (.invoking m args :: below)).frames = .invoking m args :: below := State.frames_setFrames _ (State.cur_lt_of_top htop)
  obtain ⟨g₀, hg0⟩ := Option.isSome_iff_exists.mp htop
  obtain ⟨r, hr⟩ := State.topJava?_eq_some.mp hg0
  have hl9 : e.platform.stackLimits (T.setVm s.vm).me = e.platform.stackLimits s.me := X.limits
  have hb9 : (T.setVm s.vm).me.stackBytes = s.me.stackBytes := X.bytes
  refine ⟨X.admits, X.cas, X.clock, hF, ?_, X.hears, X.method, X.code, X.here, X.tail, X.warmed, ?_, ?_, ?_⟩
  · have h := X.room
    have hU : ((T.setVm s.vm).setFrames (.invoking m args :: below)).localsInUse = s.localsInUse := by
      rw [State.localsInUse_invoking hF (meth := meth) (c := c) X.method X.code, State.localsInUse_invoking X.frames X.method X.code]
    simp only [State.hasRoom, Bool.and_eq_true, decide_eq_true_eq] at h ⊢
    obtain ⟨⟨⟨⟨h1, h2, h3, h4, h5, h6⟩, h7⟩, h8⟩, h9⟩ := h
    rw [X.frames, List.length_cons] at h2 h3
    have q1 := X.heapSize
    have q2 := X.used
    simp only [hF, hU, List.length_cons, State.stackLimits_setFrames, State.stackBytes_setFrames, hl9, hb9]
    refine ⟨⟨⟨⟨by omega, by omega, by omega, by omega, by omega, h6⟩, ?_⟩, ?_⟩, X.book⟩
    · show T.heap.size + R'.cells ≤ e.platform.maxCells
      omega
    · show T.slotsUsed + R'.slots ≤ e.platform.maxSlots
      omega
  · rw [State.stackLimits_setFrames]; rfl
  · rw [State.stackBytes_setFrames]; rfl
  · refine ⟨?_, Nat.le_refl _, Nat.le_refl _, ?_, ?_, fun a c9 h9 => ⟨c9, h9, rfl, rfl, fun _ _ => rfl⟩⟩
    · obtain ⟨t, ht, -⟩ := State.frames_cons hr
      show T.setVm s.vm = { ((T.setVm s.vm).setFrames (.invoking m args :: below)).setFrames (T.setVm s.vm).frames with heap := T.heap, slotsUsed := T.slotsUsed }
      rw [State.setFrames_setFrames, State.setFrames_self ht]
      rfl
    · show T.slotsUsed = T.slotsUsed + ((T.heap.toList.drop T.heap.size).map (·.slots.size)).sum
      rw [List.drop_eq_nil_of_le (Nat.le_of_eq Array.length_toList)]
      rfl
    · show ((T.heap.toList.drop T.heap.size).map (·.slots.size)).sum ≤ 0
      rw [List.drop_eq_nil_of_le (Nat.le_of_eq Array.length_toList)]
      exact Nat.le_refl _
/-- 'throw new E()': new; dup; invokespecial; athrow -/
theorem vx_throw0 {cc : ByteArray} {pc : Nat} (hexec : p.tables.exec = Jvm.exec) (hb : c.code = cc) (hl : l.stackTraces = false) {own cls : String} {names : List String} {ik ic mc ms : Nat} {A : Nat → Prop}
    (hown : s.vm.findClass own = some m.cls) (hcls : Bundle.fit cls = true) (hnames : ∀ n ∈ names, Bundle.fit n = true)
    (hk : (Cond.classLink own ik cls).before args s = true) (hini : (Cond.initialized cls).before args s = true) (hat : ∀ w ∈ vx_at0 own ic cls names, w.before args s = true)
    (hgood : ∀ w ∈ Cond.classLink own ik cls :: Cond.initialized cls :: vx_at0 own ic cls names, vx_ot w = true)
    (hU : vx_Zq Bundle.tN "UNASSIGNED_STACK" Bundle.steD A s s.heap) (hN : vx_Zq Bundle.tN "SUPPRESSED_SENTINEL" Bundle.listD A s s.heap) (hS : va_S A s.heap H locs) (hsize : ls.size = c.maxLocals)
    (d0 : decode cc pc = .ok (.new ik, 3)) (d3 : decode cc (pc + 3) = .ok (.dup, 1)) (d4 : decode cc (pc + 4) = .ok (.invokespecial ic, 3)) (d7 : decode cc (pc + 7) = .ok (.athrow, 1))
    (hout : ∀ x ∈ c.exceptionTable.toList, covers x (pc + 7) = false)
    (hRframes : names.length + 3 < R.frames) (hRlocals : (rest.map fun v => v.category).sum + (13 * (names.length + 1) + 42) ≤ R.locals) (hRcells : cells + 1 ≤ R.cells) (hRslots : slots + 6 ≤ R.slots) (hlocks : meth.locks = false)
    (hx : ∀ t : State, s.vm.Alike t.vm → H.size ≤ t.heap.size → (∀ q : Nat, q < H.size → t.heap[q]? = H[q]?) → XC cls s t)
    (hf : ∀ z ∈ locs, free z.base) (hc : cells + 1 ≤ mc) (hs : slots + 6 ≤ ms) :
    W p l e R s m args below meth c H locs cells slots (vx_MQ below Qc XC args s mc ms free) (F0 m pc ls rest) := by
  intro T hT X
  have htr : e.platform.stackTraces = false := (show e.platform.stackTraces = l.stackTraces by rw [X.admits.platform]).trans hl
  have Y := vx_rebase X (R' := { frames := R.frames, locals := R.locals, cells := 1, slots := 6 }) (Nat.le_refl _) (Nat.le_refl _) hRcells hRslots
  obtain ⟨s', hA⟩ : ∃ z, z = (T.setVm s.vm).setFrames (.invoking m args :: below) := ⟨_, rfl⟩
  rw [← hA] at Y
  have hvm : s'.vm = s.vm := by rw [hA]; rfl
  have hhp : s'.heap = H := by rw [hA]; exact hT
  have hW0 : s.WarmedH s'.vm := by rw [hvm]; exact State.WarmedH.refl s
  have hat' : ∀ w ∈ vx_at0 own ic cls names, w.before args s' = true := fun w hw => vx_ot_at hW0 hvm.symm (hgood w (List.mem_cons_of_mem _ (List.mem_cons_of_mem _ hw))) (hat w hw)
  have hk' : (Cond.classLink own ik cls).before args s' = true := vx_ot_at hW0 hvm.symm (hgood _ List.mem_cons_self) hk
  have hini' : (Cond.initialized cls).before args s' = true := vx_ot_at hW0 hvm.symm (hgood _ (List.mem_cons_of_mem _ List.mem_cons_self)) hini
  have hU' : vx_Zq Bundle.tN "UNASSIGNED_STACK" Bundle.steD A s' s'.heap := by rw [hhp]; exact vx_Zq.moved hW0.alike (hU.kept hS.2.1)
  have hN' : vx_Zq Bundle.tN "SUPPRESSED_SENTINEL" Bundle.listD A s' s'.heap := by rw [hhp]; exact vx_Zq.moved hW0.alike (hN.kept hS.2.1)
  have h : ∀ w ∈ Bundle.ownAtoms0 own ic cls names, w.before args s' = true := vx_own hat' (vx_isRefq hU'.1) (vx_isRefq hN'.1) hU'.2.word hN'.2.word
  have hown' : s'.vm.findClass own = some m.cls := by rw [hvm]; exact hown
  have hins : (Cond.instantiable cls 6).before args s' = true := h _ (by simp [Bundle.ownAtoms0])
  obtain ⟨vm₁, cX, kX, hfX, hkX, -, -, X₁, st1⟩ := Y.newCold hexec (own := own) (C := cls) (index := ik) (n := 6) hown' hk' hins hini'
    (g := F0 m pc ls rest) rfl (by rw [hb]; exact d0) (Nat.le_refl _) (Nat.le_refl _)
  generalize hT1 : (T.setVm vm₁).pushCell { cls := cX, slots := kX.instanceTypes.map defaultValue, vm := .none } = T1 at X₁ st1
  have hcat : (Value.ref T.heap.size).category = 1 := rfl
  have hcellA : T1.heap[T.heap.size]? = some (freshCell cX kX) := by rw [← hT1]; exact State.heap_pushCell_size _ _
  have d3' : decode c.code (pc + 3) = .ok (.dup, 1) := by rw [hb]; exact d3
  obtain ⟨U, hsteps, hrun, hend, hW, hsame, ce, hce, hO⟩ := X₁.ctorThrow0 hexec htr (own := own) (cls := cls) (names := names) (ic := ic) hown' hcls hnames h (fun x hx => nomatch hx) hfX hkX hcellA (by rw [hhp, hT]; exact Nat.le_refl _)
    (g := { method := m, pc := pc + 4, locals := ls, stack := .ref T.heap.size :: .ref T.heap.size :: rest, locked := none }) rfl hsize rfl rfl (rest := rest) rfl
    (by rw [hb]; exact d4) (by rw [hb]; exact d7) hout hRframes (by simp only [List.map_cons, List.sum_cons, hcat]; omega) hlocks
  obtain ⟨f1, f2⟩ := vx_frame hsame
  rw [hhp] at f1 f2
  have hWs : s.WarmedH U.vm := State.WarmedH.trans hW0 hW
  have hcl : s.vm.findClass cls = some ce.cls := by
    have h9 := hO.cls
    rw [hvm] at h9
    exact h9
  have hall : s.sameButNew ({ U with vm := s.vm } : State) locs mc ms := by
    subst hA
    obtain ⟨e1, e2⟩ := hsame
    rw [State.setFrames_setFrames] at e1
    have h2 : (T.setVm s.vm).sameButNew ({ U with vm := s.vm } : State) [] (0 + 1) (0 + 6) := ⟨e1, e2⟩
    have h3 := X.same.trans h2
    rw [List.append_nil] at h3
    exact h3.mono hc hs
  refine ⟨U, ?_, .threw T.heap.size, hrun, hend, Or.inr ⟨T.heap.size, rfl, cls, ce, locs, hx U hWs.alike f1 (fun q hq => f2 q hq (fun z hz => nomatch hz)), hce, hO.vm, hcl, hWs, hall, hf⟩⟩
  refine st1 _ ?_
  show Steps p.tables e below (T1.setTop { method := m, pc := pc + 3, locals := ls, stack := .ref T.heap.size :: rest, locked := none }) _
  jvm_step X₁.here [X₁.here.top, hexec, d3', Value.category]
  exact hsteps
/-- 'throw new E("text")': new; dup; ldc; invokespecial; athrow -/
theorem vx_throwS {cc : ByteArray} {pc : Nat} (hexec : p.tables.exec = Jvm.exec) (hb : c.code = cc) (hl : l.stackTraces = false) {own cls text : String} {names : List String} {ik is ic mc ms sa : Nat} {A : Nat → Prop}
    (hown : s.vm.findClass own = some m.cls) (hcls : Bundle.fit cls = true) (hnames : ∀ n ∈ names, Bundle.fit n = true)
    (hk : (Cond.classLink own ik cls).before args s = true) (hini : (Cond.initialized cls).before args s = true) (hstr : vk_R own is text sa s) (hat : ∀ w ∈ vx_atS own ic cls names, w.before args s = true)
    (hgood : ∀ w ∈ Cond.classLink own ik cls :: Cond.initialized cls :: vx_atS own ic cls names, vx_ot w = true)
    (hU : vx_Zq Bundle.tN "UNASSIGNED_STACK" Bundle.steD A s s.heap) (hN : vx_Zq Bundle.tN "SUPPRESSED_SENTINEL" Bundle.listD A s s.heap) (hS : va_S A s.heap H locs) (hsize : ls.size = c.maxLocals)
    (d0 : decode cc pc = .ok (.new ik, 3)) (d3 : decode cc (pc + 3) = .ok (.dup, 1)) (d4 : decode cc (pc + 4) = .ok (.ldc is, 2)) (d6 : decode cc (pc + 6) = .ok (.invokespecial ic, 3)) (d9 : decode cc (pc + 9) = .ok (.athrow, 1))
    (hout : ∀ x ∈ c.exceptionTable.toList, covers x (pc + 9) = false)
    (hRframes : names.length + 3 < R.frames) (hRlocals : (rest.map fun v => v.category).sum + (13 * (names.length + 1) + 43) ≤ R.locals) (hRcells : cells + 1 ≤ R.cells) (hRslots : slots + 6 ≤ R.slots) (hlocks : meth.locks = false)
    (hx : ∀ t : State, s.vm.Alike t.vm → H.size ≤ t.heap.size → (∀ q : Nat, q < H.size → t.heap[q]? = H[q]?) → XC cls s t)
    (hf : ∀ z ∈ locs, free z.base) (hc : cells + 1 ≤ mc) (hs : slots + 6 ≤ ms) :
    W p l e R s m args below meth c H locs cells slots (vx_MQ below Qc XC args s mc ms free) (F0 m pc ls rest) := by
  intro T hT X
  have htr : e.platform.stackTraces = false := (show e.platform.stackTraces = l.stackTraces by rw [X.admits.platform]).trans hl
  have Y := vx_rebase X (R' := { frames := R.frames, locals := R.locals, cells := 1, slots := 6 }) (Nat.le_refl _) (Nat.le_refl _) hRcells hRslots
  obtain ⟨s', hA⟩ : ∃ z, z = (T.setVm s.vm).setFrames (.invoking m args :: below) := ⟨_, rfl⟩
  rw [← hA] at Y
  have hvm : s'.vm = s.vm := by rw [hA]; rfl
  have hhp : s'.heap = H := by rw [hA]; exact hT
  have hW0 : s.WarmedH s'.vm := by rw [hvm]; exact State.WarmedH.refl s
  have hat' : ∀ w ∈ vx_atS own ic cls names, w.before args s' = true := fun w hw => vx_ot_at hW0 hvm.symm (hgood w (List.mem_cons_of_mem _ (List.mem_cons_of_mem _ hw))) (hat w hw)
  have hk' : (Cond.classLink own ik cls).before args s' = true := vx_ot_at hW0 hvm.symm (hgood _ List.mem_cons_self) hk
  have hini' : (Cond.initialized cls).before args s' = true := vx_ot_at hW0 hvm.symm (hgood _ (List.mem_cons_of_mem _ List.mem_cons_self)) hini
  have hU' : vx_Zq Bundle.tN "UNASSIGNED_STACK" Bundle.steD A s' s'.heap := by rw [hhp]; exact vx_Zq.moved hW0.alike (hU.kept hS.2.1)
  have hN' : vx_Zq Bundle.tN "SUPPRESSED_SENTINEL" Bundle.listD A s' s'.heap := by rw [hhp]; exact vx_Zq.moved hW0.alike (hN.kept hS.2.1)
  have h : ∀ w ∈ Bundle.ownAtoms own ic cls names, w.before args s' = true := vx_own hat' (vx_isRefq hU'.1) (vx_isRefq hN'.1) hU'.2.word hN'.2.word
  have hown' : s'.vm.findClass own = some m.cls := by rw [hvm]; exact hown
  have hins : (Cond.instantiable cls 6).before args s' = true := h _ (by simp [Bundle.ownAtoms])
  obtain ⟨vm₁, cX, kX, hfX, hkX, -, -, X₁, st1⟩ := Y.newCold hexec (own := own) (C := cls) (index := ik) (n := 6) hown' hk' hins hini'
    (g := F0 m pc ls rest) rfl (by rw [hb]; exact d0) (Nat.le_refl _) (Nat.le_refl _)
  generalize hT1 : (T.setVm vm₁).pushCell { cls := cX, slots := kX.instanceTypes.map defaultValue, vm := .none } = T1 at X₁ st1
  have hcat : (Value.ref T.heap.size).category = 1 := rfl
  have hcellA : T1.heap[T.heap.size]? = some (freshCell cX kX) := by rw [← hT1]; exact State.heap_pushCell_size _ _
  have d3' : decode c.code (pc + 3) = .ok (.dup, 1) := by rw [hb]; exact d3
  have d4' : decode c.code (pc + 4) = .ok (.ldc is, 2) := by rw [hb]; exact d4
  have hstr' : vk_R own is text sa s' := vk_R.warm hW0 hstr
  obtain ⟨U, hsteps, hrun, hend, hW, hsame, ce, hce, hO⟩ := X₁.ctorThrowS hexec htr (own := own) (cls := cls) (names := names) (ic := ic) hown' hcls hnames h (fun x hx => nomatch hx) hfX hkX hcellA (by rw [hhp, hT]; exact Nat.le_refl _) (msg := .ref sa) rfl
    (g := { method := m, pc := pc + 6, locals := ls, stack := .ref sa :: .ref T.heap.size :: .ref T.heap.size :: rest, locked := none }) rfl hsize rfl rfl (rest := rest) rfl
    (by rw [hb]; exact d6) (by rw [hb]; exact d9) hout hRframes (by simp only [List.map_cons, List.sum_cons, hcat]; omega) hlocks
  obtain ⟨f1, f2⟩ := vx_frame hsame
  rw [hhp] at f1 f2
  have hWs : s.WarmedH U.vm := State.WarmedH.trans hW0 hW
  have hcl : s.vm.findClass cls = some ce.cls := by
    have h9 := hO.cls
    rw [hvm] at h9
    exact h9
  have hall : s.sameButNew ({ U with vm := s.vm } : State) locs mc ms := by
    subst hA
    obtain ⟨e1, e2⟩ := hsame
    rw [State.setFrames_setFrames] at e1
    have h2 : (T.setVm s.vm).sameButNew ({ U with vm := s.vm } : State) [] (0 + 1) (0 + 6) := ⟨e1, e2⟩
    have h3 := X.same.trans h2
    rw [List.append_nil] at h3
    exact h3.mono hc hs
  refine ⟨U, ?_, .threw T.heap.size, hrun, hend, Or.inr ⟨T.heap.size, rfl, cls, ce, locs, hx U hWs.alike f1 (fun q hq => f2 q hq (fun z hz => nomatch hz)), hce, hO.vm, hcl, hWs, hall, hf⟩⟩
  refine st1 _ ?_
  show Steps p.tables e below (T1.setTop { method := m, pc := pc + 3, locals := ls, stack := .ref T.heap.size :: rest, locked := none }) _
  jvm_step X₁.here [X₁.here.top, hexec, d3', Value.category]
  exact X₁.ldcString hexec (own := own) (text := text) (index := is) (a := sa) hown' hstr'.1 hstr'.2
    (g := { method := m, pc := pc + 4, locals := ls, stack := .ref T.heap.size :: .ref T.heap.size :: rest, locked := none }) rfl d4' _ hsteps
/-- 'throw new E("text")', the text by a wide index -/
theorem vx_throwSW {cc : ByteArray} {pc : Nat} (hexec : p.tables.exec = Jvm.exec) (hb : c.code = cc) (hl : l.stackTraces = false) {own cls text : String} {names : List String} {ik is ic mc ms sa : Nat} {A : Nat → Prop}
    (hown : s.vm.findClass own = some m.cls) (hcls : Bundle.fit cls = true) (hnames : ∀ n ∈ names, Bundle.fit n = true)
    (hk : (Cond.classLink own ik cls).before args s = true) (hini : (Cond.initialized cls).before args s = true) (hstr : vk_R own is text sa s) (hat : ∀ w ∈ vx_atS own ic cls names, w.before args s = true)
    (hgood : ∀ w ∈ Cond.classLink own ik cls :: Cond.initialized cls :: vx_atS own ic cls names, vx_ot w = true)
    (hU : vx_Zq Bundle.tN "UNASSIGNED_STACK" Bundle.steD A s s.heap) (hN : vx_Zq Bundle.tN "SUPPRESSED_SENTINEL" Bundle.listD A s s.heap) (hS : va_S A s.heap H locs) (hsize : ls.size = c.maxLocals)
    (d0 : decode cc pc = .ok (.new ik, 3)) (d3 : decode cc (pc + 3) = .ok (.dup, 1)) (d4 : decode cc (pc + 4) = .ok (.ldc_w is, 3)) (d7 : decode cc (pc + 7) = .ok (.invokespecial ic, 3)) (d10 : decode cc (pc + 10) = .ok (.athrow, 1))
    (hout : ∀ x ∈ c.exceptionTable.toList, covers x (pc + 10) = false)
    (hRframes : names.length + 3 < R.frames) (hRlocals : (rest.map fun v => v.category).sum + (13 * (names.length + 1) + 43) ≤ R.locals) (hRcells : cells + 1 ≤ R.cells) (hRslots : slots + 6 ≤ R.slots) (hlocks : meth.locks = false)
    (hx : ∀ t : State, s.vm.Alike t.vm → H.size ≤ t.heap.size → (∀ q : Nat, q < H.size → t.heap[q]? = H[q]?) → XC cls s t)
    (hf : ∀ z ∈ locs, free z.base) (hc : cells + 1 ≤ mc) (hs : slots + 6 ≤ ms) :
    W p l e R s m args below meth c H locs cells slots (vx_MQ below Qc XC args s mc ms free) (F0 m pc ls rest) := by
  intro T hT X
  have htr : e.platform.stackTraces = false := (show e.platform.stackTraces = l.stackTraces by rw [X.admits.platform]).trans hl
  have Y := vx_rebase X (R' := { frames := R.frames, locals := R.locals, cells := 1, slots := 6 }) (Nat.le_refl _) (Nat.le_refl _) hRcells hRslots
  obtain ⟨s', hA⟩ : ∃ z, z = (T.setVm s.vm).setFrames (.invoking m args :: below) := ⟨_, rfl⟩
  rw [← hA] at Y
  have hvm : s'.vm = s.vm := by rw [hA]; rfl
  have hhp : s'.heap = H := by rw [hA]; exact hT
  have hW0 : s.WarmedH s'.vm := by rw [hvm]; exact State.WarmedH.refl s
  have hat' : ∀ w ∈ vx_atS own ic cls names, w.before args s' = true := fun w hw => vx_ot_at hW0 hvm.symm (hgood w (List.mem_cons_of_mem _ (List.mem_cons_of_mem _ hw))) (hat w hw)
  have hk' : (Cond.classLink own ik cls).before args s' = true := vx_ot_at hW0 hvm.symm (hgood _ List.mem_cons_self) hk
  have hini' : (Cond.initialized cls).before args s' = true := vx_ot_at hW0 hvm.symm (hgood _ (List.mem_cons_of_mem _ List.mem_cons_self)) hini
  have hU' : vx_Zq Bundle.tN "UNASSIGNED_STACK" Bundle.steD A s' s'.heap := by rw [hhp]; exact vx_Zq.moved hW0.alike (hU.kept hS.2.1)
  have hN' : vx_Zq Bundle.tN "SUPPRESSED_SENTINEL" Bundle.listD A s' s'.heap := by rw [hhp]; exact vx_Zq.moved hW0.alike (hN.kept hS.2.1)
  have h : ∀ w ∈ Bundle.ownAtoms own ic cls names, w.before args s' = true := vx_own hat' (vx_isRefq hU'.1) (vx_isRefq hN'.1) hU'.2.word hN'.2.word
  have hown' : s'.vm.findClass own = some m.cls := by rw [hvm]; exact hown
  have hins : (Cond.instantiable cls 6).before args s' = true := h _ (by simp [Bundle.ownAtoms])
  obtain ⟨vm₁, cX, kX, hfX, hkX, -, -, X₁, st1⟩ := Y.newCold hexec (own := own) (C := cls) (index := ik) (n := 6) hown' hk' hins hini'
    (g := F0 m pc ls rest) rfl (by rw [hb]; exact d0) (Nat.le_refl _) (Nat.le_refl _)
  generalize hT1 : (T.setVm vm₁).pushCell { cls := cX, slots := kX.instanceTypes.map defaultValue, vm := .none } = T1 at X₁ st1
  have hcat : (Value.ref T.heap.size).category = 1 := rfl
  have hcellA : T1.heap[T.heap.size]? = some (freshCell cX kX) := by rw [← hT1]; exact State.heap_pushCell_size _ _
  have d3' : decode c.code (pc + 3) = .ok (.dup, 1) := by rw [hb]; exact d3
  have d4' : decode c.code (pc + 4) = .ok (.ldc_w is, 3) := by rw [hb]; exact d4
  have hstr' : vk_R own is text sa s' := vk_R.warm hW0 hstr
  obtain ⟨U, hsteps, hrun, hend, hW, hsame, ce, hce, hO⟩ := X₁.ctorThrowS hexec htr (own := own) (cls := cls) (names := names) (ic := ic) hown' hcls hnames h (fun x hx => nomatch hx) hfX hkX hcellA (by rw [hhp, hT]; exact Nat.le_refl _) (msg := .ref sa) rfl
    (g := { method := m, pc := pc + 7, locals := ls, stack := .ref sa :: .ref T.heap.size :: .ref T.heap.size :: rest, locked := none }) rfl hsize rfl rfl (rest := rest) rfl
    (by rw [hb]; exact d7) (by rw [hb]; exact d10) hout hRframes (by simp only [List.map_cons, List.sum_cons, hcat]; omega) hlocks
  obtain ⟨f1, f2⟩ := vx_frame hsame
  rw [hhp] at f1 f2
  have hWs : s.WarmedH U.vm := State.WarmedH.trans hW0 hW
  have hcl : s.vm.findClass cls = some ce.cls := by
    have h9 := hO.cls
    rw [hvm] at h9
    exact h9
  have hall : s.sameButNew ({ U with vm := s.vm } : State) locs mc ms := by
    subst hA
    obtain ⟨e1, e2⟩ := hsame
    rw [State.setFrames_setFrames] at e1
    have h2 : (T.setVm s.vm).sameButNew ({ U with vm := s.vm } : State) [] (0 + 1) (0 + 6) := ⟨e1, e2⟩
    have h3 := X.same.trans h2
    rw [List.append_nil] at h3
    exact h3.mono hc hs
  refine ⟨U, ?_, .threw T.heap.size, hrun, hend, Or.inr ⟨T.heap.size, rfl, cls, ce, locs, hx U hWs.alike f1 (fun q hq => f2 q hq (fun z hz => nomatch hz)), hce, hO.vm, hcl, hWs, hall, hf⟩⟩
  refine st1 _ ?_
  show Steps p.tables e below (T1.setTop { method := m, pc := pc + 3, locals := ls, stack := .ref T.heap.size :: rest, locked := none }) _
  jvm_step X₁.here [X₁.here.top, hexec, d3', Value.category]
  exact X₁.ldcStringW hexec (own := own) (text := text) (index := is) (a := sa) hown' hstr'.1 hstr'.2
    (g := { method := m, pc := pc + 4, locals := ls, stack := .ref T.heap.size :: .ref T.heap.size :: rest, locked := none }) rfl d4' _ hsteps
end Ends
section Bodies
variable {l : Launch}
theorem vx_ofW {y : MethodName} {ws ws' : List Cond} {rm : Room} {Pc : Array Value → State → Prop} {Qc : Array Value → State → Outcome → State → Prop} {XC : String → State → State → Prop} {mc ms : Nat} {free : Addr → Prop} {cc : ByteArray} {maxL : Nat} {ret : Option FieldType}
    (hy : plainName y.cls = true) (hw : ws = Cond.code y cc maxL ret :: ws')
    (body : ∀ p e s m args below meth c s₁, BodyLoose p l y (headSpec ws rm) cc maxL ret e s m args below meth c s₁ → c.maxLocals = maxL → (∀ x ∈ c.exceptionTable.toList, False) → Pc args s →
      W p l e (headSpec ws rm).room s m args below meth c s.heap [] 0 0 (vx_MQ below Qc XC args s mc ms free) (entryFrame m args maxL)) : vx_Met l y ws rm Pc Qc XC mc ms free := by
  refine MetFree.of_bodyS (code := cc) (maxLocals := maxL) (ret := ret) hy ?_ ?_
  · intro args s m h hn
    obtain ⟨meth, c, h1, h2, h3, h4, h5, h6, -, -⟩ := Cond.code_spec hn (atoms_spec (ws := ws) h _ (by rw [hw]; exact List.mem_cons_self))
    exact ⟨meth, c, h1, h2, h3, h4, h5, h6⟩
  · intro p e s m args below meth c s₁ B hml hP _
    have hh0 : s₁.heap = s.heap := by rw [B.state]; rfl
    have ht : ∀ x ∈ c.exceptionTable.toList, False := by
      obtain ⟨meth9, c9, h1, h2, -, -, -, -, h7, -⟩ := Cond.code_spec B.named (atoms_spec (ws := ws) B.pre _ (by rw [hw]; exact List.mem_cons_self))
      cases Option.some.inj (h1.symm.trans B.method)
      cases Option.some.inj (h2.symm.trans (Stand.of_body B).code)
      intro x hx
      rw [Array.isEmpty_iff.mp h7] at hx
      cases hx
    obtain ⟨t, a1, o, b1, b2, b3⟩ := body p e s m args below meth c s₁ B hml ht hP s₁ hh0 (Stand.of_body B)
    exact ⟨t, o, a1, b1, b2, b3⟩
/-- the table of a body with handlers -/
theorem vx_table {p : Program} {x y : MethodName} {S : Spec} {cc bytes : ByteArray} {maxL maxL' : Nat} {ret ret' : Option FieldType} {e : Env} {s s₁ : State} {m : MethodId} {args : Array Value} {below : List Frame} {meth : Method} {c : Code} {hh : List (Nat × Nat × Nat × Nat)}
    (B : BodyLoose p l y S cc maxL ret e s m args below meth c s₁) (h : (Cond.codeWith y bytes maxL' ret' hh).before args s = true) : c.exceptionTable.toList = tableOf hh := by
  obtain ⟨m9, meth9, c9, hn9, h1, h2, -, -, h6, -⟩ := Cond.codeWith_spec h
  cases Option.some.inj (hn9.symm.trans B.named)
  cases Option.some.inj (h1.symm.trans B.method)
  cases Option.some.inj (h2.symm.trans (Stand.of_body B).code)
  rw [← h6, table_eq]
end Bodies
end VXA
/-! ===== END ===== -/
/-! ===== BEGIN a static call of a method with an exception table ===== -/
section VXS
variable {p : Program} {l : Launch} {e : Env} {R : Room} {s : State} {m : MethodId} {args : Array Value} {below : List Frame} {meth : Method} {c : Code} {T : State} {H : Heap} {locs : List Loc} {cells slots : Nat}
abbrev vx_CSW (R : Room) (s : State) (args : Array Value) (own : String) (index : Nat) (y : MethodName) (bytes : ByteArray) (maxL : Nat) (ret : Option FieldType) (hh : List (Nat × Nat × Nat × Nat)) (ws : List Cond) (rm : Room) (mc ms n : Nat) : Prop :=
  (rm.cells = mc ∧ rm.slots = ms ∧ rm.frames + 1 ≤ R.frames ∧ 8 + (maxL + 11) + rm.locals ≤ R.locals ∧ (∀ w ∈ ws, ∀ (a' : Array Value) (U : State), s.WarmedH U.vm → w.before a' U = true) ∧ Cond.codeWith y bytes maxL ret hh ∈ ws) ∧
  (Cond.codeWith y bytes maxL ret hh).before args s = true ∧ (Cond.initialized y.cls).before args s = true ∧ (y.cls ≠ "java/lang/invoke/MethodHandle" ∧ y.cls ≠ "java/lang/invoke/VarHandle") ∧
  (∀ sig, parseMethodDescriptor y.desc = some sig → n = sig.parameters.length) ∧ (Cond.methodLink own index y).before args s = true ∧ (Cond.static y).before args s = true
theorem vx_cwSW {own : String} {index maxL mc ms : Nat} {y : MethodName} {bytes : ByteArray} {ret : Option FieldType} {hh : List (Nat × Nat × Nat × Nat)} {Ts ws ws' : List Cond} {rm : Room} (n : Nat) (ht : ∀ w ∈ Ts, w.before args s = true) (hT : GoodIn Ts (va_wsS own index y ws)) (hw : ws = Cond.codeWith y bytes maxL ret hh :: ws') (hrc : rm.cells = mc) (hrs : rm.slots = ms)
    (hd : y.cls ≠ "java/lang/invoke/MethodHandle" ∧ y.cls ≠ "java/lang/invoke/VarHandle" ∧ (parseMethodDescriptor y.desc).map (fun d => d.parameters.length) = some n) (hR : rm.frames + 1 ≤ R.frames ∧ 8 + (maxL + 11) + rm.locals ≤ R.locals) :
    vx_CSW R s args own index y bytes maxL ret hh ws rm mc ms n := by
  have ok : ∀ w ∈ va_wsS own index y ws, w.before args s = true := fun w h => ht w (hT w h).1
  have hG : GoodIn Ts ws := fun w h => hT w (by unfold va_wsS; exact List.mem_append_right _ h)
  have hc : Cond.codeWith y bytes maxL ret hh ∈ ws := by rw [hw]; exact List.mem_cons_self
  refine ⟨⟨hrc, hrs, hR.1, hR.2, pay_in ht hG, hc⟩, ht _ (hG _ hc).1, ok _ (by simp [va_wsS]), ⟨hd.1, hd.2.1⟩, fun sig h => ?_, ok _ (by simp [va_wsS]), ok _ (by simp [va_wsS])⟩
  have h2 := hd.2.2
  rw [h] at h2
  exact (Option.some.inj h2).symm
theorem vx_callSW (X : Stand p l e R s m args below meth c T locs cells slots) (hexec : p.tables.exec = Jvm.exec) {own : String} {index : Nat} {y : MethodName} {bytes : ByteArray} {maxL : Nat} {ret : Option FieldType} {hh : List (Nat × Nat × Nat × Nat)}
    (hown : s.vm.findClass own = some m.cls) (hlink : (Cond.methodLink own index y).before args s = true) (hstat : (Cond.static y).before args s = true) (hinit : (Cond.initialized y.cls).before args s = true)
    (hcode : (Cond.codeWith y bytes maxL ret hh).before args s = true) (hy : y.cls ≠ "java/lang/invoke/MethodHandle" ∧ y.cls ≠ "java/lang/invoke/VarHandle")
    {W9 : Nat} {Pre : Pt → Array Value → Prop} {Post : Pt → Array Value → Option Value → Pt → Prop} (hK : Back l R p e below s args y 3 W9 Pre Post)
    {g : JFrame} (hg : g.method = m) (hsize : g.locals.size = c.maxLocals) {argsL rest : List Value} (hlen : ∀ sig, parseMethodDescriptor y.desc = some sig → argsL.length = sig.parameters.length)
    (hstack : g.stack = argsL.reverse ++ rest) (hW : 2 * g.monitorRoom + (rest.map fun v => v.category).sum ≤ W9) (hdg : decode c.code g.pc = .ok (.invokestatic index, 3))
    (hpre : ∀ vm₁, s.WarmedH vm₁ → Pre ⟨T.setVm vm₁, locs, cells, slots⟩ argsL.toArray) :
    ∃ (v : Option Value) (vm₁ : Vm) (B : Pt), s.WarmedH vm₁ ∧ Stand p l e R s m args below meth c B.U B.locs B.cells B.slots ∧ Post ⟨T.setVm vm₁, locs, cells, slots⟩ argsL.toArray v B ∧
      ∀ target, Steps p.tables e below (B.U.setTop { g with pc := g.pc + 3, stack := v.toList ++ rest }) target → Steps p.tables e below (T.setTop g) target := by
  obtain ⟨mk, methM, cM, hnamed, hmethM, -, -, -, -, -, -, hsigM⟩ := Cond.codeWith_spec hcode
  have hstatic : methM.isStatic = true := Cond.static_spec hnamed hmethM hstat
  obtain ⟨kP, hkP, -⟩ := className_of_methodNamed hnamed
  have hinitP : kP.init = .initialized := Cond.initialized_spec (findClass_of_methodNamed hnamed) hkP hinit
  obtain ⟨vm₁, X₁, hstep₁⟩ := X.invokestatic hexec hown hlink hnamed hmethM hstatic hkP hinitP hy (g := g) hg (argsL := argsL) (rest := rest) (hlen _ hsigM) hstack hdg
  obtain ⟨v, B, X', hpost, hsteps⟩ := hK m meth c ⟨T.setVm vm₁, locs, cells, slots⟩ { g with stack := rest } (.invokestatic index) mk argsL.toArray X₁ hg hsize hdg hW (X₁.named hnamed) (hpre vm₁ X₁.warmed)
  exact ⟨v, vm₁, B, X₁.warmed, X', hpost, fun target h => hstep₁ _ fun acts => by rw [doInvoke_state]; exact hsteps.trans h⟩
theorem vx_runSW {y : MethodName} {bytes cc : ByteArray} {maxL nL mc ms n index : Nat} {ret : Option FieldType} {hh : List (Nat × Nat × Nat × Nat)} {ws : List Cond} {rm : Room} {Pc : Array Value → State → Prop} {Qc : Array Value → State → Outcome → State → Prop} {free : Addr → Prop} {Ts : List Cond} {own : String} {As rest : List Value} {g : JFrame}
    (S : CallFix p m c cc nL s args Ts own) (hM : Met l y ws rm Pc Qc mc ms free) (cw : vx_CSW R s args own index y bytes maxL ret hh ws rm mc ms n) (hp : PreS s H Pc As)
    (hg : g.method = m) (hn : As.length = n) (hsize : g.locals.size = nL) (hstack : g.stack = As.reverse ++ rest) (hW : 2 * g.monitorRoom + (rest.map fun v => v.category).sum ≤ 8) (hdg : decode cc g.pc = .ok (.invokestatic index, 3)) (hf : cells + mc ≤ R.cells ∧ slots + ms ≤ R.slots) :
    va_Run p l e R s m args below meth c H locs cells slots mc ms g rest (Qc As.toArray) (free) := by
  obtain ⟨⟨hrc, hrs, hfr, hlo, hws, hcw⟩, hcode, hini, hy, hlen, hl, hstt⟩ := cw
  have hK : Back l R p e below s args y 3 8 (PreOf R mc ms Pc) (PostOf Qc mc ms free) := va_backW (hh := hh) (bytes := bytes) (maxL := maxL) (ret := ret) hM hp.1 hrc hrs hfr hlo hws hcw (fun a' U hW => word_at hW (Or.inl (by first | rfl | simp [Cond.onTables, Cond.keeps, Cond.steady])) hini)
  obtain ⟨hx, hb, hml, ho, -⟩ := S
  intro T hT X
  obtain ⟨v, vm₁, ⟨U', l2, c2, s2⟩, hW₁, X', ⟨g', mk, t, L, e1, e2, hq, h1, hL, h2, h3⟩, st⟩ := vx_callSW X hx (hh := hh) (bytes := bytes) (maxL := maxL) (ret := ret) ho hl hstt hini hcode hy hK hg (hsize.trans hml.symm) (argsL := As) (rest := rest) (fun sig h => hn.trans (hlen sig h)) hstack hW (by rw [hb]; exact hdg)
    (fun vm₁ hW₁ => ⟨hf.1, hf.2, hp.2 (T.setVm vm₁) hT hW₁⟩)
  dsimp only [Pt.U, Pt.locs, Pt.cells, Pt.slots] at X' e1 e2 h1 h2 h3 st
  subst h1; subst h2; subst h3
  exact ⟨v, (T.setVm vm₁).calling g' mk As.toArray, t, U', L, hT, X', hL, e1, e2, hq, st⟩
/-- not caught here, past rows that name other classes: it goes on to the caller -/
theorem vx_outP {p : Program} {l : Launch} {e : Env} {R : Room} {s : State} {m : MethodId} {args : Array Value} {below : List Frame} {meth : Method} {c : Code} {H : Heap} {locs : List Loc} {cells slots : Nat} {free : Addr → Prop} {ls : Array Slot} {rest : List Value} {Qc : Array Value → State → Outcome → State → Prop} {XC : String → State → State → Prop}
    {pc : Nat} {own E : String} {ce : Cell} {q : Addr} {mc ms : Nat} (hown : s.vm.findClass own = some m.cls) (hlocks : meth.locks = false)
    (hpass : ∀ z ∈ c.exceptionTable.toList, covers z pc = false ∨ (z.catchType ≠ 0 ∧ ∃ nm : String, (Cond.classLink own z.catchType nm).before args s = true ∧ va_Nc E nm s)) (hcell : H[q]? = some ce) (hv : ce.vm = .none) (hcl : s.vm.findClass E = some ce.cls)
    (hx : ∀ t : State, t.heap = H → s.vm.Alike t.vm → XC E s t) (hf : ∀ z ∈ locs, free z.base) (hc : cells ≤ mc) (hs : slots ≤ ms) :
    vx_W p l e R s m args below meth c H locs cells slots (vx_MQ below Qc XC args s mc ms free) (F0 m pc ls rest) q := by
  intro T hT X
  have hpl : e.platform.magicAccessors = ({} : Platform).magicAccessors := by rw [X.admits.platform]
  obtain ⟨vm', hW', X', st⟩ := X.outThrough hlocks q (g := F0 m pc ls rest) rfl rfl rfl (cell := ce) (by rw [hT]; exact hcell) (by rw [hv]; rfl)
    (by obtain ⟨k9, h9, -⟩ := Vm.findClass_spec hcl; exact ⟨k9, h9⟩) (fun z hz => by
      rcases hpass z hz with h | ⟨hz0, nm, hl1, hn1⟩
      · exact Or.inl h
      · obtain ⟨c6, hc6, hcl6⟩ := Cond.classLink_spec hown hl1 e.platform hpl
        obtain ⟨a8, b8, h1, h2, h3⟩ := hn1
        cases Option.some.inj (h1.symm.trans hcl)
        cases Option.some.inj (h2.symm.trans hc6)
        exact Or.inr ⟨hz0, _, hcl6, h3⟩)
  obtain ⟨g₀, hfr⟩ := X'.frames_eq
  have hcell9 : ((T.setVm vm').setFrames (.throwing q :: below)).heap[q]? = some ce := by
    show T.heap[q]? = some ce
    rw [hT]; exact hcell
  have hend : Ended ((T.setVm vm').setFrames (.throwing q :: below)) below (.threw q) := State.frames_setFrames _ (State.cur_lt_of_frames hfr)
  refine ⟨(T.setVm vm').setFrames (.throwing q :: below), ?_, .threw q, X'.here.running, hend, Or.inr ⟨q, rfl, E, ce, locs, hx _ hT (X'.ends _).1.alike, hcell9, hv, hcl, (X'.ends _).1, (X'.ends _).2.mono hc hs, hf⟩⟩
  rw [X.pushThrowing_eq]
  exact st
/-- a thing of a world lies in the heap -/
theorem vx_lt {D : va_G} {cl : List vw_C} {ws : va_W} {H1 : Heap} (h : va_P D cl ws H1) {k : Nat} {q : Nat × va_E} (hk : ws[k]? = some q) : q.1 < H1.size := (h k q hk).lt
end VXS
/-! ===== END ===== -/
/-! ===== BEGIN methods with a table of their own: called by a name, returning or throwing ===== -/
section VXH
/-! vx_backW, vx_callVX, vx_callSX, vx_callVW, vx_runVW, vx_runVX, vx_runSX, vx_ofWH follow the same proofs as their sisters above (Free/Laws.lean, Shelf42/LK1.lean); vx_outP calls Shelf42/NT130.lean (outThrough). -/
section
variable {l : Launch} {R : Room} {p : Program} {e : Env} {below : List Frame} {s : State} {sargs : Array Value} {y : MethodName} {len W9 : Nat}
theorem vx_backW {ws : List Cond} {rm : Room} {Pc : Array Value → State → Prop} {Qc : Array Value → State → Outcome → State → Prop} {XC : String → State → State → Prop} {mc ms : Nat} {free : Addr → Prop} {bytes : ByteArray} {maxL : Nat} {ret : Option FieldType} {hh : List (Nat × Nat × Nat × Nat)}
    (hM : vx_Met l y ws rm Pc Qc XC mc ms free) (hblind : FrameBlind Pc) (hrc : rm.cells = mc) (hrs : rm.slots = ms)
    (hframes : rm.frames + 1 ≤ R.frames) (hlocals : W9 + (maxL + 11) + rm.locals ≤ R.locals)
    (hws : ∀ w ∈ ws, ∀ a' U, s.WarmedH U.vm → w.before a' U = true) (hcode : Cond.codeWith y bytes maxL ret hh ∈ ws) (hinit : ∀ a' U, s.WarmedH U.vm → (Cond.initialized y.cls).before a' U = true) :
    vx_Back l R p e below s sargs y len W9 (PreOf R mc ms Pc) (PostOf Qc mc ms free) (vx_Post XC mc ms free) := by
  intro m meth c A g ig mk a X hg hsize hdg hW hn hp
  have h1 : (headSpec ws rm).pre.before a A.U = true := atoms_intro fun w hw => hws w hw _ _ X.warmed
  have h2 : (Cond.codeWith y bytes maxL ret hh).before a A.U = true := hws _ hcode _ _ X.warmed
  have h3 : (Cond.initialized y.cls).before a A.U = true := hinit _ _ X.warmed
  have h4 : A.cells + (headSpec ws rm).room.cells ≤ R.cells := by rw [show (headSpec ws rm).room.cells = mc from hrc]; exact hp.1
  have h5 : A.slots + (headSpec ws rm).room.slots ≤ R.slots := by rw [show (headSpec ws rm).room.slots = ms from hrs]; exact hp.2.1
  have hPc : Pc a (A.U.calling g mk a) := hblind _ _ _ _ hp.2.2
  obtain ⟨U, Ls, c0, s0⟩ := A
  dsimp only [Pt.U, Pt.locs, Pt.cells, Pt.slots] at h1 h2 h3 h4 h5 X hn hPc ⊢
  obtain ⟨m9, methY, cY, hn9, hmY, hcY, -, hlY, -⟩ := Cond.codeWith_spec h2
  cases Option.some.inj (hn9.symm.trans hn)
  obtain ⟨kY, hkY, -⟩ := className_of_methodNamed hn
  have hinitY : kY.init = .initialized := Cond.initialized_spec (findClass_of_methodNamed hn) hkY h3
  have h : At U g.method c below := by rw [hg]; exact X.here
  have hlocals9 : W9 + (maxL + 11) + (headSpec ws rm).room.locals ≤ R.locals := hlocals
  have happ : (headSpec ws rm).appliesLoose y e.platform (U.calling g mk a) = true :=
    Spec.appliesLoose_calling (g := g) h hdg hn hkY hinitY
      (X.room_calling (g := g) (R' := (headSpec ws rm).room) hsize hmY hcY hframes (by rw [hlY]; omega) h4 h5) h1
  obtain ⟨mid, hmid⟩ := h.above
  have hfr : (U.setTop g).frames = (.java g :: mid) ++ below := by rw [State.frames_setTop' g h.top, hmid]; rfl
  obtain ⟨o, s₂, hsteps, -, hend, hq⟩ := Steps.callFree hM p X.admits X.cas X.clock (acts := []) hfr happ hPc trivial
  have hq' : vx_Q Qc XC mc ms free a (U.calling g mk a) o s₂ := hq
  rw [State.frames_setTop' g h.top] at hend
  obtain ⟨g₀, hg0⟩ := Option.isSome_iff_exists.mp h.top
  obtain ⟨r, hr⟩ := State.topJava?_eq_some.mp hg0
  have hr' : (({ U with heap := s₂.heap, slotsUsed := s₂.slotsUsed } : State).setVm s₂.vm).frames = .java g₀ :: r := hr
  rcases hq' with ⟨hqc, L, hfe, hL⟩ | ⟨q, rfl, E, ce, L, hx, hce, hcv, hcl, hW₂, hsm, hL⟩
  · obtain ⟨⟨v, rfl⟩, hW₂, e2, q2, q3, q4, q5, q6⟩ := id hfe
    have e3 : s₂ = ({ (U.calling g mk a).setFrames s₂.frames with heap := s₂.heap, slotsUsed := s₂.slotsUsed } : State).setVm s₂.vm := by
      have : s₂ = ({ s₂ with vm := (U.calling g mk a).vm } : State).setVm s₂.vm := rfl
      rw [e2] at this
      exact this
    obtain ⟨c₂, i₂, len₂, hc₂, hd₂, hf₂⟩ := hend
    have hW' : U.WarmedH s₂.vm := hW₂
    have hcc : c₂ = c := by
      have h1 : s₂.code? g.method = U.code? g.method := by
        rw [State.code?_eq, State.code?_eq, hW'.alike.method?]
      exact Option.some.inj (hc₂.symm.trans (h1.trans h.code))
    subst hcc
    have hlen : len₂ = len := by rw [hdg] at hd₂; cases hd₂; rfl
    subst hlen
    have hs₂ : s₂ = (({ U with heap := s₂.heap, slotsUsed := s₂.slotsUsed } : State).setVm s₂.vm).setTop { g with pc := g.pc + len₂, stack := v.toList ++ g.stack } := by
      refine e3.trans ?_
      rw [hf₂, State.calling_eq h.top, State.setFrames_setFrames, State.setTop_of_frames _ hr', hr]
      rfl
    have hsame : U.sameButNew ({ U with heap := s₂.heap, slotsUsed := s₂.slotsUsed } : State) L mc ms := by
      refine ⟨?_, q2, q3, q4, q5, q6⟩
      obtain ⟨t, ht, -⟩ := State.frames_cons hr
      show ({ U with heap := s₂.heap, slotsUsed := s₂.slotsUsed } : State) = { U.setFrames U.frames with heap := s₂.heap, slotsUsed := s₂.slotsUsed }
      rw [State.setFrames_self ht]
    subst hg
    refine Or.inl ⟨v, ⟨(({ U with heap := s₂.heap, slotsUsed := s₂.slotsUsed } : State).setVm s₂.vm), Ls ++ L, c0 + mc, s0 + ms⟩,
      ⟨X.admits, X.cas, X.clock, X.frames, X.room, X.hears, X.method, X.code, (X.here.setHeapUsed s₂.heap s₂.slotsUsed).setVm hW'.alike, X.tail, State.WarmedH.trans X.warmed hW', X.limits, X.bytes, X.same.trans (hsame.setVm s.vm)⟩,
      ⟨g, mk, s₂, L, rfl, rfl, hqc, rfl, hL, rfl, rfl⟩, ?_⟩
    show Steps p.tables e below _ ((({ U with heap := s₂.heap, slotsUsed := s₂.slotsUsed } : State).setVm s₂.vm).setTop { g with pc := g.pc + len₂, stack := v.toList ++ g.stack })
    rw [← hs₂]
    exact hsteps
  · obtain ⟨e2, q2, q3, q4, q5, q6⟩ := id hsm
    have e3 : s₂ = ({ (U.calling g mk a).setFrames s₂.frames with heap := s₂.heap, slotsUsed := s₂.slotsUsed } : State).setVm s₂.vm := by
      have : s₂ = ({ s₂ with vm := (U.calling g mk a).vm } : State).setVm s₂.vm := rfl
      rw [e2] at this
      exact this
    have hf₂ : s₂.frames = .throwing q :: .java g :: U.frames.tail := hend
    have hW' : U.WarmedH s₂.vm := hW₂
    have hs₂ : s₂ = ((({ U with heap := s₂.heap, slotsUsed := s₂.slotsUsed } : State).setVm s₂.vm).setTop g).pushFrame (.throwing q) := by
      refine e3.trans ?_
      rw [hf₂, State.calling_eq h.top, State.setFrames_setFrames, State.pushFrame, State.frames_setTop _ hr', State.setTop_of_frames _ hr', State.setFrames_setFrames, hr]
      rfl
    have hsame : U.sameButNew ({ U with heap := s₂.heap, slotsUsed := s₂.slotsUsed } : State) L mc ms := by
      refine ⟨?_, q2, q3, q4, q5, q6⟩
      obtain ⟨t, ht, -⟩ := State.frames_cons hr
      show ({ U with heap := s₂.heap, slotsUsed := s₂.slotsUsed } : State) = { U.setFrames U.frames with heap := s₂.heap, slotsUsed := s₂.slotsUsed }
      rw [State.setFrames_self ht]
    subst hg
    refine Or.inr ⟨q, ⟨(({ U with heap := s₂.heap, slotsUsed := s₂.slotsUsed } : State).setVm s₂.vm), Ls ++ L, c0 + mc, s0 + ms⟩,
      ⟨X.admits, X.cas, X.clock, X.frames, X.room, X.hears, X.method, X.code, (X.here.setHeapUsed s₂.heap s₂.slotsUsed).setVm hW'.alike, X.tail, State.WarmedH.trans X.warmed hW', X.limits, X.bytes, X.same.trans (hsame.setVm s.vm)⟩,
      ⟨g, mk, s₂, L, E, ce, rfl, rfl, hx, hce, hcv, hcl, rfl, hL, rfl, rfl⟩, ?_⟩
    show Steps p.tables e below _ (((({ U with heap := s₂.heap, slotsUsed := s₂.slotsUsed } : State).setVm s₂.vm).setTop g).pushFrame (.throwing q))
    rw [← hs₂]
    exact hsteps
end
variable {p : Program} {l : Launch} {e : Env} {R : Room} {s : State} {m : MethodId} {args : Array Value} {below : List Frame} {meth : Method} {c : Code} {T : State} {H : Heap} {locs : List Loc} {cells slots : Nat}
theorem vx_callVX (X : Stand p l e R s m args below meth c T locs cells slots) (hexec : p.tables.exec = Jvm.exec) {own C : String} {index : Nat} {y : MethodName} {bytes : ByteArray} {maxL : Nat} {ret : Option FieldType} {hh : List (Nat × Nat × Nat × Nat)}
    (hown : s.vm.findClass own = some m.cls) (hlink : (Cond.methodLink own index y).before args s = true) (hinst : (Cond.instanceMethod y).before args s = true) (hsel : (Cond.selects C y y).before args s = true)
    (hcode : (Cond.codeWith y bytes maxL ret hh).before args s = true) (hy : y.cls ≠ "java/lang/invoke/MethodHandle" ∧ y.cls ≠ "java/lang/invoke/VarHandle")
    {W9 : Nat} {Pre : Pt → Array Value → Prop} {Post : Pt → Array Value → Option Value → Pt → Prop} {PostX : Pt → Array Value → Addr → Pt → Prop} (hK : vx_Back l R p e below s args y 3 W9 Pre Post PostX)
    {b : Addr} {cellB : Cell} (hcell : T.heap[b]? = some cellB) (hobj : cellB.vm.isStatics = false) (hcls : s.vm.findClass C = some cellB.cls)
    {g : JFrame} (hg : g.method = m) (hsize : g.locals.size = c.maxLocals) {argsL rest : List Value} (hlen : ∀ sig, parseMethodDescriptor y.desc = some sig → argsL.length = sig.parameters.length)
    (hstack : g.stack = argsL.reverse ++ .ref b :: rest) (hW : 2 * g.monitorRoom + (rest.map fun v => v.category).sum ≤ W9) (hdg : decode c.code g.pc = .ok (.invokevirtual index, 3))
    (hpre : ∀ vm₁, s.WarmedH vm₁ → Pre ⟨T.setVm vm₁, locs, cells, slots⟩ (Value.ref b :: argsL).toArray) :
    (∃ (v : Option Value) (vm₁ : Vm) (B : Pt), s.WarmedH vm₁ ∧ Stand p l e R s m args below meth c B.U B.locs B.cells B.slots ∧ Post ⟨T.setVm vm₁, locs, cells, slots⟩ (Value.ref b :: argsL).toArray v B ∧
      ∀ target, Steps p.tables e below (B.U.setTop { g with pc := g.pc + 3, stack := v.toList ++ rest }) target → Steps p.tables e below (T.setTop g) target) ∨
    (∃ (q : Addr) (vm₁ : Vm) (B : Pt), s.WarmedH vm₁ ∧ Stand p l e R s m args below meth c B.U B.locs B.cells B.slots ∧ PostX ⟨T.setVm vm₁, locs, cells, slots⟩ (Value.ref b :: argsL).toArray q B ∧
      Steps p.tables e below (T.setTop g) ((B.U.setTop { g with stack := rest }).pushFrame (.throwing q))) := by
  obtain ⟨mk, methM, hnamed, hmethM, hstM, habM⟩ := Cond.instanceMethod_spec hinst
  obtain ⟨m8, methM', cM, hn8, hmethM', -, -, -, -, -, -, hsigM⟩ := Cond.codeWith_spec hcode
  cases Option.some.inj (hn8.symm.trans hnamed)
  cases hmethM.symm.trans hmethM'
  obtain ⟨c2, r2, m2, q1, q2, q3, q4, kP, hkP, hkPi⟩ := Cond.selects_spec hsel
  cases hcls.symm.trans q1
  cases (State.methodFound?_of_named hnamed hy).symm.trans q2
  cases hnamed.symm.trans q3
  have hselP : selectMethod e.platform s.vm cellB.cls mk = .method mk := by rw [Launch.admits_selectMethod X.admits]; exact q4
  obtain ⟨vm₁, X₁, hstep₁⟩ := X.invokevirtual hexec hown hlink hnamed hmethM hstM hkP hkPi hy (a := b) (cell := cellB) hcell
    (fun z h => by rw [h] at hobj; cases hobj) hselP hmethM habM hkP hkPi (g := g) hg (argsL := argsL) (rest := rest) (hlen _ hsigM) hstack hdg
  rcases hK m meth c ⟨T.setVm vm₁, locs, cells, slots⟩ { g with stack := rest } (.invokevirtual index) mk (Value.ref b :: argsL).toArray X₁ hg hsize hdg hW (X₁.named hnamed) (hpre vm₁ X₁.warmed) with ⟨v, B, X', hpost, hsteps⟩ | ⟨q, B, X', hpost, hsteps⟩
  · exact Or.inl ⟨v, vm₁, B, X₁.warmed, X', hpost, fun target h => hstep₁ _ fun acts => by rw [doInvoke_state]; exact hsteps.trans h⟩
  · exact Or.inr ⟨q, vm₁, B, X₁.warmed, X', hpost, hstep₁ _ fun acts => by rw [doInvoke_state]; exact hsteps⟩
theorem vx_callSX (X : Stand p l e R s m args below meth c T locs cells slots) (hexec : p.tables.exec = Jvm.exec) {own : String} {index : Nat} {y : MethodName} {bytes : ByteArray} {maxL : Nat} {ret : Option FieldType} {hh : List (Nat × Nat × Nat × Nat)}
    (hown : s.vm.findClass own = some m.cls) (hlink : (Cond.methodLink own index y).before args s = true) (hstat : (Cond.static y).before args s = true) (hinit : (Cond.initialized y.cls).before args s = true)
    (hcode : (Cond.codeWith y bytes maxL ret hh).before args s = true) (hy : y.cls ≠ "java/lang/invoke/MethodHandle" ∧ y.cls ≠ "java/lang/invoke/VarHandle")
    {W9 : Nat} {Pre : Pt → Array Value → Prop} {Post : Pt → Array Value → Option Value → Pt → Prop} {PostX : Pt → Array Value → Addr → Pt → Prop} (hK : vx_Back l R p e below s args y 3 W9 Pre Post PostX)
    {g : JFrame} (hg : g.method = m) (hsize : g.locals.size = c.maxLocals) {argsL rest : List Value} (hlen : ∀ sig, parseMethodDescriptor y.desc = some sig → argsL.length = sig.parameters.length)
    (hstack : g.stack = argsL.reverse ++ rest) (hW : 2 * g.monitorRoom + (rest.map fun v => v.category).sum ≤ W9) (hdg : decode c.code g.pc = .ok (.invokestatic index, 3))
    (hpre : ∀ vm₁, s.WarmedH vm₁ → Pre ⟨T.setVm vm₁, locs, cells, slots⟩ argsL.toArray) :
    (∃ (v : Option Value) (vm₁ : Vm) (B : Pt), s.WarmedH vm₁ ∧ Stand p l e R s m args below meth c B.U B.locs B.cells B.slots ∧ Post ⟨T.setVm vm₁, locs, cells, slots⟩ argsL.toArray v B ∧
      ∀ target, Steps p.tables e below (B.U.setTop { g with pc := g.pc + 3, stack := v.toList ++ rest }) target → Steps p.tables e below (T.setTop g) target) ∨
    (∃ (q : Addr) (vm₁ : Vm) (B : Pt), s.WarmedH vm₁ ∧ Stand p l e R s m args below meth c B.U B.locs B.cells B.slots ∧ PostX ⟨T.setVm vm₁, locs, cells, slots⟩ argsL.toArray q B ∧
      Steps p.tables e below (T.setTop g) ((B.U.setTop { g with stack := rest }).pushFrame (.throwing q))) := by
  obtain ⟨mk, methM, cM, hnamed, hmethM, -, -, -, -, -, -, hsigM⟩ := Cond.codeWith_spec hcode
  have hstatic : methM.isStatic = true := Cond.static_spec hnamed hmethM hstat
  obtain ⟨kP, hkP, -⟩ := className_of_methodNamed hnamed
  have hinitP : kP.init = .initialized := Cond.initialized_spec (findClass_of_methodNamed hnamed) hkP hinit
  obtain ⟨vm₁, X₁, hstep₁⟩ := X.invokestatic hexec hown hlink hnamed hmethM hstatic hkP hinitP hy (g := g) hg (argsL := argsL) (rest := rest) (hlen _ hsigM) hstack hdg
  rcases hK m meth c ⟨T.setVm vm₁, locs, cells, slots⟩ { g with stack := rest } (.invokestatic index) mk argsL.toArray X₁ hg hsize hdg hW (X₁.named hnamed) (hpre vm₁ X₁.warmed) with ⟨v, B, X', hpost, hsteps⟩ | ⟨q, B, X', hpost, hsteps⟩
  · exact Or.inl ⟨v, vm₁, B, X₁.warmed, X', hpost, fun target h => hstep₁ _ fun acts => by rw [doInvoke_state]; exact hsteps.trans h⟩
  · exact Or.inr ⟨q, vm₁, B, X₁.warmed, X', hpost, hstep₁ _ fun acts => by rw [doInvoke_state]; exact hsteps⟩
theorem vx_callVW (X : Stand p l e R s m args below meth c T locs cells slots) (hexec : p.tables.exec = Jvm.exec) {own C : String} {index : Nat} {y : MethodName} {bytes : ByteArray} {maxL : Nat} {ret : Option FieldType} {hh : List (Nat × Nat × Nat × Nat)}
    (hown : s.vm.findClass own = some m.cls) (hlink : (Cond.methodLink own index y).before args s = true) (hinst : (Cond.instanceMethod y).before args s = true) (hsel : (Cond.selects C y y).before args s = true)
    (hcode : (Cond.codeWith y bytes maxL ret hh).before args s = true) (hy : y.cls ≠ "java/lang/invoke/MethodHandle" ∧ y.cls ≠ "java/lang/invoke/VarHandle")
    {W9 : Nat} {Pre : Pt → Array Value → Prop} {Post : Pt → Array Value → Option Value → Pt → Prop} (hK : Back l R p e below s args y 3 W9 Pre Post)
    {b : Addr} {cellB : Cell} (hcell : T.heap[b]? = some cellB) (hobj : cellB.vm.isStatics = false) (hcls : s.vm.findClass C = some cellB.cls)
    {g : JFrame} (hg : g.method = m) (hsize : g.locals.size = c.maxLocals) {argsL rest : List Value} (hlen : ∀ sig, parseMethodDescriptor y.desc = some sig → argsL.length = sig.parameters.length)
    (hstack : g.stack = argsL.reverse ++ .ref b :: rest) (hW : 2 * g.monitorRoom + (rest.map fun v => v.category).sum ≤ W9) (hdg : decode c.code g.pc = .ok (.invokevirtual index, 3))
    (hpre : ∀ vm₁, s.WarmedH vm₁ → Pre ⟨T.setVm vm₁, locs, cells, slots⟩ (Value.ref b :: argsL).toArray) :
    ∃ (v : Option Value) (vm₁ : Vm) (B : Pt), s.WarmedH vm₁ ∧ Stand p l e R s m args below meth c B.U B.locs B.cells B.slots ∧ Post ⟨T.setVm vm₁, locs, cells, slots⟩ (Value.ref b :: argsL).toArray v B ∧
      ∀ target, Steps p.tables e below (B.U.setTop { g with pc := g.pc + 3, stack := v.toList ++ rest }) target → Steps p.tables e below (T.setTop g) target := by
  obtain ⟨mk, methM, hnamed, hmethM, hstM, habM⟩ := Cond.instanceMethod_spec hinst
  obtain ⟨m8, methM', cM, hn8, hmethM', -, -, -, -, -, -, hsigM⟩ := Cond.codeWith_spec hcode
  cases Option.some.inj (hn8.symm.trans hnamed)
  cases hmethM.symm.trans hmethM'
  obtain ⟨c2, r2, m2, q1, q2, q3, q4, kP, hkP, hkPi⟩ := Cond.selects_spec hsel
  cases hcls.symm.trans q1
  cases (State.methodFound?_of_named hnamed hy).symm.trans q2
  cases hnamed.symm.trans q3
  have hselP : selectMethod e.platform s.vm cellB.cls mk = .method mk := by rw [Launch.admits_selectMethod X.admits]; exact q4
  obtain ⟨vm₁, X₁, hstep₁⟩ := X.invokevirtual hexec hown hlink hnamed hmethM hstM hkP hkPi hy (a := b) (cell := cellB) hcell
    (fun z h => by rw [h] at hobj; cases hobj) hselP hmethM habM hkP hkPi (g := g) hg (argsL := argsL) (rest := rest) (hlen _ hsigM) hstack hdg
  obtain ⟨v, B, X', hpost, hsteps⟩ := hK m meth c ⟨T.setVm vm₁, locs, cells, slots⟩ { g with stack := rest } (.invokevirtual index) mk (Value.ref b :: argsL).toArray X₁ hg hsize hdg hW (X₁.named hnamed) (hpre vm₁ X₁.warmed)
  exact ⟨v, vm₁, B, X₁.warmed, X', hpost, fun target h => hstep₁ _ fun acts => by rw [doInvoke_state]; exact hsteps.trans h⟩
abbrev vx_CVW (R : Room) (s : State) (args : Array Value) (own C : String) (index : Nat) (y : MethodName) (bytes : ByteArray) (maxL : Nat) (ret : Option FieldType) (hh : List (Nat × Nat × Nat × Nat)) (ws : List Cond) (rm : Room) (mc ms n : Nat) : Prop :=
  (rm.cells = mc ∧ rm.slots = ms ∧ rm.frames + 1 ≤ R.frames ∧ 8 + (maxL + 11) + rm.locals ≤ R.locals ∧ (∀ w ∈ ws, ∀ (a' : Array Value) (U : State), s.WarmedH U.vm → w.before a' U = true) ∧ Cond.codeWith y bytes maxL ret hh ∈ ws) ∧
  (Cond.codeWith y bytes maxL ret hh).before args s = true ∧ (Cond.initialized y.cls).before args s = true ∧ (y.cls ≠ "java/lang/invoke/MethodHandle" ∧ y.cls ≠ "java/lang/invoke/VarHandle") ∧
  (∀ sig, parseMethodDescriptor y.desc = some sig → n = sig.parameters.length) ∧ (Cond.methodLink own index y).before args s = true ∧ (Cond.instanceMethod y).before args s = true ∧ (Cond.selects C y y).before args s = true
theorem vx_cwVW {own C : String} {index maxL mc ms : Nat} {y : MethodName} {bytes : ByteArray} {ret : Option FieldType} {hh : List (Nat × Nat × Nat × Nat)} {Ts ws ws' : List Cond} {rm : Room} (n : Nat) (ht : ∀ w ∈ Ts, w.before args s = true) (hT : GoodIn Ts (wsV own index C y ws)) (hw : ws = Cond.codeWith y bytes maxL ret hh :: ws') (hrc : rm.cells = mc) (hrs : rm.slots = ms)
    (hd : y.cls = C ∧ y.cls ≠ "java/lang/invoke/MethodHandle" ∧ y.cls ≠ "java/lang/invoke/VarHandle" ∧ (parseMethodDescriptor y.desc).map (fun d => d.parameters.length) = some n) (hR : rm.frames + 1 ≤ R.frames ∧ 8 + (maxL + 11) + rm.locals ≤ R.locals) :
    vx_CVW R s args own C index y bytes maxL ret hh ws rm mc ms n := by
  obtain ⟨hC, hd⟩ := hd
  subst hC
  have ok : ∀ w ∈ wsV own index y.cls y ws, w.before args s = true := fun w h => ht w (hT w h).1
  have hG : GoodIn Ts ws := fun w h => hT w (by unfold wsV; exact List.mem_append_right _ h)
  have hc : Cond.codeWith y bytes maxL ret hh ∈ ws := by rw [hw]; exact List.mem_cons_self
  refine ⟨⟨hrc, hrs, hR.1, hR.2, pay_in ht hG, hc⟩, ht _ (hG _ hc).1, ok _ (by simp [wsV]), ⟨hd.1, hd.2.1⟩, fun sig h => ?_, ok _ (by simp [wsV]), ok _ (by simp [wsV]), ok _ (by simp [wsV])⟩
  have h2 := hd.2.2
  rw [h] at h2
  exact (Option.some.inj h2).symm
theorem vx_runVW {y : MethodName} {bytes cc : ByteArray} {maxL nL mc ms n index : Nat} {ret : Option FieldType} {hh : List (Nat × Nat × Nat × Nat)} {ws : List Cond} {rm : Room} {Pc : Array Value → State → Prop} {Qc : Array Value → State → Outcome → State → Prop} {free : Addr → Prop} {Ts : List Cond} {own C : String} {b : Addr} {As rest : List Value} {g : JFrame}
    (S : CallFix p m c cc nL s args Ts own) (hM : Met l y ws rm Pc Qc mc ms free) (cw : vx_CVW R s args own C index y bytes maxL ret hh ws rm mc ms n) (hp : PreV s H C b Pc As)
    (hg : g.method = m) (hn : As.length = n) (hsize : g.locals.size = nL) (hstack : g.stack = As.reverse ++ .ref b :: rest) (hW : 2 * g.monitorRoom + (rest.map fun v => v.category).sum ≤ 8) (hdg : decode cc g.pc = .ok (.invokevirtual index, 3)) (hf : cells + mc ≤ R.cells ∧ slots + ms ≤ R.slots) :
    va_Run p l e R s m args below meth c H locs cells slots mc ms g rest (Qc (Value.ref b :: As).toArray) free := by
  obtain ⟨⟨hrc, hrs, hfr, hlo, hws, hcw⟩, hcode, hini, hy, hlen, hl, hin, hse⟩ := cw
  have hK : Back l R p e below s args y 3 8 (PreOf R mc ms Pc) (PostOf Qc mc ms free) := va_backW (hh := hh) (bytes := bytes) (maxL := maxL) (ret := ret) hM hp.1 hrc hrs hfr hlo hws hcw (fun a' U hW => word_at hW (Or.inl (by first | rfl | simp [Cond.onTables, Cond.keeps, Cond.steady])) hini)
  obtain ⟨hx, hb, hml, ho, -⟩ := S
  obtain ⟨-, ⟨cellB, hcB, hoB, hclB⟩, hPc⟩ := hp
  intro T hT X
  obtain ⟨v, vm₁, ⟨U', l2, c2, s2⟩, hW₁, X', ⟨g', mk, t, L, e1, e2, hq, h1, hL, h2, h3⟩, st⟩ := vx_callVW X hx (C := C) (hh := hh) (bytes := bytes) (maxL := maxL) (ret := ret) ho hl hin hse hcode hy hK (by rw [hT]; exact hcB) hoB hclB hg (hsize.trans hml.symm) (argsL := As) (rest := rest) (fun sig h => hn.trans (hlen sig h)) hstack hW (by rw [hb]; exact hdg)
    (fun vm₁ hW₁ => ⟨hf.1, hf.2, hPc (T.setVm vm₁) hT hW₁⟩)
  dsimp only [Pt.U, Pt.locs, Pt.cells, Pt.slots] at X' e1 e2 h1 h2 h3 st
  subst h1; subst h2; subst h3
  exact ⟨v, (T.setVm vm₁).calling g' mk (Value.ref b :: As).toArray, t, U', L, hT, X', hL, e1, e2, hq, st⟩
section
variable {y : MethodName} {bytes cc : ByteArray} {maxL nL mc ms n index : Nat} {ret : Option FieldType} {ws : List Cond} {rm : Room} {Pc : Array Value → State → Prop} {Qc : Array Value → State → Outcome → State → Prop} {XC : String → State → State → Prop} {free : Addr → Prop} {Ts : List Cond} {own C : String} {b : Addr} {As rest : List Value} {g : JFrame}
theorem vx_runVX {hh : List (Nat × Nat × Nat × Nat)} (S : CallFix p m c cc nL s args Ts own) (hM : vx_Met l y ws rm Pc Qc XC mc ms free) (cw : vx_CVW R s args own C index y bytes maxL ret hh ws rm mc ms n) (hp : PreV s H C b Pc As)
    (hg : g.method = m) (hn : As.length = n) (hsize : g.locals.size = nL) (hstack : g.stack = As.reverse ++ .ref b :: rest) (hW : 2 * g.monitorRoom + (rest.map fun v => v.category).sum ≤ 8) (hdg : decode cc g.pc = .ok (.invokevirtual index, 3)) (hf : cells + mc ≤ R.cells ∧ slots + ms ≤ R.slots) :
    vx_Run p l e R s m args below meth c H locs cells slots mc ms g rest (Qc (Value.ref b :: As).toArray) XC free := by
  obtain ⟨⟨hrc, hrs, hfr, hlo, hws, hcw⟩, hcode, hini, hy, hlen, hl, hin, hse⟩ := cw
  have hK : vx_Back l R p e below s args y 3 8 (PreOf R mc ms Pc) (PostOf Qc mc ms free) (vx_Post XC mc ms free) := vx_backW (hh := hh) (bytes := bytes) (maxL := maxL) (ret := ret) hM hp.1 hrc hrs hfr hlo hws hcw (fun a' U hW => word_at hW (Or.inl (by first | rfl | simp [Cond.onTables, Cond.keeps, Cond.steady])) hini)
  obtain ⟨hx, hb, hml, ho, -⟩ := S
  obtain ⟨-, ⟨cellB, hcB, hoB, hclB⟩, hPc⟩ := hp
  intro T hT X
  rcases vx_callVX X hx (C := C) (hh := hh) (bytes := bytes) (maxL := maxL) (ret := ret) ho hl hin hse hcode hy hK (by rw [hT]; exact hcB) hoB hclB hg (hsize.trans hml.symm) (argsL := As) (rest := rest) (fun sig h => hn.trans (hlen sig h)) hstack hW (by rw [hb]; exact hdg)
    (fun vm₁ hW₁ => ⟨hf.1, hf.2, hPc (T.setVm vm₁) hT hW₁⟩) with ⟨v, vm₁, ⟨U', l2, c2, s2⟩, hW₁, X', ⟨g', mk, t, L, e1, e2, hq, h1, hL, h2, h3⟩, st⟩ | ⟨q, vm₁, ⟨U', l2, c2, s2⟩, hW₁, X', ⟨g', mk, t, L, E, ce, e1, e2, hq, hce, hcv, hcl, h1, hL, h2, h3⟩, st⟩
  · dsimp only [Pt.U, Pt.locs, Pt.cells, Pt.slots] at X' e1 e2 h1 h2 h3 st
    subst h1; subst h2; subst h3
    exact Or.inl ⟨v, (T.setVm vm₁).calling g' mk (Value.ref b :: As).toArray, t, U', L, hT, X', hL, e1, e2, hq, st⟩
  · dsimp only [Pt.U, Pt.locs, Pt.cells, Pt.slots] at X' e1 e2 h1 h2 h3 st hcl
    subst h1; subst h2; subst h3
    exact Or.inr ⟨q, (T.setVm vm₁).calling g' mk (Value.ref b :: As).toArray, t, U', L, E, ce, hT, X', hL, e1, e2, hq, hce, hcv, vx_cls hW₁ hcl, st⟩
theorem vx_runSX {hh : List (Nat × Nat × Nat × Nat)} (S : CallFix p m c cc nL s args Ts own) (hM : vx_Met l y ws rm Pc Qc XC mc ms free) (cw : vx_CSW R s args own index y bytes maxL ret hh ws rm mc ms n) (hp : PreS s H Pc As)
    (hg : g.method = m) (hn : As.length = n) (hsize : g.locals.size = nL) (hstack : g.stack = As.reverse ++ rest) (hW : 2 * g.monitorRoom + (rest.map fun v => v.category).sum ≤ 8) (hdg : decode cc g.pc = .ok (.invokestatic index, 3)) (hf : cells + mc ≤ R.cells ∧ slots + ms ≤ R.slots) :
    vx_Run p l e R s m args below meth c H locs cells slots mc ms g rest (Qc As.toArray) XC free := by
  obtain ⟨⟨hrc, hrs, hfr, hlo, hws, hcw⟩, hcode, hini, hy, hlen, hl, hstt⟩ := cw
  have hK : vx_Back l R p e below s args y 3 8 (PreOf R mc ms Pc) (PostOf Qc mc ms free) (vx_Post XC mc ms free) := vx_backW (hh := hh) (bytes := bytes) (maxL := maxL) (ret := ret) hM hp.1 hrc hrs hfr hlo hws hcw (fun a' U hW => word_at hW (Or.inl (by first | rfl | simp [Cond.onTables, Cond.keeps, Cond.steady])) hini)
  obtain ⟨hx, hb, hml, ho, -⟩ := S
  intro T hT X
  rcases vx_callSX X hx (hh := hh) (bytes := bytes) (maxL := maxL) (ret := ret) ho hl hstt hini hcode hy hK hg (hsize.trans hml.symm) (argsL := As) (rest := rest) (fun sig h => hn.trans (hlen sig h)) hstack hW (by rw [hb]; exact hdg)
    (fun vm₁ hW₁ => ⟨hf.1, hf.2, hp.2 (T.setVm vm₁) hT hW₁⟩) with ⟨v, vm₁, ⟨U', l2, c2, s2⟩, hW₁, X', ⟨g', mk, t, L, e1, e2, hq, h1, hL, h2, h3⟩, st⟩ | ⟨q, vm₁, ⟨U', l2, c2, s2⟩, hW₁, X', ⟨g', mk, t, L, E, ce, e1, e2, hq, hce, hcv, hcl, h1, hL, h2, h3⟩, st⟩
  · dsimp only [Pt.U, Pt.locs, Pt.cells, Pt.slots] at X' e1 e2 h1 h2 h3 st
    subst h1; subst h2; subst h3
    exact Or.inl ⟨v, (T.setVm vm₁).calling g' mk As.toArray, t, U', L, hT, X', hL, e1, e2, hq, st⟩
  · dsimp only [Pt.U, Pt.locs, Pt.cells, Pt.slots] at X' e1 e2 h1 h2 h3 st hcl
    subst h1; subst h2; subst h3
    exact Or.inr ⟨q, (T.setVm vm₁).calling g' mk As.toArray, t, U', L, E, ce, hT, X', hL, e1, e2, hq, hce, hcv, vx_cls hW₁ hcl, st⟩
end
end VXH
theorem vx_ofWH {l : Launch} {y : MethodName} {ws ws' : List Cond} {rm : Room} {Pc : Array Value → State → Prop} {Qc : Array Value → State → Outcome → State → Prop} {XC : String → State → State → Prop} {mc ms : Nat} {free : Addr → Prop} {cc : ByteArray} {maxL : Nat} {ret : Option FieldType} {hh : List (Nat × Nat × Nat × Nat)}
    (hy : plainName y.cls = true) (hw : ws = Cond.codeWith y cc maxL ret hh :: ws')
    (body : ∀ p e s m args below meth c s₁, BodyLoose p l y (headSpec ws rm) cc maxL ret e s m args below meth c s₁ → c.maxLocals = maxL → Pc args s →
      W p l e (headSpec ws rm).room s m args below meth c s.heap [] 0 0 (vx_MQ below Qc XC args s mc ms free) (entryFrame m args maxL)) : vx_Met l y ws rm Pc Qc XC mc ms free := by
  refine MetFree.of_bodyS (code := cc) (maxLocals := maxL) (ret := ret) hy ?_ ?_
  · intro args s m h hn
    obtain ⟨m9, meth, c, hn9, h1, h2, h3, h4, -, h5, h6, -⟩ := Cond.codeWith_spec (atoms_spec (ws := ws) h _ (by rw [hw]; exact List.mem_cons_self))
    cases hn.symm.trans hn9
    exact ⟨meth, c, h1, h2, h3, h4, h5, h6⟩
  · intro p e s m args below meth c s₁ B hml hP _
    have hh0 : s₁.heap = s.heap := by rw [B.state]; rfl
    obtain ⟨t, a1, o, b1, b2, b3⟩ := body p e s m args below meth c s₁ B hml hP s₁ hh0 (Stand.of_body B)
    exact ⟨t, o, a1, b1, b2, b3⟩
/-! ===== END ===== -/
/-! ===== BEGIN a constructor that throws (launches without stack traces) ===== -/
section VXIA
variable {p : Program} {l : Launch} {e : Env} {R : Room} {s : State} {m : MethodId} {args : Array Value} {below : List Frame} {meth : Method} {c : Code} {T : State} {locs : List Loc} {cells slots : Nat}
theorem vx_callI (X : Stand p l e R s m args below meth c T locs cells slots) (hexec : p.tables.exec = Jvm.exec) {own : String} {index : Nat} {y : MethodName} {bytes : ByteArray} {maxL : Nat}
    (hown : s.vm.findClass own = some m.cls) (hy1 : y.name = "<init>") (hlink : (Cond.methodLink own index y).before args s = true) (hinst : (Cond.instanceMethod y).before args s = true)
    (hcode : (Cond.code y bytes maxL none).before args s = true) (hy : y.cls ≠ "java/lang/invoke/MethodHandle" ∧ y.cls ≠ "java/lang/invoke/VarHandle")
    {W9 : Nat} {Pre : Pt → Array Value → Prop} {Post : Pt → Array Value → Option Value → Pt → Prop} {PostX : Pt → Array Value → Addr → Pt → Prop} (hK : vx_Back l R p e below s args y 3 W9 Pre Post PostX)
    {g : JFrame} (hg : g.method = m) (hsize : g.locals.size = c.maxLocals) {a : Addr} {argsL rest : List Value} (hlen : ∀ sig, parseMethodDescriptor y.desc = some sig → argsL.length = sig.parameters.length)
    (hstack : g.stack = argsL.reverse ++ .ref a :: rest) (hW : 2 * g.monitorRoom + (rest.map fun v => v.category).sum ≤ W9) (hdg : decode c.code g.pc = .ok (.invokespecial index, 3))
    (hpre : ∀ vm₁, s.WarmedH vm₁ → Pre ⟨T.setVm vm₁, locs, cells, slots⟩ (Value.ref a :: argsL).toArray) :
    (∃ (v : Option Value) (vm₁ : Vm) (B : Pt), s.WarmedH vm₁ ∧ Stand p l e R s m args below meth c B.U B.locs B.cells B.slots ∧ Post ⟨T.setVm vm₁, locs, cells, slots⟩ (Value.ref a :: argsL).toArray v B ∧
      ∀ target, Steps p.tables e below (B.U.setTop { g with pc := g.pc + 3, stack := v.toList ++ rest }) target → Steps p.tables e below (T.setTop g) target) ∨
    (∃ (q : Addr) (vm₁ : Vm) (B : Pt), s.WarmedH vm₁ ∧ Stand p l e R s m args below meth c B.U B.locs B.cells B.slots ∧ PostX ⟨T.setVm vm₁, locs, cells, slots⟩ (Value.ref a :: argsL).toArray q B ∧
      Steps p.tables e below (T.setTop g) ((B.U.setTop { g with stack := rest }).pushFrame (.throwing q))) := by
  subst hg
  have hpl : e.platform.magicAccessors = ({} : Platform).magicAccessors := by rw [X.admits.platform]
  obtain ⟨mk, methM, cM, kP, vm₁, hnamed, hmethM, hcodeM, -, hlocalsM, -, hkP, -, hW₁, hstep₁⟩ := Steps.initColdArgs (e := e) X.here hexec X.warmed hpl hown hy1 hy hlink hinst hcode (f := g) rfl hlen hstack hdg
  have X₁ := X.noted hW₁
  rcases hK g.method meth c ⟨T.setVm vm₁, locs, cells, slots⟩ { g with stack := rest } (.invokespecial index) mk (Value.ref a :: argsL).toArray X₁ rfl hsize hdg hW (X₁.named hnamed) (hpre vm₁ X₁.warmed) with ⟨v, B, X', hpost, hsteps⟩ | ⟨q, B, X', hpost, hsteps⟩
  · exact Or.inl ⟨v, vm₁, B, X₁.warmed, X', hpost, fun target h => hstep₁ _ fun acts => by rw [doInvoke_state]; exact hsteps.trans h⟩
  · exact Or.inr ⟨q, vm₁, B, X₁.warmed, X', hpost, hstep₁ _ fun acts => by rw [doInvoke_state]; exact hsteps⟩
end VXIA
section VXIB
variable {p : Program} {l : Launch} {e : Env} {R : Room} {s : State} {m : MethodId} {args : Array Value} {below : List Frame} {meth : Method} {c : Code} {H : Heap} {locs : List Loc} {cells slots : Nat}
variable {y : MethodName} {bytes cc : ByteArray} {maxL nL mc ms n index : Nat} {ret : Option FieldType} {ws : List Cond} {rm : Room} {Pc : Array Value → State → Prop} {Qc : Array Value → State → Outcome → State → Prop} {XC : String → State → State → Prop} {free : Addr → Prop} {Ts : List Cond} {own C : String} {b : Addr} {As rest : List Value} {g : JFrame}
theorem vx_runI (S : CallFix p m c cc nL s args Ts own) (hM : vx_Met l y ws rm Pc Qc XC mc ms free) (cw : CallB R s args own index y bytes maxL none ws rm mc ms n ∧ y.name = "<init>" ∧ (Cond.instanceMethod y).before args s = true) (hp : PreS s H Pc (.ref b :: As))
    (hg : g.method = m) (hn : As.length = n) (hsize : g.locals.size = nL) (hstack : g.stack = As.reverse ++ .ref b :: rest) (hW : 2 * g.monitorRoom + (rest.map fun v => v.category).sum ≤ 8) (hdg : decode cc g.pc = .ok (.invokespecial index, 3)) (hf : cells + mc ≤ R.cells ∧ slots + ms ≤ R.slots) :
    vx_Run p l e R s m args below meth c H locs cells slots mc ms g rest (Qc (Value.ref b :: As).toArray) XC free := by
  have hK : vx_Back l R p e below s args y 3 8 (PreOf R mc ms Pc) (PostOf Qc mc ms free) (vx_Post XC mc ms free) := vx_callBack cw.1 hM hp.1
  obtain ⟨⟨-, -, -, -, -, -, hcode, -, hy, hlen, hl⟩, hy1, hin⟩ := cw
  obtain ⟨hx, hb, hml, ho, -⟩ := S
  have hPc := hp.2
  intro T hT X
  rcases vx_callI X hx (bytes := bytes) (maxL := maxL) ho hy1 hl hin hcode hy hK hg (hsize.trans hml.symm) (a := b) (argsL := As) (rest := rest) (fun sig h => hn.trans (hlen sig h)) hstack hW (by rw [hb]; exact hdg)
    (fun vm₁ hW₁ => ⟨hf.1, hf.2, hPc (T.setVm vm₁) hT hW₁⟩) with ⟨v, vm₁, ⟨U', l2, c2, s2⟩, hW₁, X', ⟨g', mk, t, L, e1, e2, hq, h1, hL, h2, h3⟩, st⟩ | ⟨q, vm₁, ⟨U', l2, c2, s2⟩, hW₁, X', ⟨g', mk, t, L, E, ce, e1, e2, hq, hce, hcv, hcl, h1, hL, h2, h3⟩, st⟩
  · dsimp only [Pt.U, Pt.locs, Pt.cells, Pt.slots] at X' e1 e2 h1 h2 h3 st
    subst h1; subst h2; subst h3
    exact Or.inl ⟨v, (T.setVm vm₁).calling g' mk (Value.ref b :: As).toArray, t, U', L, hT, X', hL, e1, e2, hq, st⟩
  · dsimp only [Pt.U, Pt.locs, Pt.cells, Pt.slots] at X' e1 e2 h1 h2 h3 st hcl
    subst h1; subst h2; subst h3
    exact Or.inr ⟨q, (T.setVm vm₁).calling g' mk (Value.ref b :: As).toArray, t, U', L, E, ce, hT, X', hL, e1, e2, hq, hce, hcv, vx_cls hW₁ hcl, st⟩
end VXIB
/-! ===== END ===== -/
/-! ===== BEGIN a private constructor of a nest mate that throws ===== -/
section VXIC
variable {p : Program} {l : Launch} {e : Env} {R : Room} {s : State} {m : MethodId} {args : Array Value} {below : List Frame} {meth : Method} {c : Code} {T : State} {locs : List Loc} {cells slots : Nat}
theorem vx_callIN (X : Stand p l e R s m args below meth c T locs cells slots) (hexec : p.tables.exec = Jvm.exec) {own : String} {index : Nat} {host : String} {y : MethodName} {bytes : ByteArray} {maxL : Nat}
    (hown : s.vm.findClass own = some m.cls) (hy1 : y.name = "<init>") (hlink : (Cond.methodLinkNest own index y host).before args s = true) (hinst : (Cond.instanceMethod y).before args s = true)
    (hcode : (Cond.code y bytes maxL none).before args s = true) (hy : y.cls ≠ "java/lang/invoke/MethodHandle" ∧ y.cls ≠ "java/lang/invoke/VarHandle")
    {W9 : Nat} {Pre : Pt → Array Value → Prop} {Post : Pt → Array Value → Option Value → Pt → Prop} {PostX : Pt → Array Value → Addr → Pt → Prop} (hK : vx_Back l R p e below s args y 3 W9 Pre Post PostX)
    {g : JFrame} (hg : g.method = m) (hsize : g.locals.size = c.maxLocals) {a : Addr} {argsL rest : List Value} (hlen : ∀ sig, parseMethodDescriptor y.desc = some sig → argsL.length = sig.parameters.length)
    (hstack : g.stack = argsL.reverse ++ .ref a :: rest) (hW : 2 * g.monitorRoom + (rest.map fun v => v.category).sum ≤ W9) (hdg : decode c.code g.pc = .ok (.invokespecial index, 3))
    (hpre : ∀ vm₁, s.WarmedH vm₁ → Pre ⟨T.setVm vm₁, locs, cells, slots⟩ (Value.ref a :: argsL).toArray) :
    (∃ (v : Option Value) (vm₁ : Vm) (B : Pt), s.WarmedH vm₁ ∧ Stand p l e R s m args below meth c B.U B.locs B.cells B.slots ∧ Post ⟨T.setVm vm₁, locs, cells, slots⟩ (Value.ref a :: argsL).toArray v B ∧
      ∀ target, Steps p.tables e below (B.U.setTop { g with pc := g.pc + 3, stack := v.toList ++ rest }) target → Steps p.tables e below (T.setTop g) target) ∨
    (∃ (q : Addr) (vm₁ : Vm) (B : Pt), s.WarmedH vm₁ ∧ Stand p l e R s m args below meth c B.U B.locs B.cells B.slots ∧ PostX ⟨T.setVm vm₁, locs, cells, slots⟩ (Value.ref a :: argsL).toArray q B ∧
      Steps p.tables e below (T.setTop g) ((B.U.setTop { g with stack := rest }).pushFrame (.throwing q))) := by
  subst hg
  have hpl : e.platform.magicAccessors = ({} : Platform).magicAccessors := by rw [X.admits.platform]
  obtain ⟨mk, methM, cM, kP, vm₁, hnamed, hmethM, hcodeM, -, hlocalsM, -, hkP, -, hW₁, hstep₁⟩ := Steps.initColdArgsNest (e := e) X.here hexec X.warmed hpl hown hy1 hy hlink hinst hcode (f := g) rfl hlen hstack hdg
  have X₁ := X.noted hW₁
  rcases hK g.method meth c ⟨T.setVm vm₁, locs, cells, slots⟩ { g with stack := rest } (.invokespecial index) mk (Value.ref a :: argsL).toArray X₁ rfl hsize hdg hW (X₁.named hnamed) (hpre vm₁ X₁.warmed) with ⟨v, B, X', hpost, hsteps⟩ | ⟨q, B, X', hpost, hsteps⟩
  · exact Or.inl ⟨v, vm₁, B, X₁.warmed, X', hpost, fun target h => hstep₁ _ fun acts => by rw [doInvoke_state]; exact hsteps.trans h⟩
  · exact Or.inr ⟨q, vm₁, B, X₁.warmed, X', hpost, hstep₁ _ fun acts => by rw [doInvoke_state]; exact hsteps⟩
end VXIC
section VXID
variable {p : Program} {l : Launch} {e : Env} {R : Room} {s : State} {m : MethodId} {args : Array Value} {below : List Frame} {meth : Method} {c : Code} {H : Heap} {locs : List Loc} {cells slots : Nat}
theorem vx_runIN {y : MethodName} {bytes cc : ByteArray} {maxL nL mc ms n index : Nat} {ws : List Cond} {rm : Room} {Pc : Array Value → State → Prop} {Qc : Array Value → State → Outcome → State → Prop} {XC : String → State → State → Prop} {free : Addr → Prop} {Ts : List Cond} {own host : String} {b : Addr} {As rest : List Value} {g : JFrame}
    (S : CallFix p m c cc nL s args Ts own) (hM : vx_Met l y ws rm Pc Qc XC mc ms free) (cw : va_CN R s args own index y host bytes maxL none ws rm mc ms n ∧ y.name = "<init>" ∧ (Cond.instanceMethod y).before args s = true) (hp : PreS s H Pc (.ref b :: As))
    (hg : g.method = m) (hn : As.length = n) (hsize : g.locals.size = nL) (hstack : g.stack = As.reverse ++ .ref b :: rest) (hW : 2 * g.monitorRoom + (rest.map fun v => v.category).sum ≤ 8) (hdg : decode cc g.pc = .ok (.invokespecial index, 3)) (hf : cells + mc ≤ R.cells ∧ slots + ms ≤ R.slots) :
    vx_Run p l e R s m args below meth c H locs cells slots mc ms g rest (Qc (Value.ref b :: As).toArray) XC free := by
  obtain ⟨⟨⟨hrc, hrs, hfr, hlo, hws, hcw⟩, hcode, hini, hy, hlen, hl⟩, hx1, hx2⟩ := cw
  have hK : vx_Back l R p e below s args y 3 8 (PreOf R mc ms Pc) (PostOf Qc mc ms free) (vx_Post XC mc ms free) := vx_back (bytes := bytes) (maxL := maxL) (ret := none) hM hp.1 hrc hrs hfr hlo hws hcw (fun a' U hW => word_at hW (Or.inl (by first | rfl | simp [Cond.onTables, Cond.keeps, Cond.steady])) hini)
  obtain ⟨hx, hb, hml, ho, -⟩ := S
  have hPc := hp.2
  intro T hT X
  rcases vx_callIN X hx (bytes := bytes) (maxL := maxL) ho hx1 hl hx2 hcode hy hK hg (hsize.trans hml.symm) (a := b) (argsL := As) (rest := rest) (fun sig h => hn.trans (hlen sig h)) hstack hW (by rw [hb]; exact hdg)
    (fun vm₁ hW₁ => ⟨hf.1, hf.2, hPc (T.setVm vm₁) hT hW₁⟩) with ⟨v, vm₁, ⟨U', l2, c2, s2⟩, hW₁, X', ⟨g', mk, t, L, e1, e2, hq, h1, hL, h2, h3⟩, st⟩ | ⟨q, vm₁, ⟨U', l2, c2, s2⟩, hW₁, X', ⟨g', mk, t, L, E, ce, e1, e2, hq, hce, hcv, hcl, h1, hL, h2, h3⟩, st⟩
  · dsimp only [Pt.U, Pt.locs, Pt.cells, Pt.slots] at X' e1 e2 h1 h2 h3 st
    subst h1; subst h2; subst h3
    exact Or.inl ⟨v, (T.setVm vm₁).calling g' mk (Value.ref b :: As).toArray, t, U', L, hT, X', hL, e1, e2, hq, st⟩
  · dsimp only [Pt.U, Pt.locs, Pt.cells, Pt.slots] at X' e1 e2 h1 h2 h3 st hcl
    subst h1; subst h2; subst h3
    exact Or.inr ⟨q, (T.setVm vm₁).calling g' mk (Value.ref b :: As).toArray, t, U', L, E, ce, hT, X', hL, e1, e2, hq, hce, hcv, vx_cls hW₁ hcl, st⟩
end VXID
/-! ===== BEGIN a private method of a nest mate that may throw (follows va_callVN, va_callSN, va_runVN, va_runSN) ===== -/
section
variable {p : Program} {l : Launch} {e : Env} {R : Room} {s : State} {m : MethodId} {args : Array Value} {below : List Frame} {meth : Method} {c : Code} {H : Heap} {locs : List Loc} {cells slots : Nat}
variable {T : State}
theorem vx_callVN (X : Stand p l e R s m args below meth c T locs cells slots) (hexec : p.tables.exec = Jvm.exec) {own C : String} {index : Nat} {host : String} {y : MethodName} {bytes : ByteArray} {maxL : Nat} {ret : Option FieldType}
    (hown : s.vm.findClass own = some m.cls) (hlink : (Cond.methodLinkNest own index y host).before args s = true) (hinst : (Cond.instanceMethod y).before args s = true) (hsel : (Cond.selects C y y).before args s = true)
    (hcode : (Cond.code y bytes maxL ret).before args s = true) (hy : y.cls ≠ "java/lang/invoke/MethodHandle" ∧ y.cls ≠ "java/lang/invoke/VarHandle")
    {W : Nat} {Pre : Pt → Array Value → Prop} {Post : Pt → Array Value → Option Value → Pt → Prop} {PostX : Pt → Array Value → Addr → Pt → Prop} (hK : vx_Back l R p e below s args y 3 W Pre Post PostX)
    {b : Addr} {cellB : Cell} (hcell : T.heap[b]? = some cellB) (hobj : cellB.vm.isStatics = false) (hcls : s.vm.findClass C = some cellB.cls)
    {g : JFrame} (hg : g.method = m) (hsize : g.locals.size = c.maxLocals) {argsL rest : List Value} (hlen : ∀ sig, parseMethodDescriptor y.desc = some sig → argsL.length = sig.parameters.length)
    (hstack : g.stack = argsL.reverse ++ .ref b :: rest) (hW : 2 * g.monitorRoom + (rest.map fun v => v.category).sum ≤ W) (hdg : decode c.code g.pc = .ok (.invokevirtual index, 3))
    (hpre : ∀ vm₁, s.WarmedH vm₁ → Pre ⟨T.setVm vm₁, locs, cells, slots⟩ (Value.ref b :: argsL).toArray) :
    (∃ (v : Option Value) (vm₁ : Vm) (B : Pt), s.WarmedH vm₁ ∧ Stand p l e R s m args below meth c B.U B.locs B.cells B.slots ∧ Post ⟨T.setVm vm₁, locs, cells, slots⟩ (Value.ref b :: argsL).toArray v B ∧
      ∀ target, Steps p.tables e below (B.U.setTop { g with pc := g.pc + 3, stack := v.toList ++ rest }) target → Steps p.tables e below (T.setTop g) target) ∨
    (∃ (q : Addr) (vm₁ : Vm) (B : Pt), s.WarmedH vm₁ ∧ Stand p l e R s m args below meth c B.U B.locs B.cells B.slots ∧ PostX ⟨T.setVm vm₁, locs, cells, slots⟩ (Value.ref b :: argsL).toArray q B ∧
      Steps p.tables e below (T.setTop g) ((B.U.setTop { g with stack := rest }).pushFrame (.throwing q))) := by
  obtain ⟨mk, methM, hnamed, hmethM, hstM, habM⟩ := Cond.instanceMethod_spec hinst
  obtain ⟨methM', cM, hmethM', -, -, -, -, -, -, hsigM⟩ := Cond.code_spec hnamed hcode
  cases hmethM.symm.trans hmethM'
  obtain ⟨c2, r2, m2, q1, q2, q3, q4, kP, hkP, hkPi⟩ := Cond.selects_spec hsel
  cases hcls.symm.trans q1
  cases (State.methodFound?_of_named hnamed hy).symm.trans q2
  cases hnamed.symm.trans q3
  have hselP : selectMethod e.platform s.vm cellB.cls mk = .method mk := by rw [Launch.admits_selectMethod X.admits]; exact q4
  obtain ⟨vm₁, X₁, hstep₁⟩ := X.invokevirtualNest hexec hown hlink hnamed hmethM hstM hkP hkPi hy (a := b) (cell := cellB) hcell
    (fun z h => by rw [h] at hobj; cases hobj) hselP hmethM habM hkP hkPi (g := g) hg (argsL := argsL) (rest := rest) (hlen _ hsigM) hstack hdg
  rcases hK m meth c ⟨T.setVm vm₁, locs, cells, slots⟩ { g with stack := rest } (.invokevirtual index) mk (Value.ref b :: argsL).toArray X₁ hg hsize hdg hW (X₁.named hnamed) (hpre vm₁ X₁.warmed) with ⟨v, B, X', hpost, hsteps⟩ | ⟨q, B, X', hpost, hsteps⟩
  · exact Or.inl ⟨v, vm₁, B, X₁.warmed, X', hpost, fun target h => hstep₁ _ fun acts => by rw [doInvoke_state]; exact hsteps.trans h⟩
  · exact Or.inr ⟨q, vm₁, B, X₁.warmed, X', hpost, hstep₁ _ fun acts => by rw [doInvoke_state]; exact hsteps⟩
theorem vx_callSN (X : Stand p l e R s m args below meth c T locs cells slots) (hexec : p.tables.exec = Jvm.exec) {own : String} {index : Nat} {host : String} {y : MethodName} {bytes : ByteArray} {maxL : Nat} {ret : Option FieldType}
    (hown : s.vm.findClass own = some m.cls) (hlink : (Cond.methodLinkNest own index y host).before args s = true) (hstat : (Cond.static y).before args s = true) (hinit : (Cond.initialized y.cls).before args s = true)
    (hcode : (Cond.code y bytes maxL ret).before args s = true) (hy : y.cls ≠ "java/lang/invoke/MethodHandle" ∧ y.cls ≠ "java/lang/invoke/VarHandle")
    {W : Nat} {Pre : Pt → Array Value → Prop} {Post : Pt → Array Value → Option Value → Pt → Prop} {PostX : Pt → Array Value → Addr → Pt → Prop} (hK : vx_Back l R p e below s args y 3 W Pre Post PostX)
    {g : JFrame} (hg : g.method = m) (hsize : g.locals.size = c.maxLocals) {argsL rest : List Value} (hlen : ∀ sig, parseMethodDescriptor y.desc = some sig → argsL.length = sig.parameters.length)
    (hstack : g.stack = argsL.reverse ++ rest) (hW : 2 * g.monitorRoom + (rest.map fun v => v.category).sum ≤ W) (hdg : decode c.code g.pc = .ok (.invokestatic index, 3))
    (hpre : ∀ vm₁, s.WarmedH vm₁ → Pre ⟨T.setVm vm₁, locs, cells, slots⟩ argsL.toArray) :
    (∃ (v : Option Value) (vm₁ : Vm) (B : Pt), s.WarmedH vm₁ ∧ Stand p l e R s m args below meth c B.U B.locs B.cells B.slots ∧ Post ⟨T.setVm vm₁, locs, cells, slots⟩ argsL.toArray v B ∧
      ∀ target, Steps p.tables e below (B.U.setTop { g with pc := g.pc + 3, stack := v.toList ++ rest }) target → Steps p.tables e below (T.setTop g) target) ∨
    (∃ (q : Addr) (vm₁ : Vm) (B : Pt), s.WarmedH vm₁ ∧ Stand p l e R s m args below meth c B.U B.locs B.cells B.slots ∧ PostX ⟨T.setVm vm₁, locs, cells, slots⟩ argsL.toArray q B ∧
      Steps p.tables e below (T.setTop g) ((B.U.setTop { g with stack := rest }).pushFrame (.throwing q))) := by
  obtain ⟨mk, hnamed⟩ := Cond.code_named hcode
  obtain ⟨methM, cM, hmethM, -, -, -, -, -, -, hsigM⟩ := Cond.code_spec hnamed hcode
  have hstatic : methM.isStatic = true := Cond.static_spec hnamed hmethM hstat
  obtain ⟨kP, hkP, -⟩ := className_of_methodNamed hnamed
  have hinitP : kP.init = .initialized := Cond.initialized_spec (findClass_of_methodNamed hnamed) hkP hinit
  obtain ⟨vm₁, X₁, hstep₁⟩ := X.invokestaticNest hexec hown hlink hnamed hmethM hstatic hkP hinitP hy (g := g) hg (argsL := argsL) (rest := rest) (hlen _ hsigM) hstack hdg
  rcases hK m meth c ⟨T.setVm vm₁, locs, cells, slots⟩ { g with stack := rest } (.invokestatic index) mk argsL.toArray X₁ hg hsize hdg hW (X₁.named hnamed) (hpre vm₁ X₁.warmed) with ⟨v, B, X', hpost, hsteps⟩ | ⟨q, B, X', hpost, hsteps⟩
  · exact Or.inl ⟨v, vm₁, B, X₁.warmed, X', hpost, fun target h => hstep₁ _ fun acts => by rw [doInvoke_state]; exact hsteps.trans h⟩
  · exact Or.inr ⟨q, vm₁, B, X₁.warmed, X', hpost, hstep₁ _ fun acts => by rw [doInvoke_state]; exact hsteps⟩
theorem vx_runVN {y : MethodName} {bytes cc : ByteArray} {maxL nL mc ms n index : Nat} {ret : Option FieldType} {ws : List Cond} {rm : Room} {Pc : Array Value → State → Prop} {Qc : Array Value → State → Outcome → State → Prop} {XC : String → State → State → Prop} {free : Addr → Prop} {Ts : List Cond} {own C host : String} {b : Addr} {As rest : List Value} {g : JFrame}
    (S : CallFix p m c cc nL s args Ts own) (hM : vx_Met l y ws rm Pc Qc XC mc ms free) (cw : va_CN R s args own index y host bytes maxL ret ws rm mc ms n ∧ (Cond.instanceMethod y).before args s = true ∧ (Cond.selects C y y).before args s = true) (hp : PreV s H C b Pc As)
    (hg : g.method = m) (hn : As.length = n) (hsize : g.locals.size = nL) (hstack : g.stack = As.reverse ++ .ref b :: rest) (hW : 2 * g.monitorRoom + (rest.map fun v => v.category).sum ≤ 8) (hdg : decode cc g.pc = .ok (.invokevirtual index, 3)) (hf : cells + mc ≤ R.cells ∧ slots + ms ≤ R.slots) :
    vx_Run p l e R s m args below meth c H locs cells slots mc ms g rest (Qc (Value.ref b :: As).toArray) XC free := by
  obtain ⟨⟨⟨hrc, hrs, hfr, hlo, hws, hcw⟩, hcode, hini, hy, hlen, hl⟩, hx1, hx2⟩ := cw
  have hK : vx_Back l R p e below s args y 3 8 (PreOf R mc ms Pc) (PostOf Qc mc ms free) (vx_Post XC mc ms free) := vx_back (bytes := bytes) (maxL := maxL) (ret := ret) hM hp.1 hrc hrs hfr hlo hws hcw (fun a' U hW => word_at hW (Or.inl (by first | rfl | simp [Cond.onTables, Cond.keeps, Cond.steady])) hini)
  obtain ⟨hx, hb, hml, ho, -⟩ := S
  obtain ⟨-, ⟨cellB, hcB, hoB, hclB⟩, hPc⟩ := hp
  intro T hT X
  rcases vx_callVN X hx (C := C) (bytes := bytes) (maxL := maxL) (ret := ret) ho hl hx1 hx2 hcode hy hK (by rw [hT]; exact hcB) hoB hclB hg (hsize.trans hml.symm) (argsL := As) (rest := rest) (fun sig h => hn.trans (hlen sig h)) hstack hW (by rw [hb]; exact hdg)
    (fun vm₁ hW₁ => ⟨hf.1, hf.2, hPc (T.setVm vm₁) hT hW₁⟩) with ⟨v, vm₁, ⟨U', l2, c2, s2⟩, hW₁, X', ⟨g', mk, t, L, e1, e2, hq, h1, hL, h2, h3⟩, st⟩ | ⟨q, vm₁, ⟨U', l2, c2, s2⟩, hW₁, X', ⟨g', mk, t, L, E, ce, e1, e2, hq, hce, hcv, hcl, h1, hL, h2, h3⟩, st⟩
  · dsimp only [Pt.U, Pt.locs, Pt.cells, Pt.slots] at X' e1 e2 h1 h2 h3 st
    subst h1; subst h2; subst h3
    exact Or.inl ⟨v, (T.setVm vm₁).calling g' mk (Value.ref b :: As).toArray, t, U', L, hT, X', hL, e1, e2, hq, st⟩
  · dsimp only [Pt.U, Pt.locs, Pt.cells, Pt.slots] at X' e1 e2 h1 h2 h3 st hcl
    subst h1; subst h2; subst h3
    exact Or.inr ⟨q, (T.setVm vm₁).calling g' mk (Value.ref b :: As).toArray, t, U', L, E, ce, hT, X', hL, e1, e2, hq, hce, hcv, vx_cls hW₁ hcl, st⟩
theorem vx_runSN {y : MethodName} {bytes cc : ByteArray} {maxL nL mc ms n index : Nat} {ret : Option FieldType} {ws : List Cond} {rm : Room} {Pc : Array Value → State → Prop} {Qc : Array Value → State → Outcome → State → Prop} {XC : String → State → State → Prop} {free : Addr → Prop} {Ts : List Cond} {own host : String} {As rest : List Value} {g : JFrame}
    (S : CallFix p m c cc nL s args Ts own) (hM : vx_Met l y ws rm Pc Qc XC mc ms free) (cw : va_CN R s args own index y host bytes maxL ret ws rm mc ms n ∧ (Cond.static y).before args s = true ∧ True) (hp : PreS s H Pc As)
    (hg : g.method = m) (hn : As.length = n) (hsize : g.locals.size = nL) (hstack : g.stack = As.reverse ++ rest) (hW : 2 * g.monitorRoom + (rest.map fun v => v.category).sum ≤ 8) (hdg : decode cc g.pc = .ok (.invokestatic index, 3)) (hf : cells + mc ≤ R.cells ∧ slots + ms ≤ R.slots) :
    vx_Run p l e R s m args below meth c H locs cells slots mc ms g rest (Qc As.toArray) XC free := by
  obtain ⟨⟨⟨hrc, hrs, hfr, hlo, hws, hcw⟩, hcode, hini, hy, hlen, hl⟩, hx1, hx2⟩ := cw
  have hK : vx_Back l R p e below s args y 3 8 (PreOf R mc ms Pc) (PostOf Qc mc ms free) (vx_Post XC mc ms free) := vx_back (bytes := bytes) (maxL := maxL) (ret := ret) hM hp.1 hrc hrs hfr hlo hws hcw (fun a' U hW => word_at hW (Or.inl (by first | rfl | simp [Cond.onTables, Cond.keeps, Cond.steady])) hini)
  obtain ⟨hx, hb, hml, ho, -⟩ := S
  have hPc := hp.2
  intro T hT X
  rcases vx_callSN X hx (bytes := bytes) (maxL := maxL) (ret := ret) ho hl hx1 hini hcode hy hK hg (hsize.trans hml.symm) (argsL := As) (rest := rest) (fun sig h => hn.trans (hlen sig h)) hstack hW (by rw [hb]; exact hdg)
    (fun vm₁ hW₁ => ⟨hf.1, hf.2, hPc (T.setVm vm₁) hT hW₁⟩) with ⟨v, vm₁, ⟨U', l2, c2, s2⟩, hW₁, X', ⟨g', mk, t, L, e1, e2, hq, h1, hL, h2, h3⟩, st⟩ | ⟨q, vm₁, ⟨U', l2, c2, s2⟩, hW₁, X', ⟨g', mk, t, L, E, ce, e1, e2, hq, hce, hcv, hcl, h1, hL, h2, h3⟩, st⟩
  · dsimp only [Pt.U, Pt.locs, Pt.cells, Pt.slots] at X' e1 e2 h1 h2 h3 st
    subst h1; subst h2; subst h3
    exact Or.inl ⟨v, (T.setVm vm₁).calling g' mk As.toArray, t, U', L, hT, X', hL, e1, e2, hq, st⟩
  · dsimp only [Pt.U, Pt.locs, Pt.cells, Pt.slots] at X' e1 e2 h1 h2 h3 st hcl
    subst h1; subst h2; subst h3
    exact Or.inr ⟨q, (T.setVm vm₁).calling g' mk As.toArray, t, U', L, E, ce, hT, X', hL, e1, e2, hq, hce, hcv, vx_cls hW₁ hcl, st⟩
end
/-! ===== END ===== -/
/-! ===== BEGIN calls by an interface of methods that may throw (vx_callIF, vx_runF follow va_callIF, va_runF of this kit) ===== -/
section
variable {p : Program} {l : Launch} {e : Env} {R : Room} {s : State} {m : MethodId} {args : Array Value} {below : List Frame} {meth : Method} {c : Code} {H : Heap} {locs : List Loc} {cells slots : Nat} {Q : State → Prop}
variable {mc ms : Nat} {free : Addr → Prop} {A0 A1 : Nat → Prop} {H0 : Heap} {a : Array Value} {pc : Nat} {ls : Array Slot} {st0 rest : List Value}
def vx_Run5 (p : Program) (l : Launch) (e : Env) (R : Room) (s : State) (m : MethodId) (args : Array Value) (below : List Frame) (meth : Method) (c : Code) (H : Heap) (locs : List Loc) (cells slots mc ms : Nat) (g : JFrame) (rest : List Value) (Qa : State → Outcome → State → Prop) (XC : String → State → State → Prop) (free : Addr → Prop) : Prop :=
  ∀ T : State, T.heap = H → Stand p l e R s m args below meth c T locs cells slots →
    (∃ (v : Option Value) (st₀ t T' : State) (L : List Loc), st₀.heap = H ∧ Stand p l e R s m args below meth c T' (locs ++ L) (cells + mc) (slots + ms) ∧ (∀ q ∈ L, free q.base) ∧ T'.heap = t.heap ∧ T'.vm = t.vm ∧ Qa st₀ (.returned v) t ∧
      Goes p e below T g T' { g with pc := g.pc + 5, stack := v.toList ++ rest }) ∨
    (∃ (q : Addr) (st₀ t T' : State) (L : List Loc) (E : String) (ce : Cell), st₀.heap = H ∧ Stand p l e R s m args below meth c T' (locs ++ L) (cells + mc) (slots + ms) ∧ (∀ z ∈ L, free z.base) ∧ T'.heap = t.heap ∧ T'.vm = t.vm ∧ XC E st₀ t ∧ t.heap[q]? = some ce ∧ ce.vm = .none ∧ s.vm.findClass E = some ce.cls ∧
      Steps p.tables e below (T.setTop g) ((T'.setTop { g with stack := rest }).pushFrame (.throwing q)))
theorem vx_callIF {T : State} (X : Stand p l e R s m args below meth c T locs cells slots) (hexec : p.tables.exec = Jvm.exec) {own C : String} {index count : Nat} {x y : MethodName} {bytes : ByteArray} {maxL : Nat} {ret : Option FieldType}
    (hown : s.vm.findClass own = some m.cls) (hlink : (Cond.methodLink own index x).before args s = true) (hdecl : (Cond.declares x).before args s = true) (hface : (Cond.interfaceMethod x.cls x.cls x.name x.desc).before args s = true)
    (hsel : (Cond.selects C x y).before args s = true) (hinst : (Cond.instanceMethod y).before args s = true) (hpub : (Cond.publicMethod y).before args s = true) (hunh : (Cond.unhidden C x.name x.desc).before args s = true)
    (hcast : (Cond.castable C x.cls).before args s = true) (hcode : (Cond.code y bytes maxL ret).before args s = true) (hx : x.cls ≠ "java/lang/invoke/MethodHandle" ∧ x.cls ≠ "java/lang/invoke/VarHandle")
    {W9 : Nat} {Pre : Pt → Array Value → Prop} {Post : Pt → Array Value → Option Value → Pt → Prop} {PostX : Pt → Array Value → Addr → Pt → Prop} (hK : vx_Back l R p e below s args y 5 W9 Pre Post PostX)
    {b : Addr} {cellB : Cell} {kB : Class} (hcell : T.heap[b]? = some cellB) (hobj : cellB.vm.isStatics = false) (hcls : s.vm.findClass C = some cellB.cls) (hkB : s.vm.classes[cellB.cls]? = some kB)
    {g : JFrame} (hg : g.method = m) (hsize : g.locals.size = c.maxLocals) {argsL rest : List Value} (hlen : ∀ sig, parseMethodDescriptor x.desc = some sig → argsL.length = sig.parameters.length)
    (hstack : g.stack = argsL.reverse ++ .ref b :: rest) (hW : 2 * g.monitorRoom + (rest.map fun v => v.category).sum ≤ W9) (hdg : decode c.code g.pc = .ok (.invokeinterface index count, 5))
    (hpre : ∀ vm₁, s.WarmedH vm₁ → Pre ⟨T.setVm vm₁, locs, cells, slots⟩ (Value.ref b :: argsL).toArray) :
    (∃ (v : Option Value) (vm₁ : Vm) (B : Pt), s.WarmedH vm₁ ∧ Stand p l e R s m args below meth c B.U B.locs B.cells B.slots ∧ Post ⟨T.setVm vm₁, locs, cells, slots⟩ (Value.ref b :: argsL).toArray v B ∧
      ∀ target, Steps p.tables e below (B.U.setTop { g with pc := g.pc + 5, stack := v.toList ++ rest }) target → Steps p.tables e below (T.setTop g) target) ∨
    (∃ (q : Addr) (vm₁ : Vm) (B : Pt), s.WarmedH vm₁ ∧ Stand p l e R s m args below meth c B.U B.locs B.cells B.slots ∧ PostX ⟨T.setVm vm₁, locs, cells, slots⟩ (Value.ref b :: argsL).toArray q B ∧
      Steps p.tables e below (T.setTop g) ((B.U.setTop { g with stack := rest }).pushFrame (.throwing q))) := by
  obtain ⟨r0, r, hn, hrm, hstR, hsigR⟩ := Cond.declares_spec hdecl
  obtain ⟨cL, kL, r1, hcL, hkL, hiL, hfoundL, hn1⟩ := Cond.interfaceMethod_spec hface
  cases hn.symm.trans hn1
  have hr0cls : r0.cls = cL := Option.some.inj ((findClass_of_methodNamed hn).symm.trans hcL)
  obtain ⟨hnameR, hdescR⟩ := name_of_methodNamed hn hrm
  obtain ⟨mk, methM, hnamed, hmethM, -, habM⟩ := Cond.instanceMethod_spec hinst
  obtain ⟨c2, r2, m2, q1, q2, q3, q4, -⟩ := Cond.selects_spec hsel
  cases hcls.symm.trans q1
  cases hfoundL.symm.trans q2
  cases hnamed.symm.trans q3
  have hselP : selectMethod e.platform s.vm cellB.cls r0 = .method mk := by rw [Launch.admits_selectMethod X.admits]; exact q4
  have hpubM : hasFlag methM.accessFlags Acc.public_ = true := Cond.publicMethod_spec hnamed hmethM hpub
  have hway : ((cellB.cls :: s.vm.superclasses cellB.cls).any fun k => (declaredIn s.vm r.name r.desc k).any fun (_, z) => z.isPrivate || z.isStatic) = false := by
    rw [hnameR, hdescR]; exact Cond.unhidden_spec hcls hunh
  obtain ⟨c3, t3, w1, w2, w3⟩ := Cond.castable_spec hcast
  cases hcls.symm.trans w1
  cases hcL.symm.trans w2
  obtain ⟨vm₁, X₁, hstep₁⟩ := X.invokeinterface hexec hown hlink hn hrm hstR (by rw [hr0cls]; exact hkL) hiL hx (a := b) (cell := cellB) (kcell := kB) hcell
    (fun z h => by rw [h] at hobj; cases hobj) hkB (by rw [hr0cls]; exact w3) hselP hmethM hway hpubM habM (g := g) hg (argsL := argsL) (rest := rest) (hlen _ hsigR) hstack hdg
  rcases hK m meth c ⟨T.setVm vm₁, locs, cells, slots⟩ { g with stack := rest } (.invokeinterface index count) mk (Value.ref b :: argsL).toArray X₁ hg hsize hdg hW (X₁.named hnamed) (hpre vm₁ X₁.warmed) with ⟨v, B, X', hpost, hsteps⟩ | ⟨q, B, X', hpost, hsteps⟩
  · exact Or.inl ⟨v, vm₁, B, X₁.warmed, X', hpost, fun target h => hstep₁ _ fun acts => by rw [doInvoke_state]; exact hsteps.trans h⟩
  · exact Or.inr ⟨q, vm₁, B, X₁.warmed, X', hpost, hstep₁ _ fun acts => by rw [doInvoke_state]; exact hsteps⟩
theorem vx_runF {x y : MethodName} {bytes cc : ByteArray} {maxL nL mc ms n index count : Nat} {ret : Option FieldType} {ws : List Cond} {rm : Room} {Pc : Array Value → State → Prop} {Qc : Array Value → State → Outcome → State → Prop} {XC : String → State → State → Prop} {free : Addr → Prop} {Ts : List Cond} {own C : String} {cC : ClassId} {b : Addr} {As rest : List Value} {g : JFrame}
    (hat : ClassAt s C cC) (S : CallFix p m c cc nL s args Ts own) (hM : vx_Met l y ws rm Pc Qc XC mc ms free) (cw : va_CI R s args own C index x y bytes maxL ret ws rm mc ms n) (hp : PreV s H C b Pc As)
    (hg : g.method = m) (hn : As.length = n) (hsize : g.locals.size = nL) (hstack : g.stack = As.reverse ++ .ref b :: rest) (hW : 2 * g.monitorRoom + (rest.map fun v => v.category).sum ≤ 8) (hdg : decode cc g.pc = .ok (.invokeinterface index count, 5)) (hf : cells + mc ≤ R.cells ∧ slots + ms ≤ R.slots) :
    vx_Run5 p l e R s m args below meth c H locs cells slots mc ms g rest (Qc (Value.ref b :: As).toArray) XC free := by
  obtain ⟨hrc, hrs, hfr, hlo, hws, hcw⟩ := cw.back
  have hini := cw.init
  have hK : vx_Back l R p e below s args y 5 8 (PreOf R mc ms Pc) (PostOf Qc mc ms free) (vx_Post XC mc ms free) := vx_back (bytes := bytes) (maxL := maxL) (ret := ret) hM hp.1 hrc hrs hfr hlo hws hcw (fun a' U hW => word_at hW (Or.inl (by first | rfl | simp [Cond.onTables, Cond.keeps, Cond.steady])) hini)
  obtain ⟨hx, hb, hml, ho, -⟩ := S
  obtain ⟨-, ⟨cellB, hcB, hoB, hclB⟩, hPc⟩ := hp
  obtain ⟨hfc, kB, hkB, -⟩ := hat
  cases hfc.symm.trans hclB
  intro T hT X
  rcases vx_callIF X hx (C := C) (bytes := bytes) (maxL := maxL) (ret := ret) ho cw.link cw.decl cw.face cw.sel cw.inst cw.pub cw.unh cw.cast cw.code cw.notMH hK (by rw [hT]; exact hcB) hoB hclB hkB hg (hsize.trans hml.symm) (argsL := As) (rest := rest) (fun sig h => hn.trans (cw.len sig h)) hstack hW (by rw [hb]; exact hdg)
    (fun vm₁ hW₁ => ⟨hf.1, hf.2, hPc (T.setVm vm₁) hT hW₁⟩) with ⟨v, vm₁, ⟨U', l2, c2, s2⟩, hW₁, X', ⟨g', mk, t, L, e1, e2, hq, h1, hL, h2, h3⟩, st⟩ | ⟨q, vm₁, ⟨U', l2, c2, s2⟩, hW₁, X', ⟨g', mk, t, L, E, ce, e1, e2, hq, hce, hcv, hcl, h1, hL, h2, h3⟩, st⟩
  · dsimp only [Pt.U, Pt.locs, Pt.cells, Pt.slots] at X' e1 e2 h1 h2 h3 st
    subst h1; subst h2; subst h3
    exact Or.inl ⟨v, (T.setVm vm₁).calling g' mk (Value.ref b :: As).toArray, t, U', L, hT, X', hL, e1, e2, hq, st⟩
  · dsimp only [Pt.U, Pt.locs, Pt.cells, Pt.slots] at X' e1 e2 h1 h2 h3 st hcl
    subst h1; subst h2; subst h3
    exact Or.inr ⟨q, (T.setVm vm₁).calling g' mk (Value.ref b :: As).toArray, t, U', L, E, ce, hT, X', hL, e1, e2, hq, hce, hcv, vx_cls hW₁ hcl, st⟩
theorem vx_callFv {S SX : Type} {post : S → Prop} {px : SX → Prop} {B : S → State → Prop} {BX : String → SX → State → Prop} {AX : Nat → Prop} (hr : vx_Run5 p l e R s m args below meth c H locs cells slots mc ms (F0 m pc ls st0) rest (va_Qv post B A1 a) (vx_X px BX AX) free) (hS : va_S A0 H0 H locs) (hA : ∀ q, q < H.size → A1 q → A0 q) (hf : ∀ q, free q → A0 q) (hAX : ∀ q, q < H.size → AX q → A0 q)
    (kx : ∀ (E : String) (ce : Cell) (q9 : Addr) (u : SX) (t : State) (H1 : Heap) (locs1 : List Loc), t.heap = H1 → s.vm.Alike t.vm → px u → BX E u t → H.size ≤ H1.size → (∀ q : Nat, q < H.size → ¬ AX q → H1[q]? = H[q]?) → va_S A0 H0 H1 locs1 → H1[q9]? = some ce → ce.vm = .none → s.vm.findClass E = some ce.cls → vx_W p l e R s m args below meth c H1 locs1 (cells + mc) (slots + ms) Q (F0 m pc ls rest) q9)
    (kk : ∀ (u : S) (t : State) (H1 : Heap) (locs1 : List Loc), t.heap = H1 → s.vm.Alike t.vm → post u → B u t → H.size ≤ H1.size → (∀ q : Nat, q < H.size → ¬ A1 q → H1[q]? = H[q]?) → va_S A0 H0 H1 locs1 → W p l e R s m args below meth c H1 locs1 (cells + mc) (slots + ms) Q (F0 m (pc + 5) ls (rest))) : W p l e R s m args below meth c H locs cells slots Q (F0 m pc ls st0) := by
  intro T hT X
  rcases hr T hT X with ⟨v, st₀, t, T', L, h0, X', hL, e1, e2, ⟨⟨u, hv, hp, hb⟩, hF⟩, st⟩ | ⟨q, st₀, t, T', L, E, ce, h0, X', hL, e1, e2, ⟨u, hp, hb, hF⟩, hce, hcv, hcl, st⟩
  · cases hv
    obtain ⟨k1, k2, k3⟩ := vx_keep h0 e1 hS hA hf hL hF
    obtain ⟨t2, a1, b1⟩ := kk u t T'.heap (locs ++ L) e1.symm (by rw [← e2]; exact X'.warmed.alike) hp hb k1 k2 k3 T' rfl X'
    exact ⟨t2, st t2 a1, b1⟩
  · obtain ⟨k1, k2, k3⟩ := vx_keep h0 e1 hS hAX hf hL hF
    obtain ⟨t2, a1, b1⟩ := kx E ce q u t T'.heap (locs ++ L) e1.symm (by rw [← e2]; exact X'.warmed.alike) hp hb k1 k2 k3 (by rw [e1]; exact hce) hcv hcl T' rfl X'
    exact ⟨t2, st.trans a1, b1⟩
theorem vx_callFi {S SX : Type} {post : Int32 → S → Prop} {px : SX → Prop} {B : S → State → Prop} {BX : String → SX → State → Prop} {AX : Nat → Prop} (hr : vx_Run5 p l e R s m args below meth c H locs cells slots mc ms (F0 m pc ls st0) rest (va_Qi post B A1 a) (vx_X px BX AX) free) (hS : va_S A0 H0 H locs) (hA : ∀ q, q < H.size → A1 q → A0 q) (hf : ∀ q, free q → A0 q) (hAX : ∀ q, q < H.size → AX q → A0 q)
    (kx : ∀ (E : String) (ce : Cell) (q9 : Addr) (u : SX) (t : State) (H1 : Heap) (locs1 : List Loc), t.heap = H1 → s.vm.Alike t.vm → px u → BX E u t → H.size ≤ H1.size → (∀ q : Nat, q < H.size → ¬ AX q → H1[q]? = H[q]?) → va_S A0 H0 H1 locs1 → H1[q9]? = some ce → ce.vm = .none → s.vm.findClass E = some ce.cls → vx_W p l e R s m args below meth c H1 locs1 (cells + mc) (slots + ms) Q (F0 m pc ls rest) q9)
    (kk : ∀ (r : Int32) (u : S) (t : State) (H1 : Heap) (locs1 : List Loc), t.heap = H1 → s.vm.Alike t.vm → post r u → B u t → H.size ≤ H1.size → (∀ q : Nat, q < H.size → ¬ A1 q → H1[q]? = H[q]?) → va_S A0 H0 H1 locs1 → W p l e R s m args below meth c H1 locs1 (cells + mc) (slots + ms) Q (F0 m (pc + 5) ls (.int r :: rest))) : W p l e R s m args below meth c H locs cells slots Q (F0 m pc ls st0) := by
  intro T hT X
  rcases hr T hT X with ⟨v, st₀, t, T', L, h0, X', hL, e1, e2, ⟨⟨r, u, hv, hp, hb⟩, hF⟩, st⟩ | ⟨q, st₀, t, T', L, E, ce, h0, X', hL, e1, e2, ⟨u, hp, hb, hF⟩, hce, hcv, hcl, st⟩
  · cases hv
    obtain ⟨k1, k2, k3⟩ := vx_keep h0 e1 hS hA hf hL hF
    obtain ⟨t2, a1, b1⟩ := kk r u t T'.heap (locs ++ L) e1.symm (by rw [← e2]; exact X'.warmed.alike) hp hb k1 k2 k3 T' rfl X'
    exact ⟨t2, st t2 a1, b1⟩
  · obtain ⟨k1, k2, k3⟩ := vx_keep h0 e1 hS hAX hf hL hF
    obtain ⟨t2, a1, b1⟩ := kx E ce q u t T'.heap (locs ++ L) e1.symm (by rw [← e2]; exact X'.warmed.alike) hp hb k1 k2 k3 (by rw [e1]; exact hce) hcv hcl T' rfl X'
    exact ⟨t2, st.trans a1, b1⟩
theorem vx_callFl {S SX : Type} {post : Int64 → S → Prop} {px : SX → Prop} {B : S → State → Prop} {BX : String → SX → State → Prop} {AX : Nat → Prop} (hr : vx_Run5 p l e R s m args below meth c H locs cells slots mc ms (F0 m pc ls st0) rest (va_Ql post B A1 a) (vx_X px BX AX) free) (hS : va_S A0 H0 H locs) (hA : ∀ q, q < H.size → A1 q → A0 q) (hf : ∀ q, free q → A0 q) (hAX : ∀ q, q < H.size → AX q → A0 q)
    (kx : ∀ (E : String) (ce : Cell) (q9 : Addr) (u : SX) (t : State) (H1 : Heap) (locs1 : List Loc), t.heap = H1 → s.vm.Alike t.vm → px u → BX E u t → H.size ≤ H1.size → (∀ q : Nat, q < H.size → ¬ AX q → H1[q]? = H[q]?) → va_S A0 H0 H1 locs1 → H1[q9]? = some ce → ce.vm = .none → s.vm.findClass E = some ce.cls → vx_W p l e R s m args below meth c H1 locs1 (cells + mc) (slots + ms) Q (F0 m pc ls rest) q9)
    (kk : ∀ (r : Int64) (u : S) (t : State) (H1 : Heap) (locs1 : List Loc), t.heap = H1 → s.vm.Alike t.vm → post r u → B u t → H.size ≤ H1.size → (∀ q : Nat, q < H.size → ¬ A1 q → H1[q]? = H[q]?) → va_S A0 H0 H1 locs1 → W p l e R s m args below meth c H1 locs1 (cells + mc) (slots + ms) Q (F0 m (pc + 5) ls (.long r :: rest))) : W p l e R s m args below meth c H locs cells slots Q (F0 m pc ls st0) := by
  intro T hT X
  rcases hr T hT X with ⟨v, st₀, t, T', L, h0, X', hL, e1, e2, ⟨⟨r, u, hv, hp, hb⟩, hF⟩, st⟩ | ⟨q, st₀, t, T', L, E, ce, h0, X', hL, e1, e2, ⟨u, hp, hb, hF⟩, hce, hcv, hcl, st⟩
  · cases hv
    obtain ⟨k1, k2, k3⟩ := vx_keep h0 e1 hS hA hf hL hF
    obtain ⟨t2, a1, b1⟩ := kk r u t T'.heap (locs ++ L) e1.symm (by rw [← e2]; exact X'.warmed.alike) hp hb k1 k2 k3 T' rfl X'
    exact ⟨t2, st t2 a1, b1⟩
  · obtain ⟨k1, k2, k3⟩ := vx_keep h0 e1 hS hAX hf hL hF
    obtain ⟨t2, a1, b1⟩ := kx E ce q u t T'.heap (locs ++ L) e1.symm (by rw [← e2]; exact X'.warmed.alike) hp hb k1 k2 k3 (by rw [e1]; exact hce) hcv hcl T' rfl X'
    exact ⟨t2, st.trans a1, b1⟩
theorem vx_callFf {S SX : Type} {post : UInt32 → S → Prop} {px : SX → Prop} {B : S → State → Prop} {BX : String → SX → State → Prop} {AX : Nat → Prop} (hr : vx_Run5 p l e R s m args below meth c H locs cells slots mc ms (F0 m pc ls st0) rest (va_Qf post B A1 a) (vx_X px BX AX) free) (hS : va_S A0 H0 H locs) (hA : ∀ q, q < H.size → A1 q → A0 q) (hf : ∀ q, free q → A0 q) (hAX : ∀ q, q < H.size → AX q → A0 q)
    (kx : ∀ (E : String) (ce : Cell) (q9 : Addr) (u : SX) (t : State) (H1 : Heap) (locs1 : List Loc), t.heap = H1 → s.vm.Alike t.vm → px u → BX E u t → H.size ≤ H1.size → (∀ q : Nat, q < H.size → ¬ AX q → H1[q]? = H[q]?) → va_S A0 H0 H1 locs1 → H1[q9]? = some ce → ce.vm = .none → s.vm.findClass E = some ce.cls → vx_W p l e R s m args below meth c H1 locs1 (cells + mc) (slots + ms) Q (F0 m pc ls rest) q9)
    (kk : ∀ (r : UInt32) (u : S) (t : State) (H1 : Heap) (locs1 : List Loc), t.heap = H1 → s.vm.Alike t.vm → post r u → B u t → H.size ≤ H1.size → (∀ q : Nat, q < H.size → ¬ A1 q → H1[q]? = H[q]?) → va_S A0 H0 H1 locs1 → W p l e R s m args below meth c H1 locs1 (cells + mc) (slots + ms) Q (F0 m (pc + 5) ls (.float r :: rest))) : W p l e R s m args below meth c H locs cells slots Q (F0 m pc ls st0) := by
  intro T hT X
  rcases hr T hT X with ⟨v, st₀, t, T', L, h0, X', hL, e1, e2, ⟨⟨r, u, hv, hp, hb⟩, hF⟩, st⟩ | ⟨q, st₀, t, T', L, E, ce, h0, X', hL, e1, e2, ⟨u, hp, hb, hF⟩, hce, hcv, hcl, st⟩
  · cases hv
    obtain ⟨k1, k2, k3⟩ := vx_keep h0 e1 hS hA hf hL hF
    obtain ⟨t2, a1, b1⟩ := kk r u t T'.heap (locs ++ L) e1.symm (by rw [← e2]; exact X'.warmed.alike) hp hb k1 k2 k3 T' rfl X'
    exact ⟨t2, st t2 a1, b1⟩
  · obtain ⟨k1, k2, k3⟩ := vx_keep h0 e1 hS hAX hf hL hF
    obtain ⟨t2, a1, b1⟩ := kx E ce q u t T'.heap (locs ++ L) e1.symm (by rw [← e2]; exact X'.warmed.alike) hp hb k1 k2 k3 (by rw [e1]; exact hce) hcv hcl T' rfl X'
    exact ⟨t2, st.trans a1, b1⟩
theorem vx_callFd {S SX : Type} {post : UInt64 → S → Prop} {px : SX → Prop} {B : S → State → Prop} {BX : String → SX → State → Prop} {AX : Nat → Prop} (hr : vx_Run5 p l e R s m args below meth c H locs cells slots mc ms (F0 m pc ls st0) rest (va_Qd post B A1 a) (vx_X px BX AX) free) (hS : va_S A0 H0 H locs) (hA : ∀ q, q < H.size → A1 q → A0 q) (hf : ∀ q, free q → A0 q) (hAX : ∀ q, q < H.size → AX q → A0 q)
    (kx : ∀ (E : String) (ce : Cell) (q9 : Addr) (u : SX) (t : State) (H1 : Heap) (locs1 : List Loc), t.heap = H1 → s.vm.Alike t.vm → px u → BX E u t → H.size ≤ H1.size → (∀ q : Nat, q < H.size → ¬ AX q → H1[q]? = H[q]?) → va_S A0 H0 H1 locs1 → H1[q9]? = some ce → ce.vm = .none → s.vm.findClass E = some ce.cls → vx_W p l e R s m args below meth c H1 locs1 (cells + mc) (slots + ms) Q (F0 m pc ls rest) q9)
    (kk : ∀ (r : UInt64) (u : S) (t : State) (H1 : Heap) (locs1 : List Loc), t.heap = H1 → s.vm.Alike t.vm → post r u → B u t → H.size ≤ H1.size → (∀ q : Nat, q < H.size → ¬ A1 q → H1[q]? = H[q]?) → va_S A0 H0 H1 locs1 → W p l e R s m args below meth c H1 locs1 (cells + mc) (slots + ms) Q (F0 m (pc + 5) ls (.double r :: rest))) : W p l e R s m args below meth c H locs cells slots Q (F0 m pc ls st0) := by
  intro T hT X
  rcases hr T hT X with ⟨v, st₀, t, T', L, h0, X', hL, e1, e2, ⟨⟨r, u, hv, hp, hb⟩, hF⟩, st⟩ | ⟨q, st₀, t, T', L, E, ce, h0, X', hL, e1, e2, ⟨u, hp, hb, hF⟩, hce, hcv, hcl, st⟩
  · cases hv
    obtain ⟨k1, k2, k3⟩ := vx_keep h0 e1 hS hA hf hL hF
    obtain ⟨t2, a1, b1⟩ := kk r u t T'.heap (locs ++ L) e1.symm (by rw [← e2]; exact X'.warmed.alike) hp hb k1 k2 k3 T' rfl X'
    exact ⟨t2, st t2 a1, b1⟩
  · obtain ⟨k1, k2, k3⟩ := vx_keep h0 e1 hS hAX hf hL hF
    obtain ⟨t2, a1, b1⟩ := kx E ce q u t T'.heap (locs ++ L) e1.symm (by rw [← e2]; exact X'.warmed.alike) hp hb k1 k2 k3 (by rw [e1]; exact hce) hcv hcl T' rfl X'
    exact ⟨t2, st.trans a1, b1⟩
end
/-! ===== END ===== -/
end
section
-- ===== PART A: goes FIRST, ahead of the names: the tables' words, and 'selects' of the private methods out of them =====
/-- a private method of a class that the tables say can be made, by its rows of tables_1 -/
def lw_okq (q : MethodName × Nat) : Prop := (q.1.cls ≠ "java/lang/invoke/MethodHandle" ∧ q.1.cls ≠ "java/lang/invoke/VarHandle") ∧ Cond.instantiable q.1.cls q.2 ∈ tables_1 ∧ Cond.privateMethod q.1 ∈ tables_1 ∧ Cond.instanceMethod q.1 ∈ tables_1
theorem lw_p0 : lw_okq (⟨"EchoBureau", "countCertified", "()I"⟩, 8) := ⟨⟨by decide +kernel, by decide +kernel⟩, List.mem_of_getElem? (i := 18) (by decide +kernel), List.mem_of_getElem? (i := 116) (by decide +kernel), List.mem_of_getElem? (i := 117) (by decide +kernel)⟩
theorem lw_p1 : lw_okq (⟨"EchoBureau$Hall", "hasCertificate", "()Z"⟩, 6) := ⟨⟨by decide +kernel, by decide +kernel⟩, List.mem_of_getElem? (i := 122) (by decide +kernel), List.mem_of_getElem? (i := 120) (by decide +kernel), List.mem_of_getElem? (i := 121) (by decide +kernel)⟩
theorem lw_p2 : lw_okq (⟨"EchoBureau$Surface", "hardnessUnder", "(I)I"⟩, 2) := ⟨⟨by decide +kernel, by decide +kernel⟩, List.mem_of_getElem? (i := 143) (by decide +kernel), List.mem_of_getElem? (i := 141) (by decide +kernel), List.mem_of_getElem? (i := 142) (by decide +kernel)⟩
theorem lw_p3 : lw_okq (⟨"EchoBureau", "mixEchoes", "(JLEchoBureau$Hall;)J"⟩, 8) := ⟨⟨by decide +kernel, by decide +kernel⟩, List.mem_of_getElem? (i := 18) (by decide +kernel), List.mem_of_getElem? (i := 149) (by decide +kernel), List.mem_of_getElem? (i := 150) (by decide +kernel)⟩
theorem lw_p4 : lw_okq (⟨"EchoBureau", "tallyOf", "(LEchoBureau$Hall;II)LEchoBureau$Tally;"⟩, 8) := ⟨⟨by decide +kernel, by decide +kernel⟩, List.mem_of_getElem? (i := 18) (by decide +kernel), List.mem_of_getElem? (i := 153) (by decide +kernel), List.mem_of_getElem? (i := 154) (by decide +kernel)⟩
theorem lw_p5 : lw_okq (⟨"EchoBureau$Tally", "begin", "(I)V"⟩, 5) := ⟨⟨by decide +kernel, by decide +kernel⟩, List.mem_of_getElem? (i := 30) (by decide +kernel), List.mem_of_getElem? (i := 157) (by decide +kernel), List.mem_of_getElem? (i := 158) (by decide +kernel)⟩
theorem lw_p6 : lw_okq (⟨"EchoBureau$Hall", "throwBack", "(IIILEchoBureau$Listener;)V"⟩, 6) := ⟨⟨by decide +kernel, by decide +kernel⟩, List.mem_of_getElem? (i := 122) (by decide +kernel), List.mem_of_getElem? (i := 161) (by decide +kernel), List.mem_of_getElem? (i := 162) (by decide +kernel)⟩
theorem lw_p7 : lw_okq (⟨"EchoBureau$Surface", "throwRow", "(IIILEchoBureau$Listener;)V"⟩, 2) := ⟨⟨by decide +kernel, by decide +kernel⟩, List.mem_of_getElem? (i := 143) (by decide +kernel), List.mem_of_getElem? (i := 165) (by decide +kernel), List.mem_of_getElem? (i := 166) (by decide +kernel)⟩
theorem lw_p8 : lw_okq (⟨"EchoBureau", "loudnessesOf", "(LEchoBureau$Hall;I)LEchoBureau$Loudnesses;"⟩, 8) := ⟨⟨by decide +kernel, by decide +kernel⟩, List.mem_of_getElem? (i := 18) (by decide +kernel), List.mem_of_getElem? (i := 186) (by decide +kernel), List.mem_of_getElem? (i := 187) (by decide +kernel)⟩
theorem lw_p9 : lw_okq (⟨"EchoBureau$Loudnesses", "begin", "()V"⟩, 1) := ⟨⟨by decide +kernel, by decide +kernel⟩, List.mem_of_getElem? (i := 60) (by decide +kernel), List.mem_of_getElem? (i := 190) (by decide +kernel), List.mem_of_getElem? (i := 191) (by decide +kernel)⟩
theorem lw_p10 : lw_okq (⟨"EchoBureau$Loudnesses", "momentOfMost", "()I"⟩, 1) := ⟨⟨by decide +kernel, by decide +kernel⟩, List.mem_of_getElem? (i := 60) (by decide +kernel), List.mem_of_getElem? (i := 197) (by decide +kernel), List.mem_of_getElem? (i := 198) (by decide +kernel)⟩
theorem lw_p11 : lw_okq (⟨"EchoBureau", "meetsNow", "(LEchoBureau$Hall;LEchoBureau$Standard;)Z"⟩, 8) := ⟨⟨by decide +kernel, by decide +kernel⟩, List.mem_of_getElem? (i := 18) (by decide +kernel), List.mem_of_getElem? (i := 201) (by decide +kernel), List.mem_of_getElem? (i := 202) (by decide +kernel)⟩
theorem lw_p12 : lw_okq (⟨"EchoBureau", "wouldMeet", "(LEchoBureau$Hall;LEchoBureau$Standard;II)Z"⟩, 8) := ⟨⟨by decide +kernel, by decide +kernel⟩, List.mem_of_getElem? (i := 18) (by decide +kernel), List.mem_of_getElem? (i := 205) (by decide +kernel), List.mem_of_getElem? (i := 206) (by decide +kernel)⟩
theorem lw_p13 : lw_okq (⟨"EchoBureau$Standard", "allows", "(LEchoBureau$Tally;)Z"⟩, 5) := ⟨⟨by decide +kernel, by decide +kernel⟩, List.mem_of_getElem? (i := 211) (by decide +kernel), List.mem_of_getElem? (i := 209) (by decide +kernel), List.mem_of_getElem? (i := 210) (by decide +kernel)⟩
theorem lw_p14 : lw_okq (⟨"java/lang/Throwable", "fillInStackTrace", "(I)Ljava/lang/Throwable;"⟩, 6) := ⟨⟨by decide +kernel, by decide +kernel⟩, List.mem_of_getElem? (i := 267) (by decide +kernel), List.mem_of_getElem? (i := 265) (by decide +kernel), List.mem_of_getElem? (i := 266) (by decide +kernel)⟩
theorem lw_p15 : lw_okq (⟨"EchoBureau", "findHall", "(I)LEchoBureau$Hall;"⟩, 8) := ⟨⟨by decide +kernel, by decide +kernel⟩, List.mem_of_getElem? (i := 18) (by decide +kernel), List.mem_of_getElem? (i := 352) (by decide +kernel), List.mem_of_getElem? (i := 353) (by decide +kernel)⟩
def lw_privs_1 : List (MethodName × Nat) := [(⟨"EchoBureau", "countCertified", "()I"⟩, 8), (⟨"EchoBureau$Hall", "hasCertificate", "()Z"⟩, 6), (⟨"EchoBureau$Surface", "hardnessUnder", "(I)I"⟩, 2), (⟨"EchoBureau", "mixEchoes", "(JLEchoBureau$Hall;)J"⟩, 8), (⟨"EchoBureau", "tallyOf", "(LEchoBureau$Hall;II)LEchoBureau$Tally;"⟩, 8), (⟨"EchoBureau$Tally", "begin", "(I)V"⟩, 5), (⟨"EchoBureau$Hall", "throwBack", "(IIILEchoBureau$Listener;)V"⟩, 6), (⟨"EchoBureau$Surface", "throwRow", "(IIILEchoBureau$Listener;)V"⟩, 2), (⟨"EchoBureau", "loudnessesOf", "(LEchoBureau$Hall;I)LEchoBureau$Loudnesses;"⟩, 8), (⟨"EchoBureau$Loudnesses", "begin", "()V"⟩, 1), (⟨"EchoBureau$Loudnesses", "momentOfMost", "()I"⟩, 1), (⟨"EchoBureau", "meetsNow", "(LEchoBureau$Hall;LEchoBureau$Standard;)Z"⟩, 8), (⟨"EchoBureau", "wouldMeet", "(LEchoBureau$Hall;LEchoBureau$Standard;II)Z"⟩, 8), (⟨"EchoBureau$Standard", "allows", "(LEchoBureau$Tally;)Z"⟩, 5), (⟨"java/lang/Throwable", "fillInStackTrace", "(I)Ljava/lang/Throwable;"⟩, 6), (⟨"EchoBureau", "findHall", "(I)LEchoBureau$Hall;"⟩, 8)]
theorem lw_r1 : ∀ q ∈ lw_privs_1, lw_okq q := List.forall_mem_cons.mpr ⟨lw_p0, List.forall_mem_cons.mpr ⟨lw_p1, List.forall_mem_cons.mpr ⟨lw_p2, List.forall_mem_cons.mpr ⟨lw_p3, List.forall_mem_cons.mpr ⟨lw_p4, List.forall_mem_cons.mpr ⟨lw_p5, List.forall_mem_cons.mpr ⟨lw_p6, List.forall_mem_cons.mpr ⟨lw_p7, List.forall_mem_cons.mpr ⟨lw_p8, List.forall_mem_cons.mpr ⟨lw_p9, List.forall_mem_cons.mpr ⟨lw_p10, List.forall_mem_cons.mpr ⟨lw_p11, List.forall_mem_cons.mpr ⟨lw_p12, List.forall_mem_cons.mpr ⟨lw_p13, List.forall_mem_cons.mpr ⟨lw_p14, List.forall_mem_cons.mpr ⟨lw_p15, fun _ h => absurd h List.not_mem_nil⟩⟩⟩⟩⟩⟩⟩⟩⟩⟩⟩⟩⟩⟩⟩⟩
theorem lw_p16 : lw_okq (⟨"EchoBureau$Hall", "isFull", "()Z"⟩, 6) := ⟨⟨by decide +kernel, by decide +kernel⟩, List.mem_of_getElem? (i := 122) (by decide +kernel), List.mem_of_getElem? (i := 378) (by decide +kernel), List.mem_of_getElem? (i := 379) (by decide +kernel)⟩
theorem lw_p17 : lw_okq (⟨"EchoBureau$Hall", "loseCertificate", "()V"⟩, 6) := ⟨⟨by decide +kernel, by decide +kernel⟩, List.mem_of_getElem? (i := 122) (by decide +kernel), List.mem_of_getElem? (i := 383) (by decide +kernel), List.mem_of_getElem? (i := 384) (by decide +kernel)⟩
theorem lw_p18 : lw_okq (⟨"EchoBureau$Hall", "build", "(LEchoBureau$Surface;)I"⟩, 6) := ⟨⟨by decide +kernel, by decide +kernel⟩, List.mem_of_getElem? (i := 122) (by decide +kernel), List.mem_of_getElem? (i := 400) (by decide +kernel), List.mem_of_getElem? (i := 401) (by decide +kernel)⟩
theorem lw_p19 : lw_okq (⟨"EchoBureau", "findStandard", "(I)LEchoBureau$Standard;"⟩, 8) := ⟨⟨by decide +kernel, by decide +kernel⟩, List.mem_of_getElem? (i := 18) (by decide +kernel), List.mem_of_getElem? (i := 468) (by decide +kernel), List.mem_of_getElem? (i := 469) (by decide +kernel)⟩
theorem lw_p20 : lw_okq (⟨"EchoBureau$Hall", "takeCertificate", "(II)V"⟩, 6) := ⟨⟨by decide +kernel, by decide +kernel⟩, List.mem_of_getElem? (i := 122) (by decide +kernel), List.mem_of_getElem? (i := 474) (by decide +kernel), List.mem_of_getElem? (i := 475) (by decide +kernel)⟩
theorem lw_p21 : lw_okq (⟨"EchoBureau$Hall", "growOlder", "(I)V"⟩, 6) := ⟨⟨by decide +kernel, by decide +kernel⟩, List.mem_of_getElem? (i := 122) (by decide +kernel), List.mem_of_getElem? (i := 497) (by decide +kernel), List.mem_of_getElem? (i := 498) (by decide +kernel)⟩
theorem lw_p22 : lw_okq (⟨"EchoBureau$Hall", "dustBehind", "(I)I"⟩, 6) := ⟨⟨by decide +kernel, by decide +kernel⟩, List.mem_of_getElem? (i := 122) (by decide +kernel), List.mem_of_getElem? (i := 501) (by decide +kernel), List.mem_of_getElem? (i := 502) (by decide +kernel)⟩
theorem lw_p23 : lw_okq (⟨"EchoBureau", "tallyOfClick", "(II)LEchoBureau$Tally;"⟩, 8) := ⟨⟨by decide +kernel, by decide +kernel⟩, List.mem_of_getElem? (i := 18) (by decide +kernel), List.mem_of_getElem? (i := 551) (by decide +kernel), List.mem_of_getElem? (i := 552) (by decide +kernel)⟩
theorem lw_p24 : lw_okq (⟨"EchoBureau$Loudnesses", "addedAt", "(I)I"⟩, 1) := ⟨⟨by decide +kernel, by decide +kernel⟩, List.mem_of_getElem? (i := 60) (by decide +kernel), List.mem_of_getElem? (i := 588) (by decide +kernel), List.mem_of_getElem? (i := 589) (by decide +kernel)⟩
theorem lw_p25 : lw_okq (⟨"EchoBureauModel", "fail", "(I)I"⟩, 17) := ⟨⟨by decide +kernel, by decide +kernel⟩, List.mem_of_getElem? (i := 663) (by decide +kernel), List.mem_of_getElem? (i := 732) (by decide +kernel), List.mem_of_getElem? (i := 733) (by decide +kernel)⟩
theorem lw_p26 : lw_okq (⟨"EchoBureauModel", "isHall", "(I)Z"⟩, 17) := ⟨⟨by decide +kernel, by decide +kernel⟩, List.mem_of_getElem? (i := 663) (by decide +kernel), List.mem_of_getElem? (i := 740) (by decide +kernel), List.mem_of_getElem? (i := 741) (by decide +kernel)⟩
theorem lw_p27 : lw_okq (⟨"EchoBureauModel", "strike", "(I)V"⟩, 17) := ⟨⟨by decide +kernel, by decide +kernel⟩, List.mem_of_getElem? (i := 663) (by decide +kernel), List.mem_of_getElem? (i := 744) (by decide +kernel), List.mem_of_getElem? (i := 745) (by decide +kernel)⟩
theorem lw_p28 : lw_okq (⟨"EchoBureauModel", "isSurface", "(II)Z"⟩, 17) := ⟨⟨by decide +kernel, by decide +kernel⟩, List.mem_of_getElem? (i := 663) (by decide +kernel), List.mem_of_getElem? (i := 752) (by decide +kernel), List.mem_of_getElem? (i := 753) (by decide +kernel)⟩
theorem lw_p29 : lw_okq (⟨"EchoBureauModel", "isPair", "(II)Z"⟩, 17) := ⟨⟨by decide +kernel, by decide +kernel⟩, List.mem_of_getElem? (i := 663) (by decide +kernel), List.mem_of_getElem? (i := 775) (by decide +kernel), List.mem_of_getElem? (i := 776) (by decide +kernel)⟩
theorem lw_p30 : lw_okq (⟨"EchoBureauModel", "isStandard", "(I)Z"⟩, 17) := ⟨⟨by decide +kernel, by decide +kernel⟩, List.mem_of_getElem? (i := 663) (by decide +kernel), List.mem_of_getElem? (i := 779) (by decide +kernel), List.mem_of_getElem? (i := 780) (by decide +kernel)⟩
theorem lw_p31 : lw_okq (⟨"EchoBureauModel", "meetsNow", "(II)Z"⟩, 17) := ⟨⟨by decide +kernel, by decide +kernel⟩, List.mem_of_getElem? (i := 663) (by decide +kernel), List.mem_of_getElem? (i := 783) (by decide +kernel), List.mem_of_getElem? (i := 784) (by decide +kernel)⟩
def lw_privs_2 : List (MethodName × Nat) := [(⟨"EchoBureau$Hall", "isFull", "()Z"⟩, 6), (⟨"EchoBureau$Hall", "loseCertificate", "()V"⟩, 6), (⟨"EchoBureau$Hall", "build", "(LEchoBureau$Surface;)I"⟩, 6), (⟨"EchoBureau", "findStandard", "(I)LEchoBureau$Standard;"⟩, 8), (⟨"EchoBureau$Hall", "takeCertificate", "(II)V"⟩, 6), (⟨"EchoBureau$Hall", "growOlder", "(I)V"⟩, 6), (⟨"EchoBureau$Hall", "dustBehind", "(I)I"⟩, 6), (⟨"EchoBureau", "tallyOfClick", "(II)LEchoBureau$Tally;"⟩, 8), (⟨"EchoBureau$Loudnesses", "addedAt", "(I)I"⟩, 1), (⟨"EchoBureauModel", "fail", "(I)I"⟩, 17), (⟨"EchoBureauModel", "isHall", "(I)Z"⟩, 17), (⟨"EchoBureauModel", "strike", "(I)V"⟩, 17), (⟨"EchoBureauModel", "isSurface", "(II)Z"⟩, 17), (⟨"EchoBureauModel", "isPair", "(II)Z"⟩, 17), (⟨"EchoBureauModel", "isStandard", "(I)Z"⟩, 17), (⟨"EchoBureauModel", "meetsNow", "(II)Z"⟩, 17)]
theorem lw_r2 : ∀ q ∈ lw_privs_2, lw_okq q := List.forall_mem_cons.mpr ⟨lw_p16, List.forall_mem_cons.mpr ⟨lw_p17, List.forall_mem_cons.mpr ⟨lw_p18, List.forall_mem_cons.mpr ⟨lw_p19, List.forall_mem_cons.mpr ⟨lw_p20, List.forall_mem_cons.mpr ⟨lw_p21, List.forall_mem_cons.mpr ⟨lw_p22, List.forall_mem_cons.mpr ⟨lw_p23, List.forall_mem_cons.mpr ⟨lw_p24, List.forall_mem_cons.mpr ⟨lw_p25, List.forall_mem_cons.mpr ⟨lw_p26, List.forall_mem_cons.mpr ⟨lw_p27, List.forall_mem_cons.mpr ⟨lw_p28, List.forall_mem_cons.mpr ⟨lw_p29, List.forall_mem_cons.mpr ⟨lw_p30, List.forall_mem_cons.mpr ⟨lw_p31, fun _ h => absurd h List.not_mem_nil⟩⟩⟩⟩⟩⟩⟩⟩⟩⟩⟩⟩⟩⟩⟩⟩
theorem lw_p32 : lw_okq (⟨"EchoBureauModel", "meets", "(IIII)Z"⟩, 17) := ⟨⟨by decide +kernel, by decide +kernel⟩, List.mem_of_getElem? (i := 663) (by decide +kernel), List.mem_of_getElem? (i := 787) (by decide +kernel), List.mem_of_getElem? (i := 788) (by decide +kernel)⟩
theorem lw_p33 : lw_okq (⟨"EchoBureauModel", "click", "(IIII)V"⟩, 17) := ⟨⟨by decide +kernel, by decide +kernel⟩, List.mem_of_getElem? (i := 663) (by decide +kernel), List.mem_of_getElem? (i := 791) (by decide +kernel), List.mem_of_getElem? (i := 792) (by decide +kernel)⟩
theorem lw_p34 : lw_okq (⟨"EchoBureauModel", "hard", "(III)I"⟩, 17) := ⟨⟨by decide +kernel, by decide +kernel⟩, List.mem_of_getElem? (i := 663) (by decide +kernel), List.mem_of_getElem? (i := 795) (by decide +kernel), List.mem_of_getElem? (i := 796) (by decide +kernel)⟩
theorem lw_p35 : lw_okq (⟨"EchoBureauModel", "all", "()I"⟩, 17) := ⟨⟨by decide +kernel, by decide +kernel⟩, List.mem_of_getElem? (i := 663) (by decide +kernel), List.mem_of_getElem? (i := 800) (by decide +kernel), List.mem_of_getElem? (i := 801) (by decide +kernel)⟩
theorem lw_p36 : lw_okq (⟨"EchoBureauModel", "first", "()I"⟩, 17) := ⟨⟨by decide +kernel, by decide +kernel⟩, List.mem_of_getElem? (i := 663) (by decide +kernel), List.mem_of_getElem? (i := 804) (by decide +kernel), List.mem_of_getElem? (i := 805) (by decide +kernel)⟩
theorem lw_p37 : lw_okq (⟨"EchoBureauModel", "rule", "(II)I"⟩, 17) := ⟨⟨by decide +kernel, by decide +kernel⟩, List.mem_of_getElem? (i := 663) (by decide +kernel), List.mem_of_getElem? (i := 808) (by decide +kernel), List.mem_of_getElem? (i := 809) (by decide +kernel)⟩
theorem lw_p38 : lw_okq (⟨"EchoBureauModel", "last", "()I"⟩, 17) := ⟨⟨by decide +kernel, by decide +kernel⟩, List.mem_of_getElem? (i := 663) (by decide +kernel), List.mem_of_getElem? (i := 812) (by decide +kernel), List.mem_of_getElem? (i := 813) (by decide +kernel)⟩
theorem lw_p39 : lw_okq (⟨"EchoBureauModel", "louder", "(I)I"⟩, 17) := ⟨⟨by decide +kernel, by decide +kernel⟩, List.mem_of_getElem? (i := 663) (by decide +kernel), List.mem_of_getElem? (i := 816) (by decide +kernel), List.mem_of_getElem? (i := 817) (by decide +kernel)⟩
theorem lw_p40 : lw_okq (⟨"EchoBureauModel", "certified", "()I"⟩, 17) := ⟨⟨by decide +kernel, by decide +kernel⟩, List.mem_of_getElem? (i := 663) (by decide +kernel), List.mem_of_getElem? (i := 829) (by decide +kernel), List.mem_of_getElem? (i := 830) (by decide +kernel)⟩
theorem lw_p41 : lw_okq (⟨"EchoBureauModel", "isClick", "(IIZ)Z"⟩, 17) := ⟨⟨by decide +kernel, by decide +kernel⟩, List.mem_of_getElem? (i := 663) (by decide +kernel), List.mem_of_getElem? (i := 857) (by decide +kernel), List.mem_of_getElem? (i := 858) (by decide +kernel)⟩
theorem lw_p42 : lw_okq (⟨"EchoBureauModel", "clickNow", "(II)V"⟩, 17) := ⟨⟨by decide +kernel, by decide +kernel⟩, List.mem_of_getElem? (i := 663) (by decide +kernel), List.mem_of_getElem? (i := 861) (by decide +kernel), List.mem_of_getElem? (i := 862) (by decide +kernel)⟩
theorem lw_p43 : lw_okq (⟨"EchoBureauModel", "at", "(I)I"⟩, 17) := ⟨⟨by decide +kernel, by decide +kernel⟩, List.mem_of_getElem? (i := 663) (by decide +kernel), List.mem_of_getElem? (i := 881) (by decide +kernel), List.mem_of_getElem? (i := 882) (by decide +kernel)⟩
theorem lw_p44 : lw_okq (⟨"EchoBureauModel", "loudest", "()I"⟩, 17) := ⟨⟨by decide +kernel, by decide +kernel⟩, List.mem_of_getElem? (i := 663) (by decide +kernel), List.mem_of_getElem? (i := 889) (by decide +kernel), List.mem_of_getElem? (i := 890) (by decide +kernel)⟩
theorem lw_p45 : lw_okq (⟨"EchoBureauModel", "failed", "(I)Z"⟩, 17) := ⟨⟨by decide +kernel, by decide +kernel⟩, List.mem_of_getElem? (i := 663) (by decide +kernel), List.mem_of_getElem? (i := 905) (by decide +kernel), List.mem_of_getElem? (i := 906) (by decide +kernel)⟩
theorem lw_p46 : lw_okq (⟨"EchoBureauModel", "least", "(II)I"⟩, 17) := ⟨⟨by decide +kernel, by decide +kernel⟩, List.mem_of_getElem? (i := 663) (by decide +kernel), List.mem_of_getElem? (i := 945) (by decide +kernel), List.mem_of_getElem? (i := 946) (by decide +kernel)⟩
def lw_privs_3 : List (MethodName × Nat) := [(⟨"EchoBureauModel", "meets", "(IIII)Z"⟩, 17), (⟨"EchoBureauModel", "click", "(IIII)V"⟩, 17), (⟨"EchoBureauModel", "hard", "(III)I"⟩, 17), (⟨"EchoBureauModel", "all", "()I"⟩, 17), (⟨"EchoBureauModel", "first", "()I"⟩, 17), (⟨"EchoBureauModel", "rule", "(II)I"⟩, 17), (⟨"EchoBureauModel", "last", "()I"⟩, 17), (⟨"EchoBureauModel", "louder", "(I)I"⟩, 17), (⟨"EchoBureauModel", "certified", "()I"⟩, 17), (⟨"EchoBureauModel", "isClick", "(IIZ)Z"⟩, 17), (⟨"EchoBureauModel", "clickNow", "(II)V"⟩, 17), (⟨"EchoBureauModel", "at", "(I)I"⟩, 17), (⟨"EchoBureauModel", "loudest", "()I"⟩, 17), (⟨"EchoBureauModel", "failed", "(I)Z"⟩, 17), (⟨"EchoBureauModel", "least", "(II)I"⟩, 17)]
theorem lw_r3 : ∀ q ∈ lw_privs_3, lw_okq q := List.forall_mem_cons.mpr ⟨lw_p32, List.forall_mem_cons.mpr ⟨lw_p33, List.forall_mem_cons.mpr ⟨lw_p34, List.forall_mem_cons.mpr ⟨lw_p35, List.forall_mem_cons.mpr ⟨lw_p36, List.forall_mem_cons.mpr ⟨lw_p37, List.forall_mem_cons.mpr ⟨lw_p38, List.forall_mem_cons.mpr ⟨lw_p39, List.forall_mem_cons.mpr ⟨lw_p40, List.forall_mem_cons.mpr ⟨lw_p41, List.forall_mem_cons.mpr ⟨lw_p42, List.forall_mem_cons.mpr ⟨lw_p43, List.forall_mem_cons.mpr ⟨lw_p44, List.forall_mem_cons.mpr ⟨lw_p45, List.forall_mem_cons.mpr ⟨lw_p46, fun _ h => absurd h List.not_mem_nil⟩⟩⟩⟩⟩⟩⟩⟩⟩⟩⟩⟩⟩⟩⟩
def lw_privs : List (MethodName × Nat) := lw_privs_1 ++ (lw_privs_2 ++ (lw_privs_3))
def lw_tbl : List Cond := k2_sels lw_privs ++ tables_1
theorem lw_privs_ok : ∀ q ∈ lw_privs, lw_okq q := by
  show ∀ q ∈ lw_privs_1 ++ (lw_privs_2 ++ (lw_privs_3)), lw_okq q
  exact List.forall_mem_append.mpr ⟨lw_r1, List.forall_mem_append.mpr ⟨lw_r2, lw_r3⟩⟩
/-- the streams that the claim lets the run draw from -/
abbrev lw_cs : List Choice := [Jvm.Choice.named "NaN.bits"]
theorem lw_bits : nanBits ∈ lw_cs := by first | decide | exact List.mem_cons_self | simp [lw_cs, nanBits]

def RX0 : String := "EchoBureau$Hall"
def TX0 : u_T := fun k => match k with
  | 0 => ("EchoBureau$Hall", "surfaces", "[LEchoBureau$Surface;", true)
  | 1 => ("EchoBureau$Hall", "surfaceCount", "I", false)
  | 2 => ("EchoBureau$Hall", "damping", "I", false)
  | 3 => ("EchoBureau$Hall", "dust", "I", false)
  | 4 => ("EchoBureau$Hall", "certificate", "I", false)
  | _ => ("EchoBureau$Hall", "certificateDays", "I", false)
def tyX0 : Nat → FieldType := fun k => match k with
  | 0 => .array (.object "EchoBureau$Surface")
  | 1 => .int
  | 2 => .int
  | 3 => .int
  | 4 => .int
  | _ => .int
theorem nmX0 : ∀ a, a < 6 → ∀ b, b < 6 → a ≠ b → (TX0 a).2.1 ≠ (TX0 b).2.1 := by decide +kernel
theorem tyX0_ok : ∀ k, k < 6 → parseFieldDescriptor (TX0 k).2.2.1 = some (tyX0 k) := by decide +kernel
abbrev cX0_init : ByteArray := prog_2_method_1_code
def yX0_init : MethodName := ⟨RX0, "<init>", "(I)V"⟩
abbrev cX0_isFull : ByteArray := prog_2_method_2_code
def yX0_isFull : MethodName := ⟨RX0, "isFull", "()Z"⟩
abbrev cX0_build : ByteArray := prog_2_method_3_code
def yX0_build : MethodName := ⟨RX0, "build", "(LEchoBureau$Surface;)I"⟩
abbrev cX0_hasCertificate : ByteArray := prog_2_method_4_code
def yX0_hasCertificate : MethodName := ⟨RX0, "hasCertificate", "()Z"⟩
abbrev cX0_takeCertificate : ByteArray := prog_2_method_5_code
def yX0_takeCertificate : MethodName := ⟨RX0, "takeCertificate", "(II)V"⟩
abbrev cX0_loseCertificate : ByteArray := prog_2_method_6_code
def yX0_loseCertificate : MethodName := ⟨RX0, "loseCertificate", "()V"⟩
abbrev cX0_dustBehind : ByteArray := prog_2_method_7_code
def yX0_dustBehind : MethodName := ⟨RX0, "dustBehind", "(I)I"⟩
abbrev cX0_growOlder : ByteArray := prog_2_method_8_code
def yX0_growOlder : MethodName := ⟨RX0, "growOlder", "(I)V"⟩
abbrev cX0_throwBack : ByteArray := prog_2_method_9_code
def yX0_throwBack : MethodName := ⟨RX0, "throwBack", "(IIILEchoBureau$Listener;)V"⟩
def RX1 : String := "EchoBureau$Listener"
def TX1 : u_T := fun k => match k with
  | _ => ("", "", "", false)
def tyX1 : Nat → FieldType := fun k => match k with
  | _ => .int
theorem nmX1 : ∀ a, a < 0 → ∀ b, b < 0 → a ≠ b → (TX1 a).2.1 ≠ (TX1 b).2.1 := by decide +kernel
theorem tyX1_ok : ∀ k, k < 0 → parseFieldDescriptor (TX1 k).2.2.1 = some (tyX1 k) := by decide +kernel
def RX2 : String := "EchoBureau$Loudnesses"
def TX2 : u_T := fun k => match k with
  | _ => ("EchoBureau$Loudnesses", "added", "[I", true)
def tyX2 : Nat → FieldType := fun k => match k with
  | _ => .array .int
theorem nmX2 : ∀ a, a < 1 → ∀ b, b < 1 → a ≠ b → (TX2 a).2.1 ≠ (TX2 b).2.1 := by decide +kernel
theorem tyX2_ok : ∀ k, k < 1 → parseFieldDescriptor (TX2 k).2.2.1 = some (tyX2 k) := by decide +kernel
abbrev cX2_init : ByteArray := prog_4_method_1_code
def yX2_init : MethodName := ⟨RX2, "<init>", "()V"⟩
abbrev cX2_begin : ByteArray := prog_4_method_2_code
def yX2_begin : MethodName := ⟨RX2, "begin", "()V"⟩
abbrev cX2_hear : ByteArray := prog_4_method_3_code
def yX2_hear : MethodName := ⟨RX2, "hear", "(II)V"⟩
abbrev cX2_addedAt : ByteArray := prog_4_method_4_code
def yX2_addedAt : MethodName := ⟨RX2, "addedAt", "(I)I"⟩
abbrev cX2_momentOfMost : ByteArray := prog_4_method_5_code
def yX2_momentOfMost : MethodName := ⟨RX2, "momentOfMost", "()I"⟩
def RX3 : String := "EchoBureau$Standard"
def TX3 : u_T := fun k => match k with
  | 0 => ("EchoBureau$Standard", "earliest", "I", true)
  | 1 => ("EchoBureau$Standard", "limit", "I", true)
  | 2 => ("EchoBureau$Standard", "most", "I", true)
  | 3 => ("EchoBureau$Standard", "latest", "I", true)
  | _ => ("EchoBureau$Standard", "days", "I", true)
def tyX3 : Nat → FieldType := fun k => match k with
  | 0 => .int
  | 1 => .int
  | 2 => .int
  | 3 => .int
  | _ => .int
theorem nmX3 : ∀ a, a < 5 → ∀ b, b < 5 → a ≠ b → (TX3 a).2.1 ≠ (TX3 b).2.1 := by decide +kernel
theorem tyX3_ok : ∀ k, k < 5 → parseFieldDescriptor (TX3 k).2.2.1 = some (tyX3 k) := by decide +kernel
abbrev cX3_init : ByteArray := prog_5_method_1_code
def yX3_init : MethodName := ⟨RX3, "<init>", "(IIIII)V"⟩
abbrev cX3_allows : ByteArray := prog_5_method_2_code
def yX3_allows : MethodName := ⟨RX3, "allows", "(LEchoBureau$Tally;)Z"⟩
def RX4 : String := "EchoBureau$Surface"
def TX4 : u_T := fun k => match k with
  | 0 => ("EchoBureau$Surface", "hardnessAsBuilt", "I", true)
  | _ => ("EchoBureau$Surface", "distance", "I", false)
def tyX4 : Nat → FieldType := fun k => match k with
  | 0 => .int
  | _ => .int
theorem nmX4 : ∀ a, a < 2 → ∀ b, b < 2 → a ≠ b → (TX4 a).2.1 ≠ (TX4 b).2.1 := by decide +kernel
theorem tyX4_ok : ∀ k, k < 2 → parseFieldDescriptor (TX4 k).2.2.1 = some (tyX4 k) := by decide +kernel
abbrev cX4_init : ByteArray := prog_6_method_1_code
def yX4_init : MethodName := ⟨RX4, "<init>", "(II)V"⟩
abbrev cX4_hardnessUnder : ByteArray := prog_6_method_2_code
def yX4_hardnessUnder : MethodName := ⟨RX4, "hardnessUnder", "(I)I"⟩
abbrev cX4_throwRow : ByteArray := prog_6_method_3_code
def yX4_throwRow : MethodName := ⟨RX4, "throwRow", "(IIILEchoBureau$Listener;)V"⟩
def RX5 : String := "EchoBureau$Tally"
def TX5 : u_T := fun k => match k with
  | 0 => ("EchoBureau$Tally", "limit", "I", false)
  | 1 => ("EchoBureau$Tally", "count", "I", false)
  | 2 => ("EchoBureau$Tally", "loudCount", "I", false)
  | 3 => ("EchoBureau$Tally", "first", "I", false)
  | _ => ("EchoBureau$Tally", "last", "I", false)
def tyX5 : Nat → FieldType := fun k => match k with
  | 0 => .int
  | 1 => .int
  | 2 => .int
  | 3 => .int
  | _ => .int
theorem nmX5 : ∀ a, a < 5 → ∀ b, b < 5 → a ≠ b → (TX5 a).2.1 ≠ (TX5 b).2.1 := by decide +kernel
theorem tyX5_ok : ∀ k, k < 5 → parseFieldDescriptor (TX5 k).2.2.1 = some (tyX5 k) := by decide +kernel
abbrev cX5_init : ByteArray := prog_7_method_1_code
def yX5_init : MethodName := ⟨RX5, "<init>", "()V"⟩
abbrev cX5_begin : ByteArray := prog_7_method_2_code
def yX5_begin : MethodName := ⟨RX5, "begin", "(I)V"⟩
abbrev cX5_hear : ByteArray := prog_7_method_3_code
def yX5_hear : MethodName := ⟨RX5, "hear", "(II)V"⟩
def RX6 : String := "EchoBureau"
def TX6 : u_T := fun k => match k with
  | 0 => ("EchoBureau", "hallRow", "[LEchoBureau$Hall;", true)
  | 1 => ("EchoBureau", "standardRow", "[LEchoBureau$Standard;", true)
  | 2 => ("EchoBureau", "hallCount", "I", false)
  | 3 => ("EchoBureau", "standardCount", "I", false)
  | 4 => ("EchoBureau", "today", "I", false)
  | 5 => ("EchoBureau", "inspectionCount", "I", false)
  | 6 => ("EchoBureau", "tally", "LEchoBureau$Tally;", true)
  | _ => ("EchoBureau", "loudnesses", "LEchoBureau$Loudnesses;", true)
def tyX6 : Nat → FieldType := fun k => match k with
  | 0 => .array (.object "EchoBureau$Hall")
  | 1 => .array (.object "EchoBureau$Standard")
  | 2 => .int
  | 3 => .int
  | 4 => .int
  | 5 => .int
  | 6 => .object "EchoBureau$Tally"
  | _ => .object "EchoBureau$Loudnesses"
theorem nmX6 : ∀ a, a < 8 → ∀ b, b < 8 → a ≠ b → (TX6 a).2.1 ≠ (TX6 b).2.1 := by decide +kernel
theorem tyX6_ok : ∀ k, k < 8 → parseFieldDescriptor (TX6 k).2.2.1 = some (tyX6 k) := by decide +kernel
abbrev cX6_init : ByteArray := prog_1_method_1_code
def yX6_init : MethodName := ⟨RX6, "<init>", "()V"⟩
abbrev cX6_addHall : ByteArray := prog_1_method_2_code
def yX6_addHall : MethodName := ⟨RX6, "addHall", "(I)I"⟩
abbrev cX6_addSurface : ByteArray := prog_1_method_3_code
def yX6_addSurface : MethodName := ⟨RX6, "addSurface", "(III)I"⟩
abbrev cX6_moveSurface : ByteArray := prog_1_method_4_code
def yX6_moveSurface : MethodName := ⟨RX6, "moveSurface", "(III)I"⟩
abbrev cX6_setDamping : ByteArray := prog_1_method_5_code
def yX6_setDamping : MethodName := ⟨RX6, "setDamping", "(II)I"⟩
abbrev cX6_clean : ByteArray := prog_1_method_6_code
def yX6_clean : MethodName := ⟨RX6, "clean", "(I)I"⟩
abbrev cX6_addStandard : ByteArray := prog_1_method_7_code
def yX6_addStandard : MethodName := ⟨RX6, "addStandard", "(IIIII)I"⟩
abbrev cX6_inspect : ByteArray := prog_1_method_8_code
def yX6_inspect : MethodName := ⟨RX6, "inspect", "(II)Z"⟩
abbrev cX6_revoke : ByteArray := prog_1_method_9_code
def yX6_revoke : MethodName := ⟨RX6, "revoke", "(I)I"⟩
abbrev cX6_passDays : ByteArray := prog_1_method_10_code
def yX6_passDays : MethodName := ⟨RX6, "passDays", "(I)I"⟩
abbrev cX6_surfacesOf : ByteArray := prog_1_method_11_code
def yX6_surfacesOf : MethodName := ⟨RX6, "surfacesOf", "(I)I"⟩
abbrev cX6_distanceOf : ByteArray := prog_1_method_12_code
def yX6_distanceOf : MethodName := ⟨RX6, "distanceOf", "(II)I"⟩
abbrev cX6_hardnessOf : ByteArray := prog_1_method_13_code
def yX6_hardnessOf : MethodName := ⟨RX6, "hardnessOf", "(II)I"⟩
abbrev cX6_dampingOf : ByteArray := prog_1_method_14_code
def yX6_dampingOf : MethodName := ⟨RX6, "dampingOf", "(I)I"⟩
abbrev cX6_dustOf : ByteArray := prog_1_method_15_code
def yX6_dustOf : MethodName := ⟨RX6, "dustOf", "(I)I"⟩
abbrev cX6_echoes : ByteArray := prog_1_method_16_code
def yX6_echoes : MethodName := ⟨RX6, "echoes", "(II)I"⟩
abbrev cX6_loudEchoes : ByteArray := prog_1_method_17_code
def yX6_loudEchoes : MethodName := ⟨RX6, "loudEchoes", "(III)I"⟩
abbrev cX6_firstEcho : ByteArray := prog_1_method_18_code
def yX6_firstEcho : MethodName := ⟨RX6, "firstEcho", "(II)I"⟩
abbrev cX6_lastEcho : ByteArray := prog_1_method_19_code
def yX6_lastEcho : MethodName := ⟨RX6, "lastEcho", "(II)I"⟩
abbrev cX6_loudnessAt : ByteArray := prog_1_method_20_code
def yX6_loudnessAt : MethodName := ⟨RX6, "loudnessAt", "(III)I"⟩
abbrev cX6_loudestMoment : ByteArray := prog_1_method_21_code
def yX6_loudestMoment : MethodName := ⟨RX6, "loudestMoment", "(II)I"⟩
abbrev cX6_meets : ByteArray := prog_1_method_22_code
def yX6_meets : MethodName := ⟨RX6, "meets", "(II)Z"⟩
abbrev cX6_hallsMeeting : ByteArray := prog_1_method_23_code
def yX6_hallsMeeting : MethodName := ⟨RX6, "hallsMeeting", "(I)I"⟩
abbrev cX6_isCertified : ByteArray := prog_1_method_24_code
def yX6_isCertified : MethodName := ⟨RX6, "isCertified", "(I)Z"⟩
abbrev cX6_certifiedBy : ByteArray := prog_1_method_25_code
def yX6_certifiedBy : MethodName := ⟨RX6, "certifiedBy", "(I)I"⟩
abbrev cX6_daysLeft : ByteArray := prog_1_method_26_code
def yX6_daysLeft : MethodName := ⟨RX6, "daysLeft", "(I)I"⟩
abbrev cX6_halls : ByteArray := prog_1_method_27_code
def yX6_halls : MethodName := ⟨RX6, "halls", "()I"⟩
abbrev cX6_standards : ByteArray := prog_1_method_28_code
def yX6_standards : MethodName := ⟨RX6, "standards", "()I"⟩
abbrev cX6_day : ByteArray := prog_1_method_29_code
def yX6_day : MethodName := ⟨RX6, "day", "()I"⟩
abbrev cX6_inspections : ByteArray := prog_1_method_30_code
def yX6_inspections : MethodName := ⟨RX6, "inspections", "()I"⟩
abbrev cX6_certifiedHalls : ByteArray := prog_1_method_31_code
def yX6_certifiedHalls : MethodName := ⟨RX6, "certifiedHalls", "()I"⟩
abbrev cX6_meetsWithDamping : ByteArray := prog_1_method_32_code
def yX6_meetsWithDamping : MethodName := ⟨RX6, "meetsWithDamping", "(III)Z"⟩
abbrev cX6_leastDamping : ByteArray := prog_1_method_33_code
def yX6_leastDamping : MethodName := ⟨RX6, "leastDamping", "(II)I"⟩
abbrev cX6_daysUntilMet : ByteArray := prog_1_method_34_code
def yX6_daysUntilMet : MethodName := ⟨RX6, "daysUntilMet", "(II)I"⟩
abbrev cX6_easiestHall : ByteArray := prog_1_method_35_code
def yX6_easiestHall : MethodName := ⟨RX6, "easiestHall", "(I)I"⟩
abbrev cX6_meanDamping : ByteArray := prog_1_method_36_code
def yX6_meanDamping : MethodName := ⟨RX6, "meanDamping", "()D"⟩
abbrev cX6_digest : ByteArray := prog_1_method_37_code
def yX6_digest : MethodName := ⟨RX6, "digest", "()J"⟩
abbrev cX6_mix : ByteArray := prog_1_method_38_code
def yX6_mix : MethodName := ⟨RX6, "mix", "(JI)J"⟩
abbrev cX6_mixHall : ByteArray := prog_1_method_39_code
def yX6_mixHall : MethodName := ⟨RX6, "mixHall", "(JLEchoBureau$Hall;)J"⟩
abbrev cX6_mixEchoes : ByteArray := prog_1_method_40_code
def yX6_mixEchoes : MethodName := ⟨RX6, "mixEchoes", "(JLEchoBureau$Hall;)J"⟩
abbrev cX6_isWithin : ByteArray := prog_1_method_41_code
def yX6_isWithin : MethodName := ⟨RX6, "isWithin", "(III)Z"⟩
abbrev cX6_checkDamping : ByteArray := prog_1_method_42_code
def yX6_checkDamping : MethodName := ⟨RX6, "checkDamping", "(I)V"⟩
abbrev cX6_checkDistance : ByteArray := prog_1_method_43_code
def yX6_checkDistance : MethodName := ⟨RX6, "checkDistance", "(I)V"⟩
abbrev cX6_checkLoudness : ByteArray := prog_1_method_44_code
def yX6_checkLoudness : MethodName := ⟨RX6, "checkLoudness", "(I)V"⟩
abbrev cX6_checkCertificate : ByteArray := prog_1_method_45_code
def yX6_checkCertificate : MethodName := ⟨RX6, "checkCertificate", "(LEchoBureau$Hall;)V"⟩
abbrev cX6_findHall : ByteArray := prog_1_method_46_code
def yX6_findHall : MethodName := ⟨RX6, "findHall", "(I)LEchoBureau$Hall;"⟩
abbrev cX6_findStandard : ByteArray := prog_1_method_47_code
def yX6_findStandard : MethodName := ⟨RX6, "findStandard", "(I)LEchoBureau$Standard;"⟩
abbrev cX6_findSurface : ByteArray := prog_1_method_48_code
def yX6_findSurface : MethodName := ⟨RX6, "findSurface", "(LEchoBureau$Hall;I)LEchoBureau$Surface;"⟩
abbrev cX6_countCertified : ByteArray := prog_1_method_49_code
def yX6_countCertified : MethodName := ⟨RX6, "countCertified", "()I"⟩
abbrev cX6_tallyOfClick : ByteArray := prog_1_method_50_code
def yX6_tallyOfClick : MethodName := ⟨RX6, "tallyOfClick", "(II)LEchoBureau$Tally;"⟩
abbrev cX6_tallyOf : ByteArray := prog_1_method_51_code
def yX6_tallyOf : MethodName := ⟨RX6, "tallyOf", "(LEchoBureau$Hall;II)LEchoBureau$Tally;"⟩
abbrev cX6_loudnessesOf : ByteArray := prog_1_method_52_code
def yX6_loudnessesOf : MethodName := ⟨RX6, "loudnessesOf", "(LEchoBureau$Hall;I)LEchoBureau$Loudnesses;"⟩
abbrev cX6_meetsNow : ByteArray := prog_1_method_53_code
def yX6_meetsNow : MethodName := ⟨RX6, "meetsNow", "(LEchoBureau$Hall;LEchoBureau$Standard;)Z"⟩
abbrev cX6_wouldMeet : ByteArray := prog_1_method_54_code
def yX6_wouldMeet : MethodName := ⟨RX6, "wouldMeet", "(LEchoBureau$Hall;LEchoBureau$Standard;II)Z"⟩
def RX7 : String := "EchoBureauModel"
def TX7 : u_T := fun k => match k with
  | 0 => ("EchoBureauModel", "thrown", "I", false)
  | 1 => ("EchoBureauModel", "halls", "I", false)
  | 2 => ("EchoBureauModel", "standards", "I", false)
  | 3 => ("EchoBureauModel", "day", "I", false)
  | 4 => ("EchoBureauModel", "inspections", "I", false)
  | 5 => ("EchoBureauModel", "surfaces", "[I", true)
  | 6 => ("EchoBureauModel", "damping", "[I", true)
  | 7 => ("EchoBureauModel", "dust", "[I", true)
  | 8 => ("EchoBureauModel", "certificate", "[I", true)
  | 9 => ("EchoBureauModel", "left", "[I", true)
  | 10 => ("EchoBureauModel", "distance", "[I", true)
  | 11 => ("EchoBureauModel", "hardness", "[I", true)
  | 12 => ("EchoBureauModel", "rules", "[I", true)
  | 13 => ("EchoBureauModel", "loud", "[I", true)
  | 14 => ("EchoBureauModel", "many", "[I", true)
  | 15 => ("EchoBureauModel", "apart", "[I", true)
  | _ => ("EchoBureauModel", "rows", "I", false)
def tyX7 : Nat → FieldType := fun k => match k with
  | 0 => .int
  | 1 => .int
  | 2 => .int
  | 3 => .int
  | 4 => .int
  | 5 => .array .int
  | 6 => .array .int
  | 7 => .array .int
  | 8 => .array .int
  | 9 => .array .int
  | 10 => .array .int
  | 11 => .array .int
  | 12 => .array .int
  | 13 => .array .int
  | 14 => .array .int
  | 15 => .array .int
  | _ => .int
theorem nmX7 : ∀ a, a < 17 → ∀ b, b < 17 → a ≠ b → (TX7 a).2.1 ≠ (TX7 b).2.1 := by decide +kernel
theorem tyX7_ok : ∀ k, k < 17 → parseFieldDescriptor (TX7 k).2.2.1 = some (tyX7 k) := by decide +kernel
abbrev cX7_init : ByteArray := prog_9_method_1_code
def yX7_init : MethodName := ⟨RX7, "<init>", "()V"⟩
abbrev cX7_thrown : ByteArray := prog_9_method_2_code
def yX7_thrown : MethodName := ⟨RX7, "thrown", "()I"⟩
abbrev cX7_fail : ByteArray := prog_9_method_3_code
def yX7_fail : MethodName := ⟨RX7, "fail", "(I)I"⟩
abbrev cX7_failed : ByteArray := prog_9_method_4_code
def yX7_failed : MethodName := ⟨RX7, "failed", "(I)Z"⟩
abbrev cX7_isIn : ByteArray := prog_9_method_5_code
def yX7_isIn : MethodName := ⟨RX7, "isIn", "(III)Z"⟩
abbrev cX7_isHall : ByteArray := prog_9_method_6_code
def yX7_isHall : MethodName := ⟨RX7, "isHall", "(I)Z"⟩
abbrev cX7_isStandard : ByteArray := prog_9_method_7_code
def yX7_isStandard : MethodName := ⟨RX7, "isStandard", "(I)Z"⟩
abbrev cX7_isSurface : ByteArray := prog_9_method_8_code
def yX7_isSurface : MethodName := ⟨RX7, "isSurface", "(II)Z"⟩
abbrev cX7_rule : ByteArray := prog_9_method_9_code
def yX7_rule : MethodName := ⟨RX7, "rule", "(II)I"⟩
abbrev cX7_hard : ByteArray := prog_9_method_10_code
def yX7_hard : MethodName := ⟨RX7, "hard", "(III)I"⟩
abbrev cX7_click : ByteArray := prog_9_method_11_code
def yX7_click : MethodName := ⟨RX7, "click", "(IIII)V"⟩
abbrev cX7_clickNow : ByteArray := prog_9_method_12_code
def yX7_clickNow : MethodName := ⟨RX7, "clickNow", "(II)V"⟩
abbrev cX7_all : ByteArray := prog_9_method_13_code
def yX7_all : MethodName := ⟨RX7, "all", "()I"⟩
abbrev cX7_louder : ByteArray := prog_9_method_14_code
def yX7_louder : MethodName := ⟨RX7, "louder", "(I)I"⟩
abbrev cX7_first : ByteArray := prog_9_method_15_code
def yX7_first : MethodName := ⟨RX7, "first", "()I"⟩
abbrev cX7_last : ByteArray := prog_9_method_16_code
def yX7_last : MethodName := ⟨RX7, "last", "()I"⟩
abbrev cX7_at : ByteArray := prog_9_method_17_code
def yX7_at : MethodName := ⟨RX7, "at", "(I)I"⟩
abbrev cX7_loudest : ByteArray := prog_9_method_18_code
def yX7_loudest : MethodName := ⟨RX7, "loudest", "()I"⟩
abbrev cX7_meets : ByteArray := prog_9_method_19_code
def yX7_meets : MethodName := ⟨RX7, "meets", "(IIII)Z"⟩
abbrev cX7_meetsNow : ByteArray := prog_9_method_20_code
def yX7_meetsNow : MethodName := ⟨RX7, "meetsNow", "(II)Z"⟩
abbrev cX7_addHall : ByteArray := prog_9_method_21_code
def yX7_addHall : MethodName := ⟨RX7, "addHall", "(I)I"⟩
abbrev cX7_strike : ByteArray := prog_9_method_22_code
def yX7_strike : MethodName := ⟨RX7, "strike", "(I)V"⟩
abbrev cX7_addSurface : ByteArray := prog_9_method_23_code
def yX7_addSurface : MethodName := ⟨RX7, "addSurface", "(III)I"⟩
abbrev cX7_moveSurface : ByteArray := prog_9_method_24_code
def yX7_moveSurface : MethodName := ⟨RX7, "moveSurface", "(III)I"⟩
abbrev cX7_setDamping : ByteArray := prog_9_method_25_code
def yX7_setDamping : MethodName := ⟨RX7, "setDamping", "(II)I"⟩
abbrev cX7_clean : ByteArray := prog_9_method_26_code
def yX7_clean : MethodName := ⟨RX7, "clean", "(I)I"⟩
abbrev cX7_addStandard : ByteArray := prog_9_method_27_code
def yX7_addStandard : MethodName := ⟨RX7, "addStandard", "(IIIII)I"⟩
abbrev cX7_isPair : ByteArray := prog_9_method_28_code
def yX7_isPair : MethodName := ⟨RX7, "isPair", "(II)Z"⟩
abbrev cX7_inspect : ByteArray := prog_9_method_29_code
def yX7_inspect : MethodName := ⟨RX7, "inspect", "(II)Z"⟩
abbrev cX7_revoke : ByteArray := prog_9_method_30_code
def yX7_revoke : MethodName := ⟨RX7, "revoke", "(I)I"⟩
abbrev cX7_certified : ByteArray := prog_9_method_31_code
def yX7_certified : MethodName := ⟨RX7, "certified", "()I"⟩
abbrev cX7_passDays : ByteArray := prog_9_method_32_code
def yX7_passDays : MethodName := ⟨RX7, "passDays", "(I)I"⟩
abbrev cX7_surfacesOf : ByteArray := prog_9_method_33_code
def yX7_surfacesOf : MethodName := ⟨RX7, "surfacesOf", "(I)I"⟩
abbrev cX7_distanceOf : ByteArray := prog_9_method_34_code
def yX7_distanceOf : MethodName := ⟨RX7, "distanceOf", "(II)I"⟩
abbrev cX7_hardnessOf : ByteArray := prog_9_method_35_code
def yX7_hardnessOf : MethodName := ⟨RX7, "hardnessOf", "(II)I"⟩
abbrev cX7_dampingOf : ByteArray := prog_9_method_36_code
def yX7_dampingOf : MethodName := ⟨RX7, "dampingOf", "(I)I"⟩
abbrev cX7_dustOf : ByteArray := prog_9_method_37_code
def yX7_dustOf : MethodName := ⟨RX7, "dustOf", "(I)I"⟩
abbrev cX7_isClick : ByteArray := prog_9_method_38_code
def yX7_isClick : MethodName := ⟨RX7, "isClick", "(IIZ)Z"⟩
abbrev cX7_echoes : ByteArray := prog_9_method_39_code
def yX7_echoes : MethodName := ⟨RX7, "echoes", "(II)I"⟩
abbrev cX7_loudEchoes : ByteArray := prog_9_method_40_code
def yX7_loudEchoes : MethodName := ⟨RX7, "loudEchoes", "(III)I"⟩
abbrev cX7_firstEcho : ByteArray := prog_9_method_41_code
def yX7_firstEcho : MethodName := ⟨RX7, "firstEcho", "(II)I"⟩
abbrev cX7_lastEcho : ByteArray := prog_9_method_42_code
def yX7_lastEcho : MethodName := ⟨RX7, "lastEcho", "(II)I"⟩
abbrev cX7_loudnessAt : ByteArray := prog_9_method_43_code
def yX7_loudnessAt : MethodName := ⟨RX7, "loudnessAt", "(III)I"⟩
abbrev cX7_loudestMoment : ByteArray := prog_9_method_44_code
def yX7_loudestMoment : MethodName := ⟨RX7, "loudestMoment", "(II)I"⟩
abbrev cX7_meets_ : ByteArray := prog_9_method_45_code
def yX7_meets_ : MethodName := ⟨RX7, "meets", "(II)Z"⟩
abbrev cX7_hallsMeeting : ByteArray := prog_9_method_46_code
def yX7_hallsMeeting : MethodName := ⟨RX7, "hallsMeeting", "(I)I"⟩
abbrev cX7_isCertified : ByteArray := prog_9_method_47_code
def yX7_isCertified : MethodName := ⟨RX7, "isCertified", "(I)Z"⟩
abbrev cX7_certifiedBy : ByteArray := prog_9_method_48_code
def yX7_certifiedBy : MethodName := ⟨RX7, "certifiedBy", "(I)I"⟩
abbrev cX7_daysLeft : ByteArray := prog_9_method_49_code
def yX7_daysLeft : MethodName := ⟨RX7, "daysLeft", "(I)I"⟩
abbrev cX7_halls : ByteArray := prog_9_method_50_code
def yX7_halls : MethodName := ⟨RX7, "halls", "()I"⟩
abbrev cX7_standards : ByteArray := prog_9_method_51_code
def yX7_standards : MethodName := ⟨RX7, "standards", "()I"⟩
abbrev cX7_day : ByteArray := prog_9_method_52_code
def yX7_day : MethodName := ⟨RX7, "day", "()I"⟩
abbrev cX7_inspections : ByteArray := prog_9_method_53_code
def yX7_inspections : MethodName := ⟨RX7, "inspections", "()I"⟩
abbrev cX7_certifiedHalls : ByteArray := prog_9_method_54_code
def yX7_certifiedHalls : MethodName := ⟨RX7, "certifiedHalls", "()I"⟩
abbrev cX7_meetsWithDamping : ByteArray := prog_9_method_55_code
def yX7_meetsWithDamping : MethodName := ⟨RX7, "meetsWithDamping", "(III)Z"⟩
abbrev cX7_least : ByteArray := prog_9_method_56_code
def yX7_least : MethodName := ⟨RX7, "least", "(II)I"⟩
abbrev cX7_leastDamping : ByteArray := prog_9_method_57_code
def yX7_leastDamping : MethodName := ⟨RX7, "leastDamping", "(II)I"⟩
abbrev cX7_daysUntilMet : ByteArray := prog_9_method_58_code
def yX7_daysUntilMet : MethodName := ⟨RX7, "daysUntilMet", "(II)I"⟩
abbrev cX7_easiestHall : ByteArray := prog_9_method_59_code
def yX7_easiestHall : MethodName := ⟨RX7, "easiestHall", "(I)I"⟩
abbrev cX7_meanDamping : ByteArray := prog_9_method_60_code
def yX7_meanDamping : MethodName := ⟨RX7, "meanDamping", "()D"⟩
abbrev cX7_digest : ByteArray := prog_9_method_61_code
def yX7_digest : MethodName := ⟨RX7, "digest", "()J"⟩
def RJx145de : String := "java/io/Serializable"
def RJ9 : String := "java/lang/Math"
abbrev cJ9_max_7cf53 : ByteArray := prog_14_method_65_code
def yJ9_max_7cf53 : MethodName := ⟨RJ9, "max", "(II)I"⟩
abbrev cJ9_min_7cf53 : ByteArray := prog_14_method_69_code
def yJ9_min_7cf53 : MethodName := ⟨RJ9, "min", "(II)I"⟩
def RJ0 : String := "java/lang/String"
def RJ10 : String := "java/lang/System"
def RJ7 : String := "java/util/Arrays"
abbrev cJ7_fill_53178 : ByteArray := prog_19_method_103_code
def yJ7_fill_53178 : MethodName := ⟨RJ7, "fill", "([II)V"⟩
def RL : String := "EchoBureauLaw"
abbrev cL_addHall : ByteArray := method_3_code
def yL_addHall : MethodName := ⟨RL, "addHall", "(LEchoBureau;I[J)I"⟩
abbrev cL_addSurface : ByteArray := method_4_code
def yL_addSurface : MethodName := ⟨RL, "addSurface", "(LEchoBureau;III[J)I"⟩
abbrev cL_moveSurface : ByteArray := method_5_code
def yL_moveSurface : MethodName := ⟨RL, "moveSurface", "(LEchoBureau;III[J)I"⟩
abbrev cL_setDamping : ByteArray := method_6_code
def yL_setDamping : MethodName := ⟨RL, "setDamping", "(LEchoBureau;II[J)I"⟩
abbrev cL_clean : ByteArray := method_7_code
def yL_clean : MethodName := ⟨RL, "clean", "(LEchoBureau;I[J)I"⟩
abbrev cL_addStandard : ByteArray := method_8_code
def yL_addStandard : MethodName := ⟨RL, "addStandard", "(LEchoBureau;IIIII[J)I"⟩
abbrev cL_inspect : ByteArray := method_9_code
def yL_inspect : MethodName := ⟨RL, "inspect", "(LEchoBureau;II[J)I"⟩
abbrev cL_revoke : ByteArray := method_10_code
def yL_revoke : MethodName := ⟨RL, "revoke", "(LEchoBureau;I[J)I"⟩
abbrev cL_passDays : ByteArray := method_11_code
def yL_passDays : MethodName := ⟨RL, "passDays", "(LEchoBureau;I[J)I"⟩
abbrev cL_surfacesOf : ByteArray := method_12_code
def yL_surfacesOf : MethodName := ⟨RL, "surfacesOf", "(LEchoBureau;I[J)I"⟩
abbrev cL_distanceOf : ByteArray := method_13_code
def yL_distanceOf : MethodName := ⟨RL, "distanceOf", "(LEchoBureau;II[J)I"⟩
abbrev cL_hardnessOf : ByteArray := method_14_code
def yL_hardnessOf : MethodName := ⟨RL, "hardnessOf", "(LEchoBureau;II[J)I"⟩
abbrev cL_dampingOf : ByteArray := method_15_code
def yL_dampingOf : MethodName := ⟨RL, "dampingOf", "(LEchoBureau;I[J)I"⟩
abbrev cL_dustOf : ByteArray := method_16_code
def yL_dustOf : MethodName := ⟨RL, "dustOf", "(LEchoBureau;I[J)I"⟩
abbrev cL_echoes : ByteArray := method_17_code
def yL_echoes : MethodName := ⟨RL, "echoes", "(LEchoBureau;II[J)I"⟩
abbrev cL_loudEchoes : ByteArray := method_18_code
def yL_loudEchoes : MethodName := ⟨RL, "loudEchoes", "(LEchoBureau;III[J)I"⟩
abbrev cL_firstEcho : ByteArray := method_19_code
def yL_firstEcho : MethodName := ⟨RL, "firstEcho", "(LEchoBureau;II[J)I"⟩
abbrev cL_lastEcho : ByteArray := method_20_code
def yL_lastEcho : MethodName := ⟨RL, "lastEcho", "(LEchoBureau;II[J)I"⟩
abbrev cL_loudnessAt : ByteArray := method_21_code
def yL_loudnessAt : MethodName := ⟨RL, "loudnessAt", "(LEchoBureau;III[J)I"⟩
abbrev cL_loudestMoment : ByteArray := method_22_code
def yL_loudestMoment : MethodName := ⟨RL, "loudestMoment", "(LEchoBureau;II[J)I"⟩
abbrev cL_meets : ByteArray := method_23_code
def yL_meets : MethodName := ⟨RL, "meets", "(LEchoBureau;II[J)I"⟩
abbrev cL_hallsMeeting : ByteArray := method_24_code
def yL_hallsMeeting : MethodName := ⟨RL, "hallsMeeting", "(LEchoBureau;I[J)I"⟩
abbrev cL_isCertified : ByteArray := method_25_code
def yL_isCertified : MethodName := ⟨RL, "isCertified", "(LEchoBureau;I[J)I"⟩
abbrev cL_certifiedBy : ByteArray := method_26_code
def yL_certifiedBy : MethodName := ⟨RL, "certifiedBy", "(LEchoBureau;I[J)I"⟩
abbrev cL_daysLeft : ByteArray := method_27_code
def yL_daysLeft : MethodName := ⟨RL, "daysLeft", "(LEchoBureau;I[J)I"⟩
abbrev cL_meetsWithDamping : ByteArray := method_28_code
def yL_meetsWithDamping : MethodName := ⟨RL, "meetsWithDamping", "(LEchoBureau;III[J)I"⟩
abbrev cL_leastDamping : ByteArray := method_29_code
def yL_leastDamping : MethodName := ⟨RL, "leastDamping", "(LEchoBureau;II[J)I"⟩
abbrev cL_daysUntilMet : ByteArray := method_30_code
def yL_daysUntilMet : MethodName := ⟨RL, "daysUntilMet", "(LEchoBureau;II[J)I"⟩
abbrev cL_easiestHall : ByteArray := method_31_code
def yL_easiestHall : MethodName := ⟨RL, "easiestHall", "(LEchoBureau;I[J)I"⟩
abbrev cL_law : ByteArray := code
def yL_law : MethodName := ⟨RL, "law", "([I)Z"⟩
abbrev vwCl : List vw_C := [(RX0, TX0, 6), (RX2, TX2, 1), (RX3, TX3, 5), (RX4, TX4, 2), (RX5, TX5, 5), (RX6, TX6, 8), (RX7, TX7, 17)]
end
section
/-! ===== a named memory over the machine: a world is a function from names (lists of numbers) to entries, with an address for each name ===== -/
abbrev Lab : Type := List Nat
/-- an array: what its places are of, its length and contents; an object: its number in vwCl, its fields -/
abbrev Ent : Type := (FieldType × vp_A) ⊕ (Nat × List Value)
abbrev Adr : Type := Lab → Nat
abbrev Wd : Type := Lab → Option Ent
def eg_at (D : va_G) (s : State) (a : Nat) (e : Ent) (H : Heap) : Prop := match e with
  | .inl x => ∃ cA : ClassId, (ArrOfT s cA x.1 ∧ va_RA s cA x.1) ∧ H[a]? = some (vp_cell cA x.2)
  | .inr o => va_at D vwCl (a, .inr o) H
theorem eg_at.kept {D : va_G} {s : State} {a : Nat} {e : Ent} {H H1 : Heap} (h : eg_at D s a e H) (hq : H1[a]? = H[a]?) : eg_at D s a e H1 := by
  cases e with
  | inl x =>
    obtain ⟨cA, h1, h2⟩ := h
    exact ⟨cA, h1, hq.trans h2⟩
  | inr o => exact va_at.kept (q := (a, .inr o)) h hq
theorem eg_at.lt {D : va_G} {s : State} {a : Nat} {e : Ent} {H : Heap} (h : eg_at D s a e H) : a < H.size := by
  cases e with
  | inl x =>
    obtain ⟨cA, h1, h2⟩ := h
    exact (Array.getElem?_eq_some_iff.mp h2).1
  | inr o => exact va_at.lt (q := (a, .inr o)) h
theorem eg_at.moved {D : va_G} {s U : State} {a : Nat} {e : Ent} {H : Heap} (hvm : s.vm.Alike U.vm) (h : eg_at D s a e H) : eg_at D U a e H := by
  cases e with
  | inl x =>
    obtain ⟨cA, ⟨h1, h3⟩, h2⟩ := h
    exact ⟨cA, ⟨arrOfT_moved hvm h1, h3.moved hvm⟩, h2⟩
  | inr o => exact h
def wset (w : Wd) (L : Lab) (e : Ent) : Wd := fun L' => if L' = L then some e else w L'
def aset (ad : Adr) (L : Lab) (a : Nat) : Adr := fun L' => if L' = L then a else ad L'
theorem wset_s {w : Wd} {L : Lab} {e : Ent} : wset w L e L = some e := if_pos rfl
theorem wset_n {w : Wd} {L L' : Lab} {e : Ent} (h : L' ≠ L) : wset w L e L' = w L' := if_neg h
theorem aset_s {ad : Adr} {L : Lab} {a : Nat} : aset ad L a L = a := if_pos rfl
theorem aset_n {ad : Adr} {L L' : Lab} {a : Nat} (h : L' ≠ L) : aset ad L a L' = ad L' := if_neg h
theorem wset_wset {w : Wd} {L : Lab} {e e' : Ent} : wset (wset w L e) L e' = wset w L e' := by
  funext L'
  by_cases h : L' = L <;> simp [wset, h]
def Mem (D : va_G) (ba : Nat) (s : State) (ad : Adr) (w : Wd) (H : Heap) : Prop :=
  (∀ L e, w L = some e → eg_at D s (ad L) e H ∧ ba ≤ ad L) ∧ ∀ L L', w L ≠ none → w L' ≠ none → ad L = ad L' → L = L'
theorem Mem.moved {D : va_G} {ba : Nat} {s U : State} {ad : Adr} {w : Wd} {H : Heap} (hvm : s.vm.Alike U.vm) (h : Mem D ba s ad w H) : Mem D ba U ad w H :=
  ⟨fun L e hL => ⟨(h.1 L e hL).1.moved hvm, (h.1 L e hL).2⟩, h.2⟩
theorem Mem.kept {D : va_G} {ba : Nat} {s : State} {ad : Adr} {w : Wd} {H H1 : Heap} (h : Mem D ba s ad w H) (o : ∀ q : Nat, q < H.size → H1[q]? = H[q]?) : Mem D ba s ad w H1 :=
  ⟨fun L e hL => ⟨(h.1 L e hL).1.kept (o _ (h.1 L e hL).1.lt), (h.1 L e hL).2⟩, h.2⟩
theorem Mem.set {D : va_G} {ba : Nat} {s : State} {ad : Adr} {w : Wd} {H H1 : Heap} {L : Lab} {e0 e : Ent} (h : Mem D ba s ad w H) (hL : w L = some e0) (he : eg_at D s (ad L) e H1) (oq : ∀ q : Nat, q ≠ ad L → H1[q]? = H[q]?) : Mem D ba s ad (wset w L e) H1 := by
  have key : ∀ L', wset w L e L' ≠ none → w L' ≠ none := by
    intro L' hn
    by_cases hq : L' = L
    · rw [hq, hL]; exact fun z => nomatch z
    · rw [wset_n hq] at hn; exact hn
  refine ⟨fun L' e' hL' => ?_, fun L1 L2 h1 h2 h3 => h.2 L1 L2 (key L1 h1) (key L2 h2) h3⟩
  by_cases hq : L' = L
  · subst hq
    rw [wset_s] at hL'
    cases hL'
    exact ⟨he, (h.1 _ _ hL).2⟩
  · rw [wset_n hq] at hL'
    refine ⟨(h.1 _ _ hL').1.kept (oq _ (fun z => hq ?_)), (h.1 _ _ hL').2⟩
    exact h.2 L' L (by rw [hL']; exact fun z => nomatch z) (by rw [hL]; exact fun z => nomatch z) z
theorem Mem.new {D : va_G} {ba : Nat} {s : State} {ad : Adr} {w : Wd} {H H1 : Heap} {L : Lab} {e : Ent} (h : Mem D ba s ad w H) (hL : w L = none) (hb : ba ≤ H.size) (he : eg_at D s H.size e H1) (o : ∀ q : Nat, q < H.size → H1[q]? = H[q]?) : Mem D ba s (aset ad L H.size) (wset w L e) H1 := by
  have far : ∀ L', w L' ≠ none → ad L' < H.size := by
    intro L' hn
    cases hw : w L' with
    | none => exact absurd hw hn
    | some e' => exact (h.1 _ _ hw).1.lt
  refine ⟨fun L' e' hL' => ?_, fun L1 L2 h1 h2 h3 => ?_⟩
  · by_cases hq : L' = L
    · subst hq
      rw [wset_s] at hL'
      cases hL'
      rw [aset_s]
      exact ⟨he, hb⟩
    · rw [wset_n hq] at hL'
      rw [aset_n hq]
      exact ⟨(h.1 _ _ hL').1.kept (o _ (h.1 _ _ hL').1.lt), (h.1 _ _ hL').2⟩
  · by_cases hq1 : L1 = L <;> by_cases hq2 : L2 = L
    · rw [hq1, hq2]
    · rw [hq1, aset_s, aset_n hq2] at h3
      rw [wset_n hq2] at h2
      have := far L2 h2
      omega
    · rw [hq2, aset_s, aset_n hq1] at h3
      rw [wset_n hq1] at h1
      have := far L1 h1
      omega
    · rw [aset_n hq1, aset_n hq2] at h3
      rw [wset_n hq1] at h1
      rw [wset_n hq2] at h2
      exact h.2 L1 L2 h1 h2 h3
theorem Mem.less {D : va_G} {ba : Nat} {s : State} {ad : Adr} {w w' : Wd} {H : Heap} (h : Mem D ba s ad w H) (hw : ∀ L e, w' L = some e → w L = some e) : Mem D ba s ad w' H := by
  have key : ∀ L, w' L ≠ none → w L ≠ none := by
    intro L hn hz
    cases hq : w' L with
    | none => exact hn hq
    | some e => rw [hw L e hq] at hz; cases hz
  exact ⟨fun L e hL => h.1 L e (hw L e hL), fun L1 L2 h1 h2 h3 => h.2 L1 L2 (key L1 h1) (key L2 h2) h3⟩
theorem Mem.adr {D : va_G} {ba : Nat} {s : State} {ad ad' : Adr} {w : Wd} {H : Heap} (h : Mem D ba s ad w H) (ha : ∀ L, w L ≠ none → ad' L = ad L) : Mem D ba s ad' w H := by
  refine ⟨fun L e hL => ?_, fun L1 L2 h1 h2 h3 => h.2 L1 L2 h1 h2 (by rw [← ha L1 h1, ← ha L2 h2]; exact h3)⟩
  rw [ha L (by rw [hL]; exact fun z => nomatch z)]
  exact h.1 L e hL
/-! ===== the words ===== -/
def eg_T : List Cond := lw_tbl.filter goodWord
theorem eg_TT : GoodIn eg_T eg_T := fun w hw => ⟨hw, good_of_word (List.mem_filter.mp hw).2⟩
theorem eg_in {w : Cond} (i : Nat) (h : lw_tbl[i]? = some w) (hg : goodWord w = true) : w ∈ eg_T := List.mem_filter.mpr ⟨List.mem_of_getElem? h, hg⟩
def eg_nw : Cond → Bool
  | .fieldLinkNest .. | .methodLinkNest .. | .declares _ | .castable .. | .publicMethod _ | .unhidden .. => true
  | _ => false
theorem eg_nw_warm {w : Cond} (hn : eg_nw w = true) {s U : State} (hW : s.WarmedH U.vm) (h : va_Nw w s) : va_Nw w U := by
  cases w <;> first | (simp [eg_nw] at hn; done) | skip
  case fieldLinkNest => exact va_Nw.warmF hW h
  case methodLinkNest => exact va_Nw.warmM hW h
  case declares => exact va_Nw.warmD hW h
  case castable => exact va_Nw.warmC hW h
  case publicMethod => exact va_tabs rfl (rfl : (s.setVm U.vm).vm = U.vm) (by rw [Cond.publicMethod_setVm hW.alike]; exact h)
  case unhidden => exact va_tabs rfl (rfl : (s.setVm U.vm).vm = U.vm) (by rw [Cond.unhidden_setVm hW.alike]; exact h)
theorem eg_nw_tab {w : Cond} (hn : eg_nw w = true) : w.onTables = true := by
  cases w <;> first | rfl | (simp [eg_nw] at hn; done)

/-- the faces that a call through an interface may meet -/
def eg_faces : List (String × MethodName × MethodName) := [(RX5, ⟨"EchoBureau$Listener", "hear", "(II)V"⟩, yX5_hear), (RX2, ⟨"EchoBureau$Listener", "hear", "(II)V"⟩, yX2_hear)]
def eg_nc : List (String × String) := [("java/lang/IllegalArgumentException", "java/lang/IndexOutOfBoundsException"), ("java/lang/IllegalStateException", "java/lang/IndexOutOfBoundsException"), ("java/lang/IllegalStateException", "java/lang/IllegalArgumentException")]
/-- what every method finds: the tables as they stand -/
def NF (D : va_G) (ba : Nat) (U : State) : Prop :=
  va_K D vwCl [] U ∧ (∀ w ∈ lw_tbl, eg_nw w = true → va_Nw w U) ∧ (∀ C : String, Cond.arrayOver (.object C) ∈ lw_tbl → va_AO C U) ∧ (∀ q ∈ eg_faces, va_Fw q.1 q.2.1 q.2.2 U) ∧
  (vx_Zq Bundle.tN "UNASSIGNED_STACK" Bundle.steD (fun q => ba ≤ q) U U.heap ∧ vx_Zq Bundle.tN "SUPPRESSED_SENTINEL" Bundle.listD (fun q => ba ≤ q) U U.heap) ∧
  (∀ (own : String) (k : Nat) (tx : String), Cond.stringRef own k tx ∈ lw_tbl → ∃ a, vk_R own k tx a U) ∧ ∀ q ∈ eg_nc, va_Nc q.1 q.2 U
theorem eg_faces_x : ∀ q ∈ eg_faces, q.2.1.cls ≠ "java/lang/invoke/MethodHandle" ∧ q.2.1.cls ≠ "java/lang/invoke/VarHandle" := by decide +kernel
theorem NF.moved {D : va_G} {ba : Nat} {s U : State} (hW : s.WarmedH U.vm) (hk : ∀ q : Nat, q < s.heap.size → ¬ ba ≤ q → U.heap[q]? = s.heap[q]?) (h : NF D ba s) : NF D ba U := by
  obtain ⟨h1, h2, h3, h4, ⟨h5, h6⟩, h7, h8⟩ := h
  refine ⟨va_K.moved hW.alike h1, fun w hw hn => eg_nw_warm hn hW (h2 w hw hn), fun C hC => (h3 C hC).moved hW.alike, fun q hq => va_Fw.moved (eg_faces_x q hq) hW.alike (h4 q hq), ⟨vx_Zq.moved hW.alike (h5.kept hk), vx_Zq.moved hW.alike (h6.kept hk)⟩, fun own k tx hm => ?_, fun q hq => (h8 q hq).moved hW.alike⟩
  obtain ⟨a, ha⟩ := h7 own k tx hm
  exact ⟨a, ha.warm hW⟩
/-! ===== contracts ===== -/
abbrev rmO (d mc ms : Nat) : Room := { frames := d, cells := mc, slots := ms, locals := 36 * d }
def mPc (D : va_G) (ba : Nat) (as : List Value) (ad : Adr) (w : Wd) : Array Value → State → Prop := fun a U => a = as.toArray ∧ NF D ba U ∧ ba ≤ U.heap.size ∧ Mem D ba U ad w U.heap
def mQc (D : va_G) (ba : Nat) (QR : Option Value → Adr → Wd → Prop) : Array Value → State → Outcome → State → Prop := fun _ st o t => ∃ v ad w, o = .returned v ∧ QR v ad w ∧ Mem D ba t ad w t.heap ∧ va_F (fun q => ba ≤ q) st t
def mXC (D : va_G) (ba : Nat) (QX : String → Adr → Wd → Prop) : String → State → State → Prop := fun E st t => ∃ ad w, QX E ad w ∧ Mem D ba t ad w t.heap ∧ va_F (fun q => ba ≤ q) st t
theorem mPc_blind {D : va_G} {ba : Nat} {as : List Value} {ad : Adr} {w : Wd} : FrameBlind (mPc D ba as ad w) := by
  intro a U g mk h
  obtain ⟨h1, h2, h3, h4⟩ := h
  exact ⟨h1, NF.moved (s := U) (U := U.calling g mk a) (State.WarmedH.refl U) (fun _ _ _ => rfl) h2, h3, Mem.moved (s := U) (U := U.calling g mk a) (Vm.Alike.refl U.vm) h4⟩
def CT (l : Launch) (y : MethodName) (ws : List Cond) (d mc ms : Nat) (D : va_G) (ba : Nat) (as : List Value) (ad : Adr) (w : Wd) (QR : Option Value → Adr → Wd → Prop) (QX : String → Adr → Wd → Prop) : Prop :=
  vx_Met l y ws (rmO d mc ms) (mPc D ba as ad w) (mQc D ba QR) (mXC D ba QX) mc ms (fun q => ba ≤ q)
/-- what stands through a whole method -/
def Cx (p : Program) (l : Launch) (s : State) (m : MethodId) (args : Array Value) (meth : Method) (c : Code) (D : va_G) (ba : Nat) (own : String) (cc : ByteArray) (nL : Nat) (tb : List ExceptionTableEntry) (d : Nat) : Prop :=
  p.tables.exec = Jvm.exec ∧ c.code = cc ∧ c.maxLocals = nL ∧ s.vm.findClass own = some m.cls ∧ (∀ w ∈ eg_T, w.before args s = true) ∧ NF D ba s ∧ ba ≤ s.heap.size ∧ meth.locks = false ∧ l.stackTraces = false ∧ c.exceptionTable.toList = tb
def V (p : Program) (l : Launch) (e : Env) (s : State) (m : MethodId) (args : Array Value) (below : List Frame) (meth : Method) (c : Code) (D : va_G) (ba : Nat) (d mc ms : Nat) (Q : State → Prop) (nL : Nat) (ad : Adr) (w : Wd) (pc : Nat) (lv : List (Nat × Value)) (st : List Value) (cells slots : Nat) : Prop :=
  ∀ (H : Heap) (locs : List Loc) (ls : Array Slot), Mem D ba s ad w H → va_S (fun q => ba ≤ q) s.heap H locs → lv_has ls nL lv → W p l e (rmO d mc ms) s m args below meth c H locs cells slots Q (F0 m pc ls st)
/-- E was thrown at pc -/
def VX (p : Program) (l : Launch) (e : Env) (s : State) (m : MethodId) (args : Array Value) (below : List Frame) (meth : Method) (c : Code) (D : va_G) (ba : Nat) (d mc ms : Nat) (Q : State → Prop) (nL : Nat) (E : String) (ad : Adr) (w : Wd) (pc : Nat) (lv : List (Nat × Value)) (st : List Value) (cells slots : Nat) : Prop :=
  ∀ (H : Heap) (locs : List Loc) (ls : Array Slot) (q : Addr) (ce : Cell), Mem D ba s ad w H → va_S (fun q => ba ≤ q) s.heap H locs → lv_has ls nL lv → H[q]? = some ce → ce.vm = .none → s.vm.findClass E = some ce.cls → vx_W p l e (rmO d mc ms) s m args below meth c H locs cells slots Q (F0 m pc ls st) q
abbrev MO (D : va_G) (ba : Nat) (QR : Option Value → Adr → Wd → Prop) (QX : String → Adr → Wd → Prop) (below : List Frame) (args : Array Value) (s : State) (mc ms : Nat) : State → Prop := vx_MQ below (mQc D ba QR) (mXC D ba QX) args s mc ms (fun q => ba ≤ q)
section EG
variable {p : Program} {l : Launch} {e : Env} {s : State} {m : MethodId} {args : Array Value} {below : List Frame} {meth : Method} {c : Code} {D : va_G} {ba : Nat} {d mc ms : Nat} {Q : State → Prop} {nL : Nat} {ad : Adr} {w : Wd} {pc : Nat} {lv : List (Nat × Value)} {rest : List Value} {cells slots : Nat}
variable {own : String} {cc : ByteArray} {tb : List ExceptionTableEntry}
theorem V_eq {pc' : Nat} (h : pc = pc') (k : V p l e s m args below meth c D ba d mc ms Q nL ad w pc' lv rest cells slots) : V p l e s m args below meth c D ba d mc ms Q nL ad w pc lv rest cells slots := h ▸ k
theorem V_wd {w' : Wd} (h : w = w') (k : V p l e s m args below meth c D ba d mc ms Q nL ad w' pc lv rest cells slots) : V p l e s m args below meth c D ba d mc ms Q nL ad w pc lv rest cells slots := h ▸ k
theorem V_lv {lv' : List (Nat × Value)} (ks : List Nat) (h : lv_pick lv ks = lv') (k : V p l e s m args below meth c D ba d mc ms Q nL ad w pc lv' rest cells slots) : V p l e s m args below meth c D ba d mc ms Q nL ad w pc lv rest cells slots := fun H locs ls hM hS hl => k H locs ls hM hS (lv_sub hl ks h)
theorem V_less {w' : Wd} (h : ∀ L e, w' L = some e → w L = some e) (k : V p l e s m args below meth c D ba d mc ms Q nL ad w' pc lv rest cells slots) : V p l e s m args below meth c D ba d mc ms Q nL ad w pc lv rest cells slots := fun H locs ls hM hS hl => k H locs ls (hM.less h) hS hl
theorem V_adr {ad' : Adr} (h : ∀ L, w L ≠ none → ad' L = ad L) (k : V p l e s m args below meth c D ba d mc ms Q nL ad' w pc lv rest cells slots) : V p l e s m args below meth c D ba d mc ms Q nL ad w pc lv rest cells slots := fun H locs ls hM hS hl => k H locs ls (hM.adr h) hS hl
theorem V_cs {cells' slots' : Nat} (h1 : cells ≤ cells') (h2 : slots ≤ slots') (k : V p l e s m args below meth c D ba d mc ms Q nL ad w pc lv rest cells' slots') : V p l e s m args below meth c D ba d mc ms Q nL ad w pc lv rest cells slots := fun H locs ls hM hS hl => W.widen h1 h2 (k H locs ls hM hS hl)
theorem V_iadd (C : Cx p l s m args meth c D ba own cc nL tb d) {x y : Int32} (h : decode cc pc = .ok (.iadd, 1)) (k : V p l e s m args below meth c D ba d mc ms Q nL ad w (pc + 1) lv (.int (x + y) :: rest) cells slots) : V p l e s m args below meth c D ba d mc ms Q nL ad w pc lv (.int y :: .int x :: rest) cells slots := fun H locs ls hM hS hl => lv_iadd C.1 C.2.1 h (k H locs ls hM hS hl)
theorem V_isub (C : Cx p l s m args meth c D ba own cc nL tb d) {x y : Int32} (h : decode cc pc = .ok (.isub, 1)) (k : V p l e s m args below meth c D ba d mc ms Q nL ad w (pc + 1) lv (.int (x - y) :: rest) cells slots) : V p l e s m args below meth c D ba d mc ms Q nL ad w pc lv (.int y :: .int x :: rest) cells slots := fun H locs ls hM hS hl => lv_isub C.1 C.2.1 h (k H locs ls hM hS hl)
theorem V_imul (C : Cx p l s m args meth c D ba own cc nL tb d) {x y : Int32} (h : decode cc pc = .ok (.imul, 1)) (k : V p l e s m args below meth c D ba d mc ms Q nL ad w (pc + 1) lv (.int (x * y) :: rest) cells slots) : V p l e s m args below meth c D ba d mc ms Q nL ad w pc lv (.int y :: .int x :: rest) cells slots := fun H locs ls hM hS hl => lv_imul C.1 C.2.1 h (k H locs ls hM hS hl)
theorem V_iand (C : Cx p l s m args meth c D ba own cc nL tb d) {x y : Int32} (h : decode cc pc = .ok (.iand, 1)) (k : V p l e s m args below meth c D ba d mc ms Q nL ad w (pc + 1) lv (.int (x &&& y) :: rest) cells slots) : V p l e s m args below meth c D ba d mc ms Q nL ad w pc lv (.int y :: .int x :: rest) cells slots := fun H locs ls hM hS hl => lv_iand C.1 C.2.1 h (k H locs ls hM hS hl)
theorem V_ior (C : Cx p l s m args meth c D ba own cc nL tb d) {x y : Int32} (h : decode cc pc = .ok (.ior, 1)) (k : V p l e s m args below meth c D ba d mc ms Q nL ad w (pc + 1) lv (.int (x ||| y) :: rest) cells slots) : V p l e s m args below meth c D ba d mc ms Q nL ad w pc lv (.int y :: .int x :: rest) cells slots := fun H locs ls hM hS hl => lv_ior C.1 C.2.1 h (k H locs ls hM hS hl)
theorem V_ixor (C : Cx p l s m args meth c D ba own cc nL tb d) {x y : Int32} (h : decode cc pc = .ok (.ixor, 1)) (k : V p l e s m args below meth c D ba d mc ms Q nL ad w (pc + 1) lv (.int (x ^^^ y) :: rest) cells slots) : V p l e s m args below meth c D ba d mc ms Q nL ad w pc lv (.int y :: .int x :: rest) cells slots := fun H locs ls hM hS hl => lv_ixor C.1 C.2.1 h (k H locs ls hM hS hl)
theorem V_ladd (C : Cx p l s m args meth c D ba own cc nL tb d) {x y : Int64} (h : decode cc pc = .ok (.ladd, 1)) (k : V p l e s m args below meth c D ba d mc ms Q nL ad w (pc + 1) lv (.long (x + y) :: rest) cells slots) : V p l e s m args below meth c D ba d mc ms Q nL ad w pc lv (.long y :: .long x :: rest) cells slots := fun H locs ls hM hS hl => lv_ladd C.1 C.2.1 h (k H locs ls hM hS hl)
theorem V_lsub (C : Cx p l s m args meth c D ba own cc nL tb d) {x y : Int64} (h : decode cc pc = .ok (.lsub, 1)) (k : V p l e s m args below meth c D ba d mc ms Q nL ad w (pc + 1) lv (.long (x - y) :: rest) cells slots) : V p l e s m args below meth c D ba d mc ms Q nL ad w pc lv (.long y :: .long x :: rest) cells slots := fun H locs ls hM hS hl => lv_lsub C.1 C.2.1 h (k H locs ls hM hS hl)
theorem V_lmul (C : Cx p l s m args meth c D ba own cc nL tb d) {x y : Int64} (h : decode cc pc = .ok (.lmul, 1)) (k : V p l e s m args below meth c D ba d mc ms Q nL ad w (pc + 1) lv (.long (x * y) :: rest) cells slots) : V p l e s m args below meth c D ba d mc ms Q nL ad w pc lv (.long y :: .long x :: rest) cells slots := fun H locs ls hM hS hl => lv_lmul C.1 C.2.1 h (k H locs ls hM hS hl)
theorem V_idiv (C : Cx p l s m args meth c D ba own cc nL tb d) {x y : Int32} (h : decode cc pc = .ok (.idiv, 1)) (hne : ¬ y = 0) (k : V p l e s m args below meth c D ba d mc ms Q nL ad w (pc + 1) lv (.int (x / y) :: rest) cells slots) : V p l e s m args below meth c D ba d mc ms Q nL ad w pc lv (.int y :: .int x :: rest) cells slots := fun H locs ls hM hS hl => lv_idiv C.1 C.2.1 h hne (k H locs ls hM hS hl)
theorem V_irem (C : Cx p l s m args meth c D ba own cc nL tb d) {x y : Int32} (h : decode cc pc = .ok (.irem, 1)) (hne : ¬ y = 0) (k : V p l e s m args below meth c D ba d mc ms Q nL ad w (pc + 1) lv (.int (x - x / y * y) :: rest) cells slots) : V p l e s m args below meth c D ba d mc ms Q nL ad w pc lv (.int y :: .int x :: rest) cells slots := fun H locs ls hM hS hl => lv_irem C.1 C.2.1 h hne (k H locs ls hM hS hl)
theorem V_iconst (C : Cx p l s m args meth c D ba own cc nL tb d) {n : Int} {v : Int32} (h : decode cc pc = .ok (.iconst n, 1)) (hv : Int32.ofInt n = v) (k : V p l e s m args below meth c D ba d mc ms Q nL ad w (pc + 1) lv (.int v :: rest) cells slots) : V p l e s m args below meth c D ba d mc ms Q nL ad w pc lv rest cells slots := fun H locs ls hM hS hl => lv_iconst C.1 C.2.1 h hv (k H locs ls hM hS hl)
theorem V_bipush (C : Cx p l s m args meth c D ba own cc nL tb d) {n : Int} {v : Int32} (h : decode cc pc = .ok (.bipush n, 2)) (hv : (Int8.ofInt n).toInt32 = v) (k : V p l e s m args below meth c D ba d mc ms Q nL ad w (pc + 2) lv (.int v :: rest) cells slots) : V p l e s m args below meth c D ba d mc ms Q nL ad w pc lv rest cells slots := fun H locs ls hM hS hl => lv_bipush C.1 C.2.1 h hv (k H locs ls hM hS hl)
theorem V_sipush (C : Cx p l s m args meth c D ba own cc nL tb d) {n : Int} {v : Int32} (h : decode cc pc = .ok (.sipush n, 3)) (hv : (Int16.ofInt n).toInt32 = v) (k : V p l e s m args below meth c D ba d mc ms Q nL ad w (pc + 3) lv (.int v :: rest) cells slots) : V p l e s m args below meth c D ba d mc ms Q nL ad w pc lv rest cells slots := fun H locs ls hM hS hl => lv_sipush C.1 C.2.1 h hv (k H locs ls hM hS hl)
theorem V_lconst (C : Cx p l s m args meth c D ba own cc nL tb d) {n : Fin 2} {v : Int64} (h : decode cc pc = .ok (.lconst n, 1)) (hv : Int64.ofNat (n : Nat) = v) (k : V p l e s m args below meth c D ba d mc ms Q nL ad w (pc + 1) lv (.long v :: rest) cells slots) : V p l e s m args below meth c D ba d mc ms Q nL ad w pc lv rest cells slots := fun H locs ls hM hS hl => lv_lconst C.1 C.2.1 h hv (k H locs ls hM hS hl)
theorem V_null (C : Cx p l s m args meth c D ba own cc nL tb d) (h : decode cc pc = .ok (.aconst_null, 1)) (k : V p l e s m args below meth c D ba d mc ms Q nL ad w (pc + 1) lv (.null :: rest) cells slots) : V p l e s m args below meth c D ba d mc ms Q nL ad w pc lv rest cells slots := fun H locs ls hM hS hl => lv_null C.1 C.2.1 h (k H locs ls hM hS hl)
theorem V_dconst0 (C : Cx p l s m args meth c D ba own cc nL tb d) (h : decode cc pc = .ok (.dconst 0, 1)) (k : V p l e s m args below meth c D ba d mc ms Q nL ad w (pc + 1) lv (.double FP.dconst0 :: rest) cells slots) : V p l e s m args below meth c D ba d mc ms Q nL ad w pc lv rest cells slots := fun H locs ls hM hS hl => lv_dconst0 C.1 C.2.1 h (k H locs ls hM hS hl)
theorem V_iload_n (C : Cx p l s m args meth c D ba own cc nL tb d) {i : Fin 4} {x : Int32} (h : decode cc pc = .ok (.iload_n i, 1)) (j : Nat) (hj : lv[j]? = some ((i : Nat), .int x)) (k : V p l e s m args below meth c D ba d mc ms Q nL ad w (pc + 1) lv (.int x :: rest) cells slots) : V p l e s m args below meth c D ba d mc ms Q nL ad w pc lv rest cells slots := fun H locs ls hM hS hl => lv_iload_n C.1 C.2.1 h rfl (lv_at hl j hj) (k H locs ls hM hS hl)
theorem V_iload (C : Cx p l s m args meth c D ba own cc nL tb d) {i : Nat} {x : Int32} (h : decode cc pc = .ok (.iload i, 2)) (j : Nat) (hj : lv[j]? = some (i, .int x)) (k : V p l e s m args below meth c D ba d mc ms Q nL ad w (pc + 2) lv (.int x :: rest) cells slots) : V p l e s m args below meth c D ba d mc ms Q nL ad w pc lv rest cells slots := fun H locs ls hM hS hl => lv_iload C.1 C.2.1 h (lv_at hl j hj) (k H locs ls hM hS hl)
theorem V_lload_n (C : Cx p l s m args meth c D ba own cc nL tb d) {i : Fin 4} {x : Int64} (h : decode cc pc = .ok (.lload_n i, 1)) (j : Nat) (hj : lv[j]? = some ((i : Nat), .long x)) (k : V p l e s m args below meth c D ba d mc ms Q nL ad w (pc + 1) lv (.long x :: rest) cells slots) : V p l e s m args below meth c D ba d mc ms Q nL ad w pc lv rest cells slots := fun H locs ls hM hS hl => lv_lload_n C.1 C.2.1 h rfl (lv_at hl j hj) (k H locs ls hM hS hl)
theorem V_lload (C : Cx p l s m args meth c D ba own cc nL tb d) {i : Nat} {x : Int64} (h : decode cc pc = .ok (.lload i, 2)) (j : Nat) (hj : lv[j]? = some (i, .long x)) (k : V p l e s m args below meth c D ba d mc ms Q nL ad w (pc + 2) lv (.long x :: rest) cells slots) : V p l e s m args below meth c D ba d mc ms Q nL ad w pc lv rest cells slots := fun H locs ls hM hS hl => lv_lload C.1 C.2.1 h (lv_at hl j hj) (k H locs ls hM hS hl)
theorem V_aload_n (C : Cx p l s m args meth c D ba own cc nL tb d) {i : Fin 4} {x : Nat} (h : decode cc pc = .ok (.aload_n i, 1)) (j : Nat) (hj : lv[j]? = some ((i : Nat), .ref x)) (k : V p l e s m args below meth c D ba d mc ms Q nL ad w (pc + 1) lv (.ref x :: rest) cells slots) : V p l e s m args below meth c D ba d mc ms Q nL ad w pc lv rest cells slots := fun H locs ls hM hS hl => lv_aload_n C.1 C.2.1 h rfl (lv_at hl j hj) (k H locs ls hM hS hl)
theorem V_aload (C : Cx p l s m args meth c D ba own cc nL tb d) {i : Nat} {x : Nat} (h : decode cc pc = .ok (.aload i, 2)) (j : Nat) (hj : lv[j]? = some (i, .ref x)) (k : V p l e s m args below meth c D ba d mc ms Q nL ad w (pc + 2) lv (.ref x :: rest) cells slots) : V p l e s m args below meth c D ba d mc ms Q nL ad w pc lv rest cells slots := fun H locs ls hM hS hl => lv_aload C.1 C.2.1 h (lv_at hl j hj) (k H locs ls hM hS hl)
theorem V_dload_n (C : Cx p l s m args meth c D ba own cc nL tb d) {i : Fin 4} {x : UInt64} (h : decode cc pc = .ok (.dload_n i, 1)) (j : Nat) (hj : lv[j]? = some ((i : Nat), .double x)) (k : V p l e s m args below meth c D ba d mc ms Q nL ad w (pc + 1) lv (.double x :: rest) cells slots) : V p l e s m args below meth c D ba d mc ms Q nL ad w pc lv rest cells slots := fun H locs ls hM hS hl => lv_dload_n C.1 C.2.1 h rfl (lv_at hl j hj) (k H locs ls hM hS hl)
theorem V_dload (C : Cx p l s m args meth c D ba own cc nL tb d) {i : Nat} {x : UInt64} (h : decode cc pc = .ok (.dload i, 2)) (j : Nat) (hj : lv[j]? = some (i, .double x)) (k : V p l e s m args below meth c D ba d mc ms Q nL ad w (pc + 2) lv (.double x :: rest) cells slots) : V p l e s m args below meth c D ba d mc ms Q nL ad w pc lv rest cells slots := fun H locs ls hM hS hl => lv_dload C.1 C.2.1 h (lv_at hl j hj) (k H locs ls hM hS hl)
theorem V_istore_n (C : Cx p l s m args meth c D ba own cc nL tb d) {i : Fin 4} {x : Int32} (lv' : List (Nat × Value)) (h : decode cc pc = .ok (.istore_n i, 1)) (hn : (i : Nat) < nL) (hq : ((i : Nat), Value.int x) :: lv.filter (fun q => !(q.1 == (i : Nat)) && !(q.1 + 1 == (i : Nat) && q.2.category == 2)) = lv') (k : V p l e s m args below meth c D ba d mc ms Q nL ad w (pc + 1) lv' rest cells slots) : V p l e s m args below meth c D ba d mc ms Q nL ad w pc lv (.int x :: rest) cells slots := fun H locs ls hM hS hl => lv_istore_n (lv' := lv') C.1 C.2.1 h rfl hl hn hq (fun ls' hl' => k H locs ls' hM hS hl')
theorem V_lstore_n (C : Cx p l s m args meth c D ba own cc nL tb d) {i : Fin 4} {x : Int64} (lv' : List (Nat × Value)) (h : decode cc pc = .ok (.lstore_n i, 1)) (hn : (i : Nat) + 1 < nL) (hq : ((i : Nat), Value.long x) :: lv.filter (fun q => !(q.1 == (i : Nat)) && (!(q.1 == (i : Nat) + 1) && !(q.1 + 1 == (i : Nat) && q.2.category == 2))) = lv') (k : V p l e s m args below meth c D ba d mc ms Q nL ad w (pc + 1) lv' rest cells slots) : V p l e s m args below meth c D ba d mc ms Q nL ad w pc lv (.long x :: rest) cells slots := fun H locs ls hM hS hl => lv_lstore_n (lv' := lv') C.1 C.2.1 h rfl hl hn hq (fun ls' hl' => k H locs ls' hM hS hl')
theorem V_astore_n (C : Cx p l s m args meth c D ba own cc nL tb d) {i : Fin 4} {x : Nat} (lv' : List (Nat × Value)) (h : decode cc pc = .ok (.astore_n i, 1)) (hn : (i : Nat) < nL) (hq : ((i : Nat), Value.ref x) :: lv.filter (fun q => !(q.1 == (i : Nat)) && !(q.1 + 1 == (i : Nat) && q.2.category == 2)) = lv') (k : V p l e s m args below meth c D ba d mc ms Q nL ad w (pc + 1) lv' rest cells slots) : V p l e s m args below meth c D ba d mc ms Q nL ad w pc lv (.ref x :: rest) cells slots := fun H locs ls hM hS hl => lv_astore_n (lv' := lv') C.1 C.2.1 h rfl hl hn hq (fun ls' hl' => k H locs ls' hM hS hl')
theorem V_dstore_n (C : Cx p l s m args meth c D ba own cc nL tb d) {i : Fin 4} {x : UInt64} (lv' : List (Nat × Value)) (h : decode cc pc = .ok (.dstore_n i, 1)) (hn : (i : Nat) + 1 < nL) (hq : ((i : Nat), Value.double x) :: lv.filter (fun q => !(q.1 == (i : Nat)) && (!(q.1 == (i : Nat) + 1) && !(q.1 + 1 == (i : Nat) && q.2.category == 2))) = lv') (k : V p l e s m args below meth c D ba d mc ms Q nL ad w (pc + 1) lv' rest cells slots) : V p l e s m args below meth c D ba d mc ms Q nL ad w pc lv (.double x :: rest) cells slots := fun H locs ls hM hS hl => lv_dstore_n (lv' := lv') C.1 C.2.1 h rfl hl hn hq (fun ls' hl' => k H locs ls' hM hS hl')
theorem V_astore_nN (C : Cx p l s m args meth c D ba own cc nL tb d) {i : Fin 4} (lv' : List (Nat × Value)) (h : decode cc pc = .ok (.astore_n i, 1)) (hn : (i : Nat) < nL) (hq : ((i : Nat), Value.null) :: lv.filter (fun q => !(q.1 == (i : Nat)) && !(q.1 + 1 == (i : Nat) && q.2.category == 2)) = lv') (k : V p l e s m args below meth c D ba d mc ms Q nL ad w (pc + 1) lv' rest cells slots) : V p l e s m args below meth c D ba d mc ms Q nL ad w pc lv (.null :: rest) cells slots := fun H locs ls hM hS hl => lv_astore_nN (lv' := lv') C.1 C.2.1 h rfl hl hn hq (fun ls' hl' => k H locs ls' hM hS hl')
theorem V_istore (C : Cx p l s m args meth c D ba own cc nL tb d) {i : Nat} {x : Int32} (lv' : List (Nat × Value)) (h : decode cc pc = .ok (.istore i, 2)) (hn : i < nL) (hq : (i, Value.int x) :: lv.filter (fun q => !(q.1 == i) && !(q.1 + 1 == i && q.2.category == 2)) = lv') (k : V p l e s m args below meth c D ba d mc ms Q nL ad w (pc + 2) lv' rest cells slots) : V p l e s m args below meth c D ba d mc ms Q nL ad w pc lv (.int x :: rest) cells slots := fun H locs ls hM hS hl => lv_istore (lv' := lv') C.1 C.2.1 h hl hn hq (fun ls' hl' => k H locs ls' hM hS hl')
theorem V_lstore (C : Cx p l s m args meth c D ba own cc nL tb d) {i : Nat} {x : Int64} (lv' : List (Nat × Value)) (h : decode cc pc = .ok (.lstore i, 2)) (hn : i + 1 < nL) (hq : (i, Value.long x) :: lv.filter (fun q => !(q.1 == i) && (!(q.1 == i + 1) && !(q.1 + 1 == i && q.2.category == 2))) = lv') (k : V p l e s m args below meth c D ba d mc ms Q nL ad w (pc + 2) lv' rest cells slots) : V p l e s m args below meth c D ba d mc ms Q nL ad w pc lv (.long x :: rest) cells slots := fun H locs ls hM hS hl => lv_lstore (lv' := lv') C.1 C.2.1 h hl hn hq (fun ls' hl' => k H locs ls' hM hS hl')
theorem V_astore (C : Cx p l s m args meth c D ba own cc nL tb d) {i : Nat} {x : Nat} (lv' : List (Nat × Value)) (h : decode cc pc = .ok (.astore i, 2)) (hn : i < nL) (hq : (i, Value.ref x) :: lv.filter (fun q => !(q.1 == i) && !(q.1 + 1 == i && q.2.category == 2)) = lv') (k : V p l e s m args below meth c D ba d mc ms Q nL ad w (pc + 2) lv' rest cells slots) : V p l e s m args below meth c D ba d mc ms Q nL ad w pc lv (.ref x :: rest) cells slots := fun H locs ls hM hS hl => lv_astore (lv' := lv') C.1 C.2.1 h hl hn hq (fun ls' hl' => k H locs ls' hM hS hl')
theorem V_dstore (C : Cx p l s m args meth c D ba own cc nL tb d) {i : Nat} {x : UInt64} (lv' : List (Nat × Value)) (h : decode cc pc = .ok (.dstore i, 2)) (hn : i + 1 < nL) (hq : (i, Value.double x) :: lv.filter (fun q => !(q.1 == i) && (!(q.1 == i + 1) && !(q.1 + 1 == i && q.2.category == 2))) = lv') (k : V p l e s m args below meth c D ba d mc ms Q nL ad w (pc + 2) lv' rest cells slots) : V p l e s m args below meth c D ba d mc ms Q nL ad w pc lv (.double x :: rest) cells slots := fun H locs ls hM hS hl => lv_dstore (lv' := lv') C.1 C.2.1 h hl hn hq (fun ls' hl' => k H locs ls' hM hS hl')
theorem V_astoreN (C : Cx p l s m args meth c D ba own cc nL tb d) {i : Nat} (lv' : List (Nat × Value)) (h : decode cc pc = .ok (.astore i, 2)) (hn : i < nL) (hq : (i, Value.null) :: lv.filter (fun q => !(q.1 == i) && !(q.1 + 1 == i && q.2.category == 2)) = lv') (k : V p l e s m args below meth c D ba d mc ms Q nL ad w (pc + 2) lv' rest cells slots) : V p l e s m args below meth c D ba d mc ms Q nL ad w pc lv (.null :: rest) cells slots := fun H locs ls hM hS hl => lv_astoreN (lv' := lv') C.1 C.2.1 h hl hn hq (fun ls' hl' => k H locs ls' hM hS hl')
theorem V_iinc (C : Cx p l s m args meth c D ba own cc nL tb d) {i : Nat} {n : Int} {x v : Int32} (lv' : List (Nat × Value)) (h : decode cc pc = .ok (.iinc i n, 3)) (j : Nat) (hj : lv[j]? = some (i, .int x)) (hv : x + Int32.ofInt n = v) (hn : i < nL) (hq : (i, Value.int v) :: lv.filter (fun q => !(q.1 == i) && !(q.1 + 1 == i && q.2.category == 2)) = lv') (k : V p l e s m args below meth c D ba d mc ms Q nL ad w (pc + 3) lv' rest cells slots) : V p l e s m args below meth c D ba d mc ms Q nL ad w pc lv rest cells slots := fun H locs ls hM hS hl => lv_iinc (lv' := lv') C.1 C.2.1 h hl hj hv hn hq (fun ls' hl' => k H locs ls' hM hS hl')
theorem V_i2l (C : Cx p l s m args meth c D ba own cc nL tb d) {x : Int32} {v : Int64} (h : decode cc pc = .ok (.i2l, 1)) (hv : x.toInt64 = v) (k : V p l e s m args below meth c D ba d mc ms Q nL ad w (pc + 1) lv (.long v :: rest) cells slots) : V p l e s m args below meth c D ba d mc ms Q nL ad w pc lv (.int x :: rest) cells slots := fun H locs ls hM hS hl => lv_i2l C.1 C.2.1 h hv (k H locs ls hM hS hl)
theorem V_i2d (C : Cx p l s m args meth c D ba own cc nL tb d) {x : Int32} (h : decode cc pc = .ok (.i2d, 1)) (k : V p l e s m args below meth c D ba d mc ms Q nL ad w (pc + 1) lv (.double (FP.i2d x) :: rest) cells slots) : V p l e s m args below meth c D ba d mc ms Q nL ad w pc lv (.int x :: rest) cells slots := fun H locs ls hM hS hl => lv_i2d C.1 C.2.1 h (k H locs ls hM hS hl)
theorem V_ddiv (C : Cx p l s m args meth c D ba own cc nL tb d) {x y : UInt64} (h : decode cc pc = .ok (.ddiv, 1)) (hne : vf_n64 (FP.ddiv x y)) (k : V p l e s m args below meth c D ba d mc ms Q nL ad w (pc + 1) lv (.double (FP.ddiv x y) :: rest) cells slots) : V p l e s m args below meth c D ba d mc ms Q nL ad w pc lv (.double y :: .double x :: rest) cells slots := fun H locs ls hM hS hl => lv_ddiv C.1 C.2.1 h hne (k H locs ls hM hS hl)
theorem V_dcmp (C : Cx p l s m args meth c D ba own cc nL tb d) {x y : UInt64} {op : CmpOp} (h : decode cc pc = .ok (.dcmp op, 1)) (k : V p l e s m args below meth c D ba d mc ms Q nL ad w (pc + 1) lv (.int (Op.cmpValue (FP.dcmp x y) op) :: rest) cells slots) : V p l e s m args below meth c D ba d mc ms Q nL ad w pc lv (.double y :: .double x :: rest) cells slots := fun H locs ls hM hS hl => lv_dcmp C.1 C.2.1 h (k H locs ls hM hS hl)
theorem V_lcmp (C : Cx p l s m args meth c D ba own cc nL tb d) {x y : Int64} (h : decode cc pc = .ok (.lcmp, 1)) (k : V p l e s m args below meth c D ba d mc ms Q nL ad w (pc + 1) lv (.int (lg_cmp x y) :: rest) cells slots) : V p l e s m args below meth c D ba d mc ms Q nL ad w pc lv (.long y :: .long x :: rest) cells slots := fun H locs ls hM hS hl => W.lcmp C.1 C.2.1 h (k H locs ls hM hS hl)
theorem V_dup (C : Cx p l s m args meth c D ba own cc nL tb d) {v : Value} (h : decode cc pc = .ok (.dup, 1)) (hc : v.category = 1) (k : V p l e s m args below meth c D ba d mc ms Q nL ad w (pc + 1) lv (v :: v :: rest) cells slots) : V p l e s m args below meth c D ba d mc ms Q nL ad w pc lv (v :: rest) cells slots := fun H locs ls hM hS hl => lv_dup C.1 C.2.1 h hc (k H locs ls hM hS hl)
theorem V_dup2 (C : Cx p l s m args meth c D ba own cc nL tb d) {v v2 : Value} (h : decode cc pc = .ok (.dup2, 1)) (hc : v.category = 1) (hc2 : v2.category = 1) (k : V p l e s m args below meth c D ba d mc ms Q nL ad w (pc + 1) lv (v :: v2 :: v :: v2 :: rest) cells slots) : V p l e s m args below meth c D ba d mc ms Q nL ad w pc lv (v :: v2 :: rest) cells slots := fun H locs ls hM hS hl => lv_dup2_11 C.1 C.2.1 h hc hc2 (k H locs ls hM hS hl)
theorem V_pop (C : Cx p l s m args meth c D ba own cc nL tb d) {v : Value} (h : decode cc pc = .ok (.pop, 1)) (hc : v.category = 1) (k : V p l e s m args below meth c D ba d mc ms Q nL ad w (pc + 1) lv rest cells slots) : V p l e s m args below meth c D ba d mc ms Q nL ad w pc lv (v :: rest) cells slots := fun H locs ls hM hS hl => lv_pop C.1 C.2.1 h hc (k H locs ls hM hS hl)
theorem V_dup_x1 (C : Cx p l s m args meth c D ba own cc nL tb d) {v v2 : Value} (h : decode cc pc = .ok (.dup_x1, 1)) (hc : v.category = 1) (hc2 : v2.category = 1) (k : V p l e s m args below meth c D ba d mc ms Q nL ad w (pc + 1) lv (v :: v2 :: v :: rest) cells slots) : V p l e s m args below meth c D ba d mc ms Q nL ad w pc lv (v :: v2 :: rest) cells slots := fun H locs ls hM hS hl => lv_dup_x1 C.1 C.2.1 h hc hc2 (k H locs ls hM hS hl)
theorem V_ldc2 (C : Cx p l s m args meth c D ba own cc nL tb d) {i : Nat} {v : Int64} (h : decode cc pc = .ok (.ldc2_w i, 3)) (hw : Cond.constantLong own i v ∈ eg_T) (k : V p l e s m args below meth c D ba d mc ms Q nL ad w (pc + 3) lv (.long v :: rest) cells slots) : V p l e s m args below meth c D ba d mc ms Q nL ad w pc lv rest cells slots := fun H locs ls hM hS hl => W.ldc2 C.1 C.2.1 C.2.2.2.1 (C.2.2.2.2.1 _ hw) rfl h (k H locs ls hM hS hl)
theorem V_if_eq (C : Cx p l s m args meth c D ba own cc nL tb d) {x : Int32} {off : Int} {tgt : Nat} (h : decode cc pc = .ok (.ifCond .eq off, 3)) (ht : (pc : Int) + off = (tgt : Int)) (kt : x = 0 → V p l e s m args below meth c D ba d mc ms Q nL ad w tgt lv rest cells slots) (kf : ¬ x = 0 → V p l e s m args below meth c D ba d mc ms Q nL ad w (pc + 3) lv rest cells slots) : V p l e s m args below meth c D ba d mc ms Q nL ad w pc lv (.int x :: rest) cells slots := fun H locs ls hM hS hl => lv_if_eq C.1 C.2.1 h ht (fun q => kt q H locs ls hM hS hl) (fun q => kf q H locs ls hM hS hl)
theorem V_if_ne (C : Cx p l s m args meth c D ba own cc nL tb d) {x : Int32} {off : Int} {tgt : Nat} (h : decode cc pc = .ok (.ifCond .ne off, 3)) (ht : (pc : Int) + off = (tgt : Int)) (kt : ¬ x = 0 → V p l e s m args below meth c D ba d mc ms Q nL ad w tgt lv rest cells slots) (kf : x = 0 → V p l e s m args below meth c D ba d mc ms Q nL ad w (pc + 3) lv rest cells slots) : V p l e s m args below meth c D ba d mc ms Q nL ad w pc lv (.int x :: rest) cells slots := fun H locs ls hM hS hl => lv_if_ne C.1 C.2.1 h ht (fun q => kt q H locs ls hM hS hl) (fun q => kf q H locs ls hM hS hl)
theorem V_if_lt (C : Cx p l s m args meth c D ba own cc nL tb d) {x : Int32} {off : Int} {tgt : Nat} (h : decode cc pc = .ok (.ifCond .lt off, 3)) (ht : (pc : Int) + off = (tgt : Int)) (kt : x < 0 → V p l e s m args below meth c D ba d mc ms Q nL ad w tgt lv rest cells slots) (kf : ¬ x < 0 → V p l e s m args below meth c D ba d mc ms Q nL ad w (pc + 3) lv rest cells slots) : V p l e s m args below meth c D ba d mc ms Q nL ad w pc lv (.int x :: rest) cells slots := fun H locs ls hM hS hl => lv_if_lt C.1 C.2.1 h ht (fun q => kt q H locs ls hM hS hl) (fun q => kf q H locs ls hM hS hl)
theorem V_if_ge (C : Cx p l s m args meth c D ba own cc nL tb d) {x : Int32} {off : Int} {tgt : Nat} (h : decode cc pc = .ok (.ifCond .ge off, 3)) (ht : (pc : Int) + off = (tgt : Int)) (kt : 0 ≤ x → V p l e s m args below meth c D ba d mc ms Q nL ad w tgt lv rest cells slots) (kf : ¬ 0 ≤ x → V p l e s m args below meth c D ba d mc ms Q nL ad w (pc + 3) lv rest cells slots) : V p l e s m args below meth c D ba d mc ms Q nL ad w pc lv (.int x :: rest) cells slots := fun H locs ls hM hS hl => lv_if_ge C.1 C.2.1 h ht (fun q => kt q H locs ls hM hS hl) (fun q => kf q H locs ls hM hS hl)
theorem V_if_gt (C : Cx p l s m args meth c D ba own cc nL tb d) {x : Int32} {off : Int} {tgt : Nat} (h : decode cc pc = .ok (.ifCond .gt off, 3)) (ht : (pc : Int) + off = (tgt : Int)) (kt : 0 < x → V p l e s m args below meth c D ba d mc ms Q nL ad w tgt lv rest cells slots) (kf : ¬ 0 < x → V p l e s m args below meth c D ba d mc ms Q nL ad w (pc + 3) lv rest cells slots) : V p l e s m args below meth c D ba d mc ms Q nL ad w pc lv (.int x :: rest) cells slots := fun H locs ls hM hS hl => lv_if_gt C.1 C.2.1 h ht (fun q => kt q H locs ls hM hS hl) (fun q => kf q H locs ls hM hS hl)
theorem V_if_le (C : Cx p l s m args meth c D ba own cc nL tb d) {x : Int32} {off : Int} {tgt : Nat} (h : decode cc pc = .ok (.ifCond .le off, 3)) (ht : (pc : Int) + off = (tgt : Int)) (kt : x ≤ 0 → V p l e s m args below meth c D ba d mc ms Q nL ad w tgt lv rest cells slots) (kf : ¬ x ≤ 0 → V p l e s m args below meth c D ba d mc ms Q nL ad w (pc + 3) lv rest cells slots) : V p l e s m args below meth c D ba d mc ms Q nL ad w pc lv (.int x :: rest) cells slots := fun H locs ls hM hS hl => lv_if_le C.1 C.2.1 h ht (fun q => kt q H locs ls hM hS hl) (fun q => kf q H locs ls hM hS hl)
theorem V_icmp_eq (C : Cx p l s m args meth c D ba own cc nL tb d) {x y : Int32} {off : Int} {tgt : Nat} (h : decode cc pc = .ok (.if_icmp .eq off, 3)) (ht : (pc : Int) + off = (tgt : Int)) (kt : x = y → V p l e s m args below meth c D ba d mc ms Q nL ad w tgt lv rest cells slots) (kf : ¬ x = y → V p l e s m args below meth c D ba d mc ms Q nL ad w (pc + 3) lv rest cells slots) : V p l e s m args below meth c D ba d mc ms Q nL ad w pc lv (.int y :: .int x :: rest) cells slots := fun H locs ls hM hS hl => lv_icmp_eq C.1 C.2.1 h ht (fun q => kt q H locs ls hM hS hl) (fun q => kf q H locs ls hM hS hl)
theorem V_icmp_ne (C : Cx p l s m args meth c D ba own cc nL tb d) {x y : Int32} {off : Int} {tgt : Nat} (h : decode cc pc = .ok (.if_icmp .ne off, 3)) (ht : (pc : Int) + off = (tgt : Int)) (kt : ¬ x = y → V p l e s m args below meth c D ba d mc ms Q nL ad w tgt lv rest cells slots) (kf : x = y → V p l e s m args below meth c D ba d mc ms Q nL ad w (pc + 3) lv rest cells slots) : V p l e s m args below meth c D ba d mc ms Q nL ad w pc lv (.int y :: .int x :: rest) cells slots := fun H locs ls hM hS hl => lv_icmp_ne C.1 C.2.1 h ht (fun q => kt q H locs ls hM hS hl) (fun q => kf q H locs ls hM hS hl)
theorem V_icmp_lt (C : Cx p l s m args meth c D ba own cc nL tb d) {x y : Int32} {off : Int} {tgt : Nat} (h : decode cc pc = .ok (.if_icmp .lt off, 3)) (ht : (pc : Int) + off = (tgt : Int)) (kt : x < y → V p l e s m args below meth c D ba d mc ms Q nL ad w tgt lv rest cells slots) (kf : ¬ x < y → V p l e s m args below meth c D ba d mc ms Q nL ad w (pc + 3) lv rest cells slots) : V p l e s m args below meth c D ba d mc ms Q nL ad w pc lv (.int y :: .int x :: rest) cells slots := fun H locs ls hM hS hl => lv_icmp_lt C.1 C.2.1 h ht (fun q => kt q H locs ls hM hS hl) (fun q => kf q H locs ls hM hS hl)
theorem V_icmp_ge (C : Cx p l s m args meth c D ba own cc nL tb d) {x y : Int32} {off : Int} {tgt : Nat} (h : decode cc pc = .ok (.if_icmp .ge off, 3)) (ht : (pc : Int) + off = (tgt : Int)) (kt : y ≤ x → V p l e s m args below meth c D ba d mc ms Q nL ad w tgt lv rest cells slots) (kf : ¬ y ≤ x → V p l e s m args below meth c D ba d mc ms Q nL ad w (pc + 3) lv rest cells slots) : V p l e s m args below meth c D ba d mc ms Q nL ad w pc lv (.int y :: .int x :: rest) cells slots := fun H locs ls hM hS hl => lv_icmp_ge C.1 C.2.1 h ht (fun q => kt q H locs ls hM hS hl) (fun q => kf q H locs ls hM hS hl)
theorem V_icmp_gt (C : Cx p l s m args meth c D ba own cc nL tb d) {x y : Int32} {off : Int} {tgt : Nat} (h : decode cc pc = .ok (.if_icmp .gt off, 3)) (ht : (pc : Int) + off = (tgt : Int)) (kt : y < x → V p l e s m args below meth c D ba d mc ms Q nL ad w tgt lv rest cells slots) (kf : ¬ y < x → V p l e s m args below meth c D ba d mc ms Q nL ad w (pc + 3) lv rest cells slots) : V p l e s m args below meth c D ba d mc ms Q nL ad w pc lv (.int y :: .int x :: rest) cells slots := fun H locs ls hM hS hl => lv_icmp_gt C.1 C.2.1 h ht (fun q => kt q H locs ls hM hS hl) (fun q => kf q H locs ls hM hS hl)
theorem V_icmp_le (C : Cx p l s m args meth c D ba own cc nL tb d) {x y : Int32} {off : Int} {tgt : Nat} (h : decode cc pc = .ok (.if_icmp .le off, 3)) (ht : (pc : Int) + off = (tgt : Int)) (kt : x ≤ y → V p l e s m args below meth c D ba d mc ms Q nL ad w tgt lv rest cells slots) (kf : ¬ x ≤ y → V p l e s m args below meth c D ba d mc ms Q nL ad w (pc + 3) lv rest cells slots) : V p l e s m args below meth c D ba d mc ms Q nL ad w pc lv (.int y :: .int x :: rest) cells slots := fun H locs ls hM hS hl => lv_icmp_le C.1 C.2.1 h ht (fun q => kt q H locs ls hM hS hl) (fun q => kf q H locs ls hM hS hl)
theorem V_goto (C : Cx p l s m args meth c D ba own cc nL tb d) {off : Int} {tgt : Nat} (h : decode cc pc = .ok (.goto off, 3)) (ht : (pc : Int) + off = (tgt : Int)) (k : V p l e s m args below meth c D ba d mc ms Q nL ad w tgt lv rest cells slots) : V p l e s m args below meth c D ba d mc ms Q nL ad w pc lv rest cells slots := fun H locs ls hM hS hl => lv_goto C.1 C.2.1 h ht (k H locs ls hM hS hl)
theorem V_ifnull (C : Cx p l s m args meth c D ba own cc nL tb d) {x : Nat} {off : Int} (h : decode cc pc = .ok (.ifnull off, 3)) (k : V p l e s m args below meth c D ba d mc ms Q nL ad w (pc + 3) lv rest cells slots) : V p l e s m args below meth c D ba d mc ms Q nL ad w pc lv (.ref x :: rest) cells slots := fun H locs ls hM hS hl => lv_ifnull C.1 C.2.1 h (k H locs ls hM hS hl)
theorem V_ifnullN (C : Cx p l s m args meth c D ba own cc nL tb d) {off : Int} {tgt : Nat} (h : decode cc pc = .ok (.ifnull off, 3)) (ht : (pc : Int) + off = (tgt : Int)) (k : V p l e s m args below meth c D ba d mc ms Q nL ad w tgt lv rest cells slots) : V p l e s m args below meth c D ba d mc ms Q nL ad w pc lv (.null :: rest) cells slots := fun H locs ls hM hS hl => lv_ifnullN C.1 C.2.1 h ht (k H locs ls hM hS hl)
theorem V_ifnonnull (C : Cx p l s m args meth c D ba own cc nL tb d) {x : Nat} {off : Int} {tgt : Nat} (h : decode cc pc = .ok (.ifnonnull off, 3)) (ht : (pc : Int) + off = (tgt : Int)) (k : V p l e s m args below meth c D ba d mc ms Q nL ad w tgt lv rest cells slots) : V p l e s m args below meth c D ba d mc ms Q nL ad w pc lv (.ref x :: rest) cells slots := fun H locs ls hM hS hl => lv_ifnonnull C.1 C.2.1 h ht (k H locs ls hM hS hl)
theorem V_ifnonnullN (C : Cx p l s m args meth c D ba own cc nL tb d) {off : Int} (h : decode cc pc = .ok (.ifnonnull off, 3)) (k : V p l e s m args below meth c D ba d mc ms Q nL ad w (pc + 3) lv rest cells slots) : V p l e s m args below meth c D ba d mc ms Q nL ad w pc lv (.null :: rest) cells slots := fun H locs ls hM hS hl => lv_ifnonnullN C.1 C.2.1 h (k H locs ls hM hS hl)
theorem V_aload_nN (C : Cx p l s m args meth c D ba own cc nL tb d) {i : Fin 4} (h : decode cc pc = .ok (.aload_n i, 1)) (j : Nat) (hj : lv[j]? = some ((i : Nat), .null)) (k : V p l e s m args below meth c D ba d mc ms Q nL ad w (pc + 1) lv (.null :: rest) cells slots) : V p l e s m args below meth c D ba d mc ms Q nL ad w pc lv rest cells slots := fun H locs ls hM hS hl => lv_aload_nN C.1 C.2.1 h rfl (lv_at hl j hj) (k H locs ls hM hS hl)
theorem V_aloadN (C : Cx p l s m args meth c D ba own cc nL tb d) {i : Nat} (h : decode cc pc = .ok (.aload i, 2)) (j : Nat) (hj : lv[j]? = some (i, .null)) (k : V p l e s m args below meth c D ba d mc ms Q nL ad w (pc + 2) lv (.null :: rest) cells slots) : V p l e s m args below meth c D ba d mc ms Q nL ad w pc lv rest cells slots := fun H locs ls hM hS hl => lv_aloadN C.1 C.2.1 h (lv_at hl j hj) (k H locs ls hM hS hl)
theorem V_tableIn (C : Cx p l s m args meth c D ba own cc nL tb d) {dflt lo hi : Int} {offs : Array Int} {len : Nat} {x : Int32} {off : Int} {tgt : Nat} (h : decode cc pc = .ok (.tableswitch dflt lo hi offs, len)) (h1 : ¬ x.toInt < lo) (h2 : ¬ hi < x.toInt) (ho : offs[(x.toInt - lo).toNat]? = some off) (ht : (pc : Int) + off = (tgt : Int)) (k : V p l e s m args below meth c D ba d mc ms Q nL ad w tgt lv rest cells slots) : V p l e s m args below meth c D ba d mc ms Q nL ad w pc lv (.int x :: rest) cells slots := fun H locs ls hM hS hl => lv_tableIn C.1 C.2.1 h h1 h2 ho ht (k H locs ls hM hS hl)
theorem V_tableOut (C : Cx p l s m args meth c D ba own cc nL tb d) {dflt lo hi : Int} {offs : Array Int} {len : Nat} {x : Int32} {tgt : Nat} (h : decode cc pc = .ok (.tableswitch dflt lo hi offs, len)) (h1 : x.toInt < lo ∨ hi < x.toInt) (ht : (pc : Int) + dflt = (tgt : Int)) (k : V p l e s m args below meth c D ba d mc ms Q nL ad w tgt lv rest cells slots) : V p l e s m args below meth c D ba d mc ms Q nL ad w pc lv (.int x :: rest) cells slots := fun H locs ls hM hS hl => lv_tableOut C.1 C.2.1 h h1 ht (k H locs ls hM hS hl)
end EG
end
section
section EH
variable {p : Program} {l : Launch} {e : Env} {s : State} {m : MethodId} {args : Array Value} {below : List Frame} {meth : Method} {c : Code} {D : va_G} {ba : Nat} {d mc ms : Nat} {Q : State → Prop} {nL : Nat} {ad : Adr} {w : Wd} {pc : Nat} {lv : List (Nat × Value)} {rest : List Value} {cells slots : Nat}
variable {own : String} {cc : ByteArray} {tb : List ExceptionTableEntry}
theorem eg_one {D : va_G} {cl : List vw_C} {a : Nat} {x : va_E} {H : Heap} (h : va_at D cl (a, x) H) : va_P D cl [(a, x)] H := by
  intro k q hk
  match k, hk with
  | 0, hk => cases hk; exact h
theorem eg_K1 {cA : ClassId} {ty : FieldType} {U : State} (h : va_K D vwCl [] U) (h1 : ArrOfT U cA ty) (h2 : va_RA U cA ty) : va_K D vwCl [(cA, ty)] U :=
  ⟨h.1, fun k q hk => by
    match k, hk with
    | 0, hk => cases hk; exact ⟨h1, h2⟩⟩
/-- the field tables' words among all words -/
def eg_FW (C : String) (T : u_T) (N : Nat) : Prop := ∀ w ∈ u_ws C T N, w ∈ eg_T
theorem V_get (C : Cx p l s m args meth c D ba own cc nL tb d) {i ci k : Nat} {fs : List Value} {v : Value} {L : Lab} {a : Nat} (h : decode cc pc = .ok (.getfield i, 3)) (ref K : String) (T : u_T) (N : Nat) (hF : eg_FW K T N) (hc : vwCl[ci]? = some (K, T, N)) (hk : k < N) (hlink : Cond.fieldLink own i ref (T k).2.1 (T k).2.2.1 ∈ eg_T) (hsame : (T k).1 = ref) (ha : a = ad L) (hw : w L = some (.inr (ci, fs))) (hv : fs[k]? = some v)
    (kk : V p l e s m args below meth c D ba d mc ms Q nL ad w (pc + 3) lv (v :: rest) cells slots) : V p l e s m args below meth c D ba d mc ms Q nL ad w pc lv (.ref a :: rest) cells slots := by
  intro H locs ls hM hS hl
  subst ha
  have h1 : va_at D vwCl (ad L, .inr (ci, fs)) H := (hM.1 _ _ hw).1
  exact va_get (D := D) (cl := vwCl) (ci := ci) (C := K) (T := T) (N := N) (tys := []) C.1 C.2.1 C.2.2.2.2.1 hF C.2.2.2.1 C.2.2.2.2.2.1.1 (eg_one h1) 0 rfl hc k hk (C.2.2.2.2.1 _ hlink) (fun _ z => by rw [← hsame]; exact z) hv h (kk H locs ls hM hS hl)
theorem V_getN (C : Cx p l s m args meth c D ba own cc nL tb d) {i ci k : Nat} {fs : List Value} {v : Value} {L : Lab} {a : Nat} (h : decode cc pc = .ok (.getfield i, 3)) (ref K host : String) (T : u_T) (N : Nat) (hF : eg_FW K T N) (hc : vwCl[ci]? = some (K, T, N)) (hk : k < N) (hlink : Cond.fieldLinkNest own i ref (T k).2.1 (T k).2.2.1 host ∈ lw_tbl) (hsame : (T k).1 = ref) (ha : a = ad L) (hw : w L = some (.inr (ci, fs))) (hv : fs[k]? = some v)
    (kk : V p l e s m args below meth c D ba d mc ms Q nL ad w (pc + 3) lv (v :: rest) cells slots) : V p l e s m args below meth c D ba d mc ms Q nL ad w pc lv (.ref a :: rest) cells slots := by
  intro H locs ls hM hS hl
  subst ha
  have h1 : va_at D vwCl (ad L, .inr (ci, fs)) H := (hM.1 _ _ hw).1
  exact va_getN (D := D) (cl := vwCl) (ci := ci) (C := K) (T := T) (N := N) (tys := []) C.1 C.2.1 C.2.2.2.2.1 hF C.2.2.2.1 C.2.2.2.2.2.1.1 (eg_one h1) 0 rfl hc k hk (va_Nw.use rfl (C.2.2.2.2.2.1.2.1 _ hlink rfl)) (fun _ z => by rw [← hsame]; exact z) hv h (kk H locs ls hM hS hl)
theorem V_put (C : Cx p l s m args meth c D ba own cc nL tb d) {i ci k : Nat} {fs : List Value} {v : Value} {L : Lab} {a : Nat} (h : decode cc pc = .ok (.putfield i, 3)) (ref K : String) (T : u_T) (N : Nat) (ty0 : Nat → FieldType) (hty : ∀ k, k < N → parseFieldDescriptor (T k).2.2.1 = some (ty0 k)) (hnm : ∀ a, a < N → ∀ b, b < N → a ≠ b → (T a).2.1 ≠ (T b).2.1) (hF : eg_FW K T N) (hc : vwCl[ci]? = some (K, T, N)) (hk : k < N) (hlink : Cond.fieldLink own i ref (T k).2.1 (T k).2.2.1 ∈ eg_T) (hsame : (T k).1 = ref) (hfin : (T k).2.2.2 = false ∨ ((T k).2.2.2 = true ∧ meth.name = "<init>" ∧ (T k).1 = own)) (hn : narrow (ty0 k) v = v) (hfit : fits (ty0 k) v = true) (ha : a = ad L) (hw : w L = some (.inr (ci, fs))) (hl0 : k < fs.length)
    (kk : V p l e s m args below meth c D ba d mc ms Q nL ad (wset w L (.inr (ci, fs.set k v))) (pc + 3) lv rest cells slots) : V p l e s m args below meth c D ba d mc ms Q nL ad w pc lv (v :: .ref a :: rest) cells slots := by
  intro H locs ls hM hS hlv
  subst ha
  have hts := C.2.2.2.2.1
  have hK := C.2.2.2.2.2.1.1
  have hap := va_apart (own := own) hts hF ty0 hty hnm hK hc
  obtain ⟨r, h1, cell, q1, q2, q3, q4⟩ := (hM.1 _ _ hw).1
  have hr : r = (K, T, N) := Option.some.inj (h1.symm.trans hc)
  subst hr
  obtain ⟨hSl, hfc, kC, hkC, hkind⟩ := hK.1 ci _ hc
  obtain ⟨cf, kf, fi, f, hi, hsl⟩ := hSl k hk
  have hlay := hts _ (hF _ (u_in_lay hk))
  have hd := hty k hk
  have hi2 : s.fieldFound? ref (T k).2.1 (T k).2.2.1 = some (cf, kf, fi, f) := by rw [← hsame]; exact hi
  have fin : ∀ (H' : Heap), H'[ad L]? = some (cell.setSlot f.slot v) → H'.size = H.size → (∀ q, q ≠ ad L → H'[q]? = H[q]?) → W p l e (rmO d mc ms) s m args below meth c H' (locs ++ [⟨ad L, f.slot⟩]) cells slots Q (F0 m (pc + 3) ls rest) := by
    intro H' e1 e2 e3
    rw [hsl] at e1
    refine kk H' _ ls (hM.set hw ⟨_, hc, t_OB.to (V := updV (vp_V fs) k v) ⟨_, e1, q2, q3, t_set q4 hap hk v⟩ (fun j _ => vp_updV_set hl0 v j)⟩ e3) (hS.put e2 e3 (hM.1 _ _ hw).2) hlv
  rcases hfin with hfin | ⟨hfin, hin2, hdecl⟩
  · unfold u_lay at hlay
    rw [if_neg (by rw [hfin]; decide)] at hlay
    have hst := (u_facts hfc hkC (u_lays hts hF hk) hi).1
    have h6 := u_store hfc hkC hkind hlay hi hd hn hfit
    exact W.putK C.1 C.2.1 (f := f) ⟨C.2.2.2.1, hts _ hlink, ⟨_, _, _, hi2⟩, hst⟩ (by rw [q2]; exact h6) q1 q3 (by rw [hsl]; exact k2_hasslot (q4 k hk)) rfl rfl h fin
  · unfold u_lay at hlay
    rw [if_pos hfin] at hlay
    have hst := (u_facts hfc hkC (u_lays hts hF hk) hi).1
    have hcf : m.cls = cf := by
      obtain ⟨_, _, c', _, _, _, -, -, hf', -, -, -, hown2, -⟩ := Cond.laysFinal_spec hlay
      have e1 : c' = cf := by have := hi.symm.trans hf'; simp at this; exact this.1.symm
      rw [hdecl] at hown2
      rw [← e1]; exact Option.some.inj (C.2.2.2.1.symm.trans hown2)
    have h6 := u_fits hfc hkC hkind (Or.inr hlay) hi hd hn hfit
    exact W.putFinK C.1 C.2.1 C.2.2.2.1 (hts _ hlink) hi2 hst hcf hin2 (by rw [q2]; exact h6) q1 q3 (by rw [hsl]; exact k2_hasslot (q4 k hk)) rfl rfl h fin
theorem V_putN (C : Cx p l s m args meth c D ba own cc nL tb d) {i ci k : Nat} {fs : List Value} {v : Value} {L : Lab} {a : Nat} (h : decode cc pc = .ok (.putfield i, 3)) (ref K host : String) (T : u_T) (N : Nat) (ty0 : Nat → FieldType) (hty : ∀ k, k < N → parseFieldDescriptor (T k).2.2.1 = some (ty0 k)) (hnm : ∀ a, a < N → ∀ b, b < N → a ≠ b → (T a).2.1 ≠ (T b).2.1) (hF : eg_FW K T N) (hc : vwCl[ci]? = some (K, T, N)) (hk : k < N) (hlink : Cond.fieldLinkNest own i ref (T k).2.1 (T k).2.2.1 host ∈ lw_tbl) (hsame : (T k).1 = ref) (hfin : (T k).2.2.2 = false) (hn : narrow (ty0 k) v = v) (hfit : fits (ty0 k) v = true) (ha : a = ad L) (hw : w L = some (.inr (ci, fs))) (hl0 : k < fs.length)
    (kk : V p l e s m args below meth c D ba d mc ms Q nL ad (wset w L (.inr (ci, fs.set k v))) (pc + 3) lv rest cells slots) : V p l e s m args below meth c D ba d mc ms Q nL ad w pc lv (v :: .ref a :: rest) cells slots := by
  intro H locs ls hM hS hlv
  subst ha
  have hts := C.2.2.2.2.1
  have hK := C.2.2.2.2.2.1.1
  have hap := va_apart (own := own) hts hF ty0 hty hnm hK hc
  obtain ⟨r, h1, cell, q1, q2, q3, q4⟩ := (hM.1 _ _ hw).1
  have hr : r = (K, T, N) := Option.some.inj (h1.symm.trans hc)
  subst hr
  obtain ⟨hSl, hfc, kC, hkC, hkind⟩ := hK.1 ci _ hc
  obtain ⟨cf, kf, fi, f, hi, hsl⟩ := hSl k hk
  have hlay := hts _ (hF _ (u_in_lay hk))
  have hd := hty k hk
  have hi2 : s.fieldFound? ref (T k).2.1 (T k).2.2.1 = some (cf, kf, fi, f) := by rw [← hsame]; exact hi
  unfold u_lay at hlay
  rw [if_neg (by rw [hfin]; decide)] at hlay
  have hst := (u_facts hfc hkC (u_lays hts hF hk) hi).1
  have h6 := u_store hfc hkC hkind hlay hi hd hn hfit
  refine va_WputK C.1 C.2.1 (f := f) C.2.2.2.1 (va_Nw.use rfl (C.2.2.2.2.2.1.2.1 _ hlink rfl)) hi2 hst (by rw [q2]; exact h6) q1 q3 (by rw [hsl]; exact k2_hasslot (q4 k hk)) rfl rfl h ?_
  intro H' e1 e2 e3
  rw [hsl] at e1
  exact kk H' _ ls (hM.set hw ⟨_, hc, t_OB.to (V := updV (vp_V fs) k v) ⟨_, e1, q2, q3, t_set q4 hap hk v⟩ (fun j _ => vp_updV_set hl0 v j)⟩ e3) (hS.put e2 e3 (hM.1 _ _ hw).2) hlv
/-! arrays -/
abbrev eI (n : Nat) (f : Nat → Int32) : Ent := .inl (.int, n, .inl f)
abbrev eJ (n : Nat) (f : Nat → Int64) : Ent := .inl (.long, n, .inr (.inl f))
abbrev eQ (C : String) (n : Nat) (f : Nat → Option Nat) : Ent := .inl (.object C, n, .inr (.inr (.inr (.inr f))))
theorem V_iald (C : Cx p l s m args meth c D ba own cc nL tb d) {n : Nat} {f : Nat → Int32} {L : Lab} {a : Nat} {i : Int32} (h : decode cc pc = .ok (.iaload, 1)) (ha : a = ad L) (hw : w L = some (eI n f)) (hin : vp_in i n)
    (kk : V p l e s m args below meth c D ba d mc ms Q nL ad w (pc + 1) lv (.int (f i.toNatClampNeg) :: rest) cells slots) : V p l e s m args below meth c D ba d mc ms Q nL ad w pc lv (.int i :: .ref a :: rest) cells slots := by
  intro H locs ls hM hS hl
  subst ha
  obtain ⟨cA, ⟨h1, h2⟩, h3⟩ := (hM.1 _ _ hw).1
  exact va_iald (D := D) (cl := vwCl) C.1 C.2.1 (eg_K1 C.2.2.2.2.2.1.1 h1 h2) (eg_one (x := .inl (cA, n, .inl f)) h3) 0 0 rfl rfl hin h (kk H locs ls hM hS hl)
theorem V_lald (C : Cx p l s m args meth c D ba own cc nL tb d) {n : Nat} {f : Nat → Int64} {L : Lab} {a : Nat} {i : Int32} (h : decode cc pc = .ok (.laload, 1)) (ha : a = ad L) (hw : w L = some (eJ n f)) (hin : vp_in i n)
    (kk : V p l e s m args below meth c D ba d mc ms Q nL ad w (pc + 1) lv (.long (f i.toNatClampNeg) :: rest) cells slots) : V p l e s m args below meth c D ba d mc ms Q nL ad w pc lv (.int i :: .ref a :: rest) cells slots := by
  intro H locs ls hM hS hl
  subst ha
  obtain ⟨cA, ⟨h1, h2⟩, h3⟩ := (hM.1 _ _ hw).1
  exact va_lald (D := D) (cl := vwCl) C.1 C.2.1 (eg_K1 C.2.2.2.2.2.1.1 h1 h2) (eg_one (x := .inl (cA, n, .inr (.inl f))) h3) 0 0 rfl rfl hin h (kk H locs ls hM hS hl)
theorem V_aald (C : Cx p l s m args meth c D ba own cc nL tb d) {K : String} {n : Nat} {f : Nat → Option Nat} {L : Lab} {a : Nat} {i : Int32} {v : Value} (h : decode cc pc = .ok (.aaload, 1)) (ha : a = ad L) (hw : w L = some (eQ K n f)) (hin : vp_in i n) (hv : va_rf (f i.toNatClampNeg) = v)
    (kk : V p l e s m args below meth c D ba d mc ms Q nL ad w (pc + 1) lv (v :: rest) cells slots) : V p l e s m args below meth c D ba d mc ms Q nL ad w pc lv (.int i :: .ref a :: rest) cells slots := by
  intro H locs ls hM hS hl
  subst ha
  subst hv
  obtain ⟨cA, ⟨h1, h2⟩, h3⟩ := (hM.1 _ _ hw).1
  exact va_aldq (D := D) (cl := vwCl) C.1 C.2.1 (eg_K1 C.2.2.2.2.2.1.1 h1 h2) (eg_one (x := .inl (cA, n, .inr (.inr (.inr (.inr f))))) h3) 0 0 rfl rfl hin h (kk H locs ls hM hS hl)
theorem V_alen (C : Cx p l s m args meth c D ba own cc nL tb d) {x : FieldType × vp_A} {L : Lab} {a : Nat} {v : Int32} (h : decode cc pc = .ok (.arraylength, 1)) (ha : a = ad L) (hw : w L = some (.inl x)) (hv : Int32.ofNat x.2.1 = v)
    (kk : V p l e s m args below meth c D ba d mc ms Q nL ad w (pc + 1) lv (.int v :: rest) cells slots) : V p l e s m args below meth c D ba d mc ms Q nL ad w pc lv (.ref a :: rest) cells slots := by
  intro H locs ls hM hS hl
  subst ha
  obtain ⟨cA, ⟨h1, h2⟩, h3⟩ := (hM.1 _ _ hw).1
  exact va_alen (D := D) (cl := vwCl) C.1 C.2.1 (eg_K1 C.2.2.2.2.2.1.1 h1 h2) (eg_one (x := .inl (cA, x.2)) h3) 0 0 rfl rfl hv h (kk H locs ls hM hS hl)
theorem V_iast (C : Cx p l s m args meth c D ba own cc nL tb d) {n : Nat} {f : Nat → Int32} {L : Lab} {a : Nat} {i x : Int32} (h : decode cc pc = .ok (.iastore, 1)) (ha : a = ad L) (hw : w L = some (eI n f)) (hin : vp_in i n)
    (kk : V p l e s m args below meth c D ba d mc ms Q nL ad (wset w L (eI n (upd f i.toNatClampNeg x))) (pc + 1) lv rest cells slots) : V p l e s m args below meth c D ba d mc ms Q nL ad w pc lv (.int x :: .int i :: .ref a :: rest) cells slots := by
  intro H locs ls hM hS hl
  subst ha
  obtain ⟨cA, ⟨h1, h2⟩, h3⟩ := (hM.1 _ _ hw).1
  refine W.iast C.1 C.2.1 h3 (h1 n (fun j => .int (f j))) (fun q => by cases q) (by show ¬ (i < 0 ∨ (arrV _ _ _).slots.size ≤ _); rw [arrV_size]; exact hin) rfl rfl h fun H1 e1 z oq => ?_
  refine kk H1 _ ls (hM.set hw ⟨cA, ⟨h1, h2⟩, ?_⟩ oq) (hS.put z oq (hM.1 _ _ hw).2) hl
  show H1[ad L]? = some (vp_cell _ _)
  rw [e1]
  rw [vp_cell_i, vp_cell_i, arrV_store]
  congr 2
  funext q
  by_cases hq : q = i.toNatClampNeg
  · subst hq
    simp [updV, upd]
  · simp [updV, upd, hq]
theorem V_last (C : Cx p l s m args meth c D ba own cc nL tb d) {n : Nat} {f : Nat → Int64} {L : Lab} {a : Nat} {i : Int32} {x : Int64} (h : decode cc pc = .ok (.lastore, 1)) (ha : a = ad L) (hw : w L = some (eJ n f)) (hin : vp_in i n)
    (kk : V p l e s m args below meth c D ba d mc ms Q nL ad (wset w L (eJ n (vp_updL f i.toNatClampNeg x))) (pc + 1) lv rest cells slots) : V p l e s m args below meth c D ba d mc ms Q nL ad w pc lv (.long x :: .int i :: .ref a :: rest) cells slots := by
  intro H locs ls hM hS hl
  subst ha
  obtain ⟨cA, ⟨h1, h2⟩, h3⟩ := (hM.1 _ _ hw).1
  refine W.last C.1 C.2.1 h3 (h1 n (fun j => .long (f j))) (fun q => by cases q) (by show ¬ (i < 0 ∨ (arrV _ _ _).slots.size ≤ _); rw [arrV_size]; exact hin) rfl rfl h fun H1 e1 z oq => ?_
  refine kk H1 _ ls (hM.set hw ⟨cA, ⟨h1, h2⟩, ?_⟩ oq) (hS.put z oq (hM.1 _ _ hw).2) hl
  show H1[ad L]? = some (vp_cell _ _)
  rw [e1]
  rw [vp_cell_l, vp_cell_l, arrV_store]
  congr 2
  funext q
  by_cases hq : q = i.toNatClampNeg
  · subst hq
    simp [updV, vp_updL]
  · simp [updV, vp_updL, hq]
theorem V_aast (C : Cx p l s m args meth c D ba own cc nL tb d) {r : vw_C} {n ci : Nat} {f : Nat → Option Nat} {L Lv : Lab} {a b : Nat} {i : Int32} {vs : List Value} (h : decode cc pc = .ok (.aastore, 1)) (ha : a = ad L) (hw : w L = some (eQ r.1 n f)) (hb : b = ad Lv) (hv : w Lv = some (.inr (ci, vs))) (hc : vwCl[ci]? = some r) (hin : vp_in i n)
    (kk : V p l e s m args below meth c D ba d mc ms Q nL ad (wset w L (eQ r.1 n (va_up f i.toNatClampNeg (some b)))) (pc + 1) lv rest cells slots) : V p l e s m args below meth c D ba d mc ms Q nL ad w pc lv (.ref b :: .int i :: .ref a :: rest) cells slots := by
  intro H locs ls hM hS hl
  subst ha
  subst hb
  obtain ⟨cA, ⟨h1, h2⟩, h3⟩ := (hM.1 _ _ hw).1
  obtain ⟨r', hr', cellV, g1, g2, g3, -⟩ := (hM.1 _ _ hv).1
  have hlt : i.toNatClampNeg < n := Nat.not_le.mp fun q => hin (Or.inr q)
  have h0 : ¬ i < 0 := fun q => hin (Or.inl q)
  have hdv : va_RA s cA (.object r.1) := h2
  have hcls := (C.2.2.2.2.2.1.1.1 ci r hc).2
  obtain ⟨kA, comp, k1, k2, k3, -⟩ := h2
  have hcomp : comp = D.1 ci := Option.some.inj (k3.symm.trans hcls.1)
  subst hcomp
  obtain ⟨kC, hkC, -⟩ := hcls.2
  refine W.aast C.1 C.2.1 h3 (fun q h => by cases h) (fun h => by cases h) k1 k2 rfl hkC ⟨h0, by show _ < (arrV _ _ _).slots.size; rw [arrV_size]; exact hlt⟩ g1 (fun q h => by rw [g3] at h; cases h) (by rw [g2]; exact hkC) (by rw [g2]; exact va_assign hcls) rfl rfl h fun H1 e1 z oq => ?_
  refine kk H1 _ ls (hM.set hw ⟨cA, ⟨h1, hdv⟩, ?_⟩ oq) (hS.put z oq (hM.1 _ _ hw).2) hl
  show H1[ad L]? = some (vp_cell _ _)
  rw [e1]
  rw [vp_cell_q, vp_cell_q, arrV_store]
  congr 2
  funext q
  by_cases hq : q = i.toNatClampNeg
  · subst hq
    simp [updV, va_up, va_rf]
  · simp [updV, va_up, hq]
/-! making -/
theorem V_new (C : Cx p l s m args meth c D ba own cc nL tb d) {i ci : Nat} {fs : List Value} (L : Lab) (h : decode cc pc = .ok (.new i, 3)) (K : String) (T : u_T) (N : Nat) (ty0 : Nat → FieldType) (hty : ∀ k, k < N → parseFieldDescriptor (T k).2.2.1 = some (ty0 k)) (hF : eg_FW K T N) (hc : vwCl[ci]? = some (K, T, N)) (hl1 : Cond.classLink own i K ∈ eg_T) (hl2 : Cond.instantiable K N ∈ eg_T) (hl3 : Cond.initialized K ∈ eg_T) (hfs : ∀ j, j < N → defaultValue (ty0 j) = vp_V fs j) (hL : w L = none) (h1 : cells + 1 ≤ mc) (h2 : slots + N ≤ ms)
    (kk : ∀ a : Nat, V p l e s m args below meth c D ba d mc ms Q nL (aset ad L a) (wset w L (.inr (ci, fs))) (pc + 3) lv (.ref a :: rest) (cells + 1) (slots + N)) : V p l e s m args below meth c D ba d mc ms Q nL ad w pc lv rest cells slots := by
  intro H locs ls hM hS hl
  have hts := C.2.2.2.2.1
  have hKn := C.2.2.2.2.2.1.1.1 ci _ hc
  refine W.newcK C.1 C.2.1 C.2.2.2.1 (hts _ hl1) (hts _ hl2) (hts _ hl3) rfl h h1 h2 hKn.2.1 rfl fun H1 kC hkC e1 z1 o1 => ?_
  exact kk H.size H1 locs ls (hM.new hL (Nat.le_trans C.2.2.2.2.2.2.1 hS.1) ⟨_, hc, (u_born ty0 hts hF hKn hkC e1 hty).to hfs⟩ o1) ⟨Nat.le_trans hS.1 (by omega), fun x h1 h2 => (o1 x (Nat.lt_of_lt_of_le h1 hS.1)).trans (hS.2.1 x h1 h2), hS.2.2⟩ hl
theorem V_newI (C : Cx p l s m args meth c D ba own cc nL tb d) {n : Int32} {N : Nat} (L : Lab) (h : decode cc pc = .ok (.newarray .int, 2)) (hl1 : Cond.arrayClass .int ∈ eg_T) (hn : ¬ n < 0) (hN : n.toNatClampNeg = N) (hb : N * 4 ≤ 536870912) (hL : w L = none) (h1 : cells + 1 ≤ mc) (h2 : slots + N ≤ ms)
    (kk : ∀ a : Nat, V p l e s m args below meth c D ba d mc ms Q nL (aset ad L a) (wset w L (eI N (fun _ => 0))) (pc + 2) lv (.ref a :: rest) (cells + 1) (slots + N)) : V p l e s m args below meth c D ba d mc ms Q nL ad w pc lv (.int n :: rest) cells slots := by
  intro H locs ls hM hS hl
  refine va_newaK (atype := .int) C.1 C.2.1 (C.2.2.2.2.1 _ hl1) rfl h rfl hn hN hb h1 h2 rfl fun H1 cA e1 z1 o1 hAr hNm => ?_
  exact kk H.size H1 locs ls (hM.new hL (Nat.le_trans C.2.2.2.2.2.2.1 hS.1) ⟨cA, ⟨hAr, hNm⟩, e1⟩ o1) ⟨Nat.le_trans hS.1 (by omega), fun x h1 h2 => (o1 x (Nat.lt_of_lt_of_le h1 hS.1)).trans (hS.2.1 x h1 h2), hS.2.2⟩ hl
theorem V_newJ (C : Cx p l s m args meth c D ba own cc nL tb d) {n : Int32} {N : Nat} (L : Lab) (h : decode cc pc = .ok (.newarray .long, 2)) (hl1 : Cond.arrayClass .long ∈ eg_T) (hn : ¬ n < 0) (hN : n.toNatClampNeg = N) (hb : N * 8 ≤ 536870912) (hL : w L = none) (h1 : cells + 1 ≤ mc) (h2 : slots + N ≤ ms)
    (kk : ∀ a : Nat, V p l e s m args below meth c D ba d mc ms Q nL (aset ad L a) (wset w L (eJ N (fun _ => 0))) (pc + 2) lv (.ref a :: rest) (cells + 1) (slots + N)) : V p l e s m args below meth c D ba d mc ms Q nL ad w pc lv (.int n :: rest) cells slots := by
  intro H locs ls hM hS hl
  refine va_newaK (atype := .long) C.1 C.2.1 (C.2.2.2.2.1 _ hl1) rfl h rfl hn hN hb h1 h2 rfl fun H1 cA e1 z1 o1 hAr hNm => ?_
  exact kk H.size H1 locs ls (hM.new hL (Nat.le_trans C.2.2.2.2.2.2.1 hS.1) ⟨cA, ⟨hAr, hNm⟩, e1⟩ o1) ⟨Nat.le_trans hS.1 (by omega), fun x h1 h2 => (o1 x (Nat.lt_of_lt_of_le h1 hS.1)).trans (hS.2.1 x h1 h2), hS.2.2⟩ hl
theorem V_newQ (C : Cx p l s m args meth c D ba own cc nL tb d) {i : Nat} {n : Int32} {N : Nat} (L : Lab) (K : String) (h : decode cc pc = .ok (.anewarray i, 3)) (hl1 : Cond.classLink own i K ∈ eg_T) (hl2 : Cond.arrayOver (.object K) ∈ lw_tbl) (hn : ¬ n < 0) (hN : n.toNatClampNeg = N) (hb : N * 4 ≤ 536870912) (hL : w L = none) (h1 : cells + 1 ≤ mc) (h2 : slots + N ≤ ms)
    (kk : ∀ a : Nat, V p l e s m args below meth c D ba d mc ms Q nL (aset ad L a) (wset w L (eQ K N (fun _ => none))) (pc + 3) lv (.ref a :: rest) (cells + 1) (slots + N)) : V p l e s m args below meth c D ba d mc ms Q nL ad w pc lv (.int n :: rest) cells slots := by
  intro H locs ls hM hS hl
  subst hN
  refine W.anew C.1 C.2.1 C.2.2.2.1 (C.2.2.2.2.1 _ hl1) (va_AO.use (C.2.2.2.2.2.1.2.2.1 K hl2)) rfl h rfl hn hb h1 h2 fun cA kA comp f1 f2 f3 f4 => ?_
  generalize hH1 : H.push ({ cls := cA, slots := Array.replicate n.toNatClampNeg .null, vm := .none } : Cell) = H1
  have z1 : H1.size = H.size + 1 := by rw [← hH1, Array.size_push]
  have e1 : H1[H.size]? = some (arrV cA n.toNatClampNeg (fun _ => .null)) := by rw [← hH1, Array.getElem?_push_size, ← arrV_new]
  have o1 : ∀ q : Nat, q < H.size → H1[q]? = H[q]? := fun q hq => by rw [← hH1, Array.getElem?_push, if_neg (Nat.ne_of_lt hq)]
  have hAr : ArrOfT s cA (.object K) := fun N z => ⟨(fun k h => by cases h), kA, f2, comp, f3⟩
  exact kk H.size H1 locs ls (hM.new hL (Nat.le_trans C.2.2.2.2.2.2.1 hS.1) ⟨cA, ⟨hAr, kA, comp, f2, f3, f4, f1⟩, by rw [vp_cell_q]; exact e1⟩ o1) ⟨Nat.le_trans hS.1 (by omega), fun x h1 h2 => (o1 x (Nat.lt_of_lt_of_le h1 hS.1)).trans (hS.2.1 x h1 h2), hS.2.2⟩ hl
end EH
end
section
section EC
variable {p : Program} {l : Launch} {e : Env} {s : State} {m : MethodId} {args : Array Value} {below : List Frame} {meth : Method} {c : Code} {D : va_G} {ba : Nat} {d mc ms : Nat} {Q : State → Prop} {nL : Nat} {ad : Adr} {w : Wd} {pc : Nat} {lv : List (Nat × Value)} {rest : List Value} {cells slots : Nat}
variable {own : String} {cc : ByteArray} {tb : List ExceptionTableEntry}
variable {QR : Option Value → Adr → Wd → Prop} {QX : String → Adr → Wd → Prop}
abbrev wsO (y : MethodName) (cy : ByteArray) (n : Nat) (ry : Option FieldType) : List Cond := Cond.code y cy n ry :: eg_T
abbrev wsH (y : MethodName) (cy : ByteArray) (n : Nat) (ry : Option FieldType) (hh : List (Nat × Nat × Nat × Nat)) : List Cond := Cond.codeWith y cy n ry hh :: eg_T
theorem eg_gi {ws : List Cond} (h : ∀ w ∈ ws, w ∈ eg_T) : GoodIn eg_T ws := fun w hw => ⟨h w hw, (eg_TT w (h w hw)).2⟩
theorem eg_c1 {w : Cond} (h : w ∈ eg_T) {ws : List Cond} (hs : ∀ w ∈ ws, w ∈ eg_T) : ∀ w' ∈ w :: ws, w' ∈ eg_T := fun w' h' => (List.mem_cons.mp h').elim (fun z => by rw [z]; exact h) (hs w')
theorem eg_c0 : ∀ w' ∈ eg_T, w' ∈ eg_T := fun _ h => h
/-- what the tables say of a method that is called: by a static, an instance, a constructor's call -/
def eg_M (y : MethodName) (cy : ByteArray) (n : Nat) (ry : Option FieldType) (k : Nat) : Prop := Cond.code y cy n ry ∈ eg_T ∧ Cond.initialized y.cls ∈ eg_T ∧ y.cls ≠ "java/lang/invoke/MethodHandle" ∧ y.cls ≠ "java/lang/invoke/VarHandle" ∧ (parseMethodDescriptor y.desc).map (fun d => d.parameters.length) = some k
def eg_MH (y : MethodName) (cy : ByteArray) (n : Nat) (ry : Option FieldType) (hh : List (Nat × Nat × Nat × Nat)) (k : Nat) : Prop := Cond.codeWith y cy n ry hh ∈ eg_T ∧ Cond.initialized y.cls ∈ eg_T ∧ y.cls ≠ "java/lang/invoke/MethodHandle" ∧ y.cls ≠ "java/lang/invoke/VarHandle" ∧ (parseMethodDescriptor y.desc).map (fun d => d.parameters.length) = some k
theorem eg_pre (C : Cx p l s m args meth c D ba own cc nL tb d) {H : Heap} {locs : List Loc} (hM : Mem D ba s ad w H) (hS : va_S (fun q => ba ≤ q) s.heap H locs) (as : List Value) : ∀ U : State, U.heap = H → s.WarmedH U.vm → mPc D ba as ad w as.toArray U := fun U hU hW =>
  ⟨rfl, NF.moved hW (fun q h1 h2 => by rw [hU]; exact hS.2.1 q h1 h2) C.2.2.2.2.2.1, by rw [hU]; exact Nat.le_trans C.2.2.2.2.2.2.1 hS.1, by rw [hU]; exact hM.moved hW.alike⟩
theorem eg_recv (C : Cx p l s m args meth c D ba own cc nL tb d) {H : Heap} (hM : Mem D ba s ad w H) {L : Lab} {ci : Nat} {fs : List Value} {r : vw_C} (hc : vwCl[ci]? = some r) (hw : w L = some (.inr (ci, fs))) : ∃ cell : Cell, H[ad L]? = some cell ∧ cell.vm.isStatics = false ∧ s.vm.findClass r.1 = some cell.cls := by
  have h1 : va_at D vwCl (ad L, .inr (ci, fs)) H := (hM.1 _ _ hw).1
  exact va_recv (tys := []) C.2.2.2.2.2.1.1 (eg_one h1) hc (q0 := 0) rfl
/-- what a call's run gives behind it -/
theorem V_run {st0 : List Value} {a : Array Value} {mc' ms' : Nat} (C : Cx p l s m args meth c D ba own cc nL tb d)
    (hr : ∀ (H : Heap) (locs : List Loc) (ls : Array Slot), Mem D ba s ad w H → va_S (fun q => ba ≤ q) s.heap H locs → lv_has ls nL lv → vx_Run p l e (rmO d mc ms) s m args below meth c H locs cells slots mc' ms' (F0 m pc ls st0) rest (mQc D ba QR a) (mXC D ba QX) (fun q => ba ≤ q))
    (kr : ∀ (v : Option Value) (ad' : Adr) (w' : Wd), QR v ad' w' → V p l e s m args below meth c D ba d mc ms Q nL ad' w' (pc + 3) lv (v.toList ++ rest) (cells + mc') (slots + ms'))
    (kx : ∀ (E : String) (ad' : Adr) (w' : Wd), QX E ad' w' → VX p l e s m args below meth c D ba d mc ms Q nL E ad' w' pc lv rest (cells + mc') (slots + ms')) : V p l e s m args below meth c D ba d mc ms Q nL ad w pc lv st0 cells slots := by
  intro H locs ls hM hS hl T hT X
  rcases hr H locs ls hM hS hl T hT X with ⟨v, st₀, t, T', L, h0, X', hL, e1, e2, ⟨v', ad', w', hv, hq, hM', hF⟩, st⟩ | ⟨q, st₀, t, T', L, E, ce, h0, X', hL, e1, e2, ⟨ad', w', hq, hM', hF⟩, hce, hcv, hcl, st⟩
  · cases hv
    obtain ⟨-, -, k3⟩ := vx_keep h0 e1 hS (A1 := fun q => ba ≤ q) (fun _ _ z => z) (fun _ z => z) hL hF
    have hal : t.vm.Alike s.vm := by rw [← e2]; exact X'.warmed.alike.symm
    obtain ⟨t2, a1, b1⟩ := kr v ad' w' hq T'.heap (locs ++ L) ls (by rw [e1]; exact hM'.moved hal) k3 hl T' rfl X'
    exact ⟨t2, st t2 a1, b1⟩
  · obtain ⟨-, -, k3⟩ := vx_keep h0 e1 hS (A1 := fun q => ba ≤ q) (fun _ _ z => z) (fun _ z => z) hL hF
    have hal : t.vm.Alike s.vm := by rw [← e2]; exact X'.warmed.alike.symm
    obtain ⟨t2, a1, b1⟩ := kx E ad' w' hq T'.heap (locs ++ L) ls q ce (by rw [e1]; exact hM'.moved hal) k3 hl (by rw [e1]; exact hce) hcv hcl T' rfl X'
    exact ⟨t2, st.trans a1, b1⟩
/-- .. of one through an interface -/
theorem V_run5 {st0 : List Value} {a : Array Value} {mc' ms' : Nat} (C : Cx p l s m args meth c D ba own cc nL tb d)
    (hr : ∀ (H : Heap) (locs : List Loc) (ls : Array Slot), Mem D ba s ad w H → va_S (fun q => ba ≤ q) s.heap H locs → lv_has ls nL lv → vx_Run5 p l e (rmO d mc ms) s m args below meth c H locs cells slots mc' ms' (F0 m pc ls st0) rest (mQc D ba QR a) (mXC D ba QX) (fun q => ba ≤ q))
    (kr : ∀ (v : Option Value) (ad' : Adr) (w' : Wd), QR v ad' w' → V p l e s m args below meth c D ba d mc ms Q nL ad' w' (pc + 5) lv (v.toList ++ rest) (cells + mc') (slots + ms'))
    (kx : ∀ (E : String) (ad' : Adr) (w' : Wd), QX E ad' w' → VX p l e s m args below meth c D ba d mc ms Q nL E ad' w' pc lv rest (cells + mc') (slots + ms')) : V p l e s m args below meth c D ba d mc ms Q nL ad w pc lv st0 cells slots := by
  intro H locs ls hM hS hl T hT X
  rcases hr H locs ls hM hS hl T hT X with ⟨v, st₀, t, T', L, h0, X', hL, e1, e2, ⟨v', ad', w', hv, hq, hM', hF⟩, st⟩ | ⟨q, st₀, t, T', L, E, ce, h0, X', hL, e1, e2, ⟨ad', w', hq, hM', hF⟩, hce, hcv, hcl, st⟩
  · cases hv
    obtain ⟨-, -, k3⟩ := vx_keep h0 e1 hS (A1 := fun q => ba ≤ q) (fun _ _ z => z) (fun _ z => z) hL hF
    have hal : t.vm.Alike s.vm := by rw [← e2]; exact X'.warmed.alike.symm
    obtain ⟨t2, a1, b1⟩ := kr v ad' w' hq T'.heap (locs ++ L) ls (by rw [e1]; exact hM'.moved hal) k3 hl T' rfl X'
    exact ⟨t2, st t2 a1, b1⟩
  · obtain ⟨-, -, k3⟩ := vx_keep h0 e1 hS (A1 := fun q => ba ≤ q) (fun _ _ z => z) (fun _ z => z) hL hF
    have hal : t.vm.Alike s.vm := by rw [← e2]; exact X'.warmed.alike.symm
    obtain ⟨t2, a1, b1⟩ := kx E ad' w' hq T'.heap (locs ++ L) ls q ce (by rw [e1]; exact hM'.moved hal) k3 hl (by rw [e1]; exact hce) hcv hcl T' rfl X'
    exact ⟨t2, st.trans a1, b1⟩
/-- a call's room: the callee's depth, its locals -/
def eg_rm (d d' n mc ms cells slots mc' ms' : Nat) : Prop := d' + 1 ≤ d ∧ 8 + (n + 11) + 36 * d' ≤ 36 * d ∧ cells + mc' ≤ mc ∧ slots + ms' ≤ ms
theorem V_callV (C : Cx p l s m args meth c D ba own cc nL tb d) {i n k d' mc' ms' : Nat} {y : MethodName} {cy : ByteArray} {ry : Option FieldType} {b : Nat} {L : Lab} {ci : Nat} {fs : List Value} {r : vw_C} {st : List Value} (As : List Value) (h : decode cc pc = .ok (.invokevirtual i, 3)) (hy : eg_M y cy n ry k) (hy2 : Cond.instanceMethod y ∈ eg_T ∧ Cond.selects y.cls y y ∈ eg_T) (hlink : Cond.methodLink own i y ∈ eg_T) (hb : b = ad L) (hc : vwCl[ci]? = some r) (hrc : r.1 = y.cls) (hw : w L = some (.inr (ci, fs))) (hk : As.length = k) (hst : st = As.reverse ++ .ref b :: rest) (hW : (rest.map fun v => v.category).sum ≤ 8) (hrm : eg_rm d d' n mc ms cells slots mc' ms')
    (hM : CT l y (wsO y cy n ry) d' mc' ms' D ba (.ref b :: As) ad w QR QX)
    (kr : ∀ (v : Option Value) (ad' : Adr) (w' : Wd), QR v ad' w' → V p l e s m args below meth c D ba d mc ms Q nL ad' w' (pc + 3) lv (v.toList ++ rest) (cells + mc') (slots + ms'))
    (kx : ∀ (E : String) (ad' : Adr) (w' : Wd), QX E ad' w' → VX p l e s m args below meth c D ba d mc ms Q nL E ad' w' pc lv rest (cells + mc') (slots + ms')) : V p l e s m args below meth c D ba d mc ms Q nL ad w pc lv st cells slots := by
  subst hst
  subst hb
  refine V_run (a := (Value.ref (ad L) :: As).toArray) C (fun H locs ls hMm hS hl => ?_) kr kx
  have hts := C.2.2.2.2.1
  have hrv := eg_recv C hMm hc hw
  rw [hrc] at hrv
  refine vx_runV (Ts := eg_T) (C := y.cls) (bytes := cy) (maxL := n) (ret := ry) (ws := wsO y cy n ry) (rm := rmO d' mc' ms') (n := k) ⟨C.1, C.2.1, C.2.2.1, C.2.2.2.1, hts⟩ hM ?_ ⟨mPc_blind, hrv, eg_pre C hMm hS _⟩ rfl hk hl.1 rfl (lv_room hW) h ⟨hrm.2.2.1, hrm.2.2.2⟩
  exact cwV k hts (eg_gi (eg_c1 hlink (eg_c1 hy2.1 (eg_c1 hy2.2 (eg_c1 hy.2.1 (eg_c1 hy.1 eg_c0)))))) rfl rfl rfl ⟨rfl, hy.2.2.1, hy.2.2.2.1, hy.2.2.2.2⟩ ⟨hrm.1, hrm.2.1⟩
/-- a private method of a nest mate -/
theorem V_callVN (C : Cx p l s m args meth c D ba own cc nL tb d) {i n k d' mc' ms' : Nat} {y : MethodName} {cy : ByteArray} {ry : Option FieldType} {b : Nat} {L : Lab} {ci : Nat} {fs : List Value} {r : vw_C} {st : List Value} (host : String) (As : List Value) (h : decode cc pc = .ok (.invokevirtual i, 3)) (hy : eg_M y cy n ry k) (hy2 : Cond.instanceMethod y ∈ eg_T ∧ Cond.selects y.cls y y ∈ eg_T) (hlink : Cond.methodLinkNest own i y host ∈ lw_tbl) (hb : b = ad L) (hc : vwCl[ci]? = some r) (hrc : r.1 = y.cls) (hw : w L = some (.inr (ci, fs))) (hk : As.length = k) (hst : st = As.reverse ++ .ref b :: rest) (hW : (rest.map fun v => v.category).sum ≤ 8) (hrm : eg_rm d d' n mc ms cells slots mc' ms')
    (hM : CT l y (wsO y cy n ry) d' mc' ms' D ba (.ref b :: As) ad w QR QX)
    (kr : ∀ (v : Option Value) (ad' : Adr) (w' : Wd), QR v ad' w' → V p l e s m args below meth c D ba d mc ms Q nL ad' w' (pc + 3) lv (v.toList ++ rest) (cells + mc') (slots + ms'))
    (kx : ∀ (E : String) (ad' : Adr) (w' : Wd), QX E ad' w' → VX p l e s m args below meth c D ba d mc ms Q nL E ad' w' pc lv rest (cells + mc') (slots + ms')) : V p l e s m args below meth c D ba d mc ms Q nL ad w pc lv st cells slots := by
  subst hst
  subst hb
  refine V_run (a := (Value.ref (ad L) :: As).toArray) C (fun H locs ls hMm hS hl => ?_) kr kx
  have hts := C.2.2.2.2.1
  have hrv := eg_recv C hMm hc hw
  rw [hrc] at hrv
  refine vx_runVN (Ts := eg_T) (C := y.cls) (host := host) (bytes := cy) (maxL := n) (ret := ry) (ws := wsO y cy n ry) (rm := rmO d' mc' ms') (n := k) ⟨C.1, C.2.1, C.2.2.1, C.2.2.2.1, hts⟩ hM ?_ ⟨mPc_blind, hrv, eg_pre C hMm hS _⟩ rfl hk hl.1 rfl (lv_room hW) h ⟨hrm.2.2.1, hrm.2.2.2⟩
  exact ⟨va_cnB k hts (eg_gi (eg_c1 hy.1 eg_c0)) rfl rfl rfl (C.2.2.2.2.2.1.2.1 _ hlink rfl) (hts _ hy.2.1) ⟨hy.2.2.1, hy.2.2.2.1, hy.2.2.2.2⟩ ⟨hrm.1, hrm.2.1⟩, hts _ hy2.1, hts _ hy2.2⟩
theorem V_callS (C : Cx p l s m args meth c D ba own cc nL tb d) {i n k d' mc' ms' : Nat} {y : MethodName} {cy : ByteArray} {ry : Option FieldType} {st : List Value} (As : List Value) (h : decode cc pc = .ok (.invokestatic i, 3)) (hy : eg_M y cy n ry k) (hy2 : Cond.static y ∈ eg_T) (hlink : Cond.methodLink own i y ∈ eg_T) (hk : As.length = k) (hst : st = As.reverse ++ rest) (hW : (rest.map fun v => v.category).sum ≤ 8) (hrm : eg_rm d d' n mc ms cells slots mc' ms')
    (hM : CT l y (wsO y cy n ry) d' mc' ms' D ba As ad w QR QX)
    (kr : ∀ (v : Option Value) (ad' : Adr) (w' : Wd), QR v ad' w' → V p l e s m args below meth c D ba d mc ms Q nL ad' w' (pc + 3) lv (v.toList ++ rest) (cells + mc') (slots + ms'))
    (kx : ∀ (E : String) (ad' : Adr) (w' : Wd), QX E ad' w' → VX p l e s m args below meth c D ba d mc ms Q nL E ad' w' pc lv rest (cells + mc') (slots + ms')) : V p l e s m args below meth c D ba d mc ms Q nL ad w pc lv st cells slots := by
  subst hst
  refine V_run (a := As.toArray) C (fun H locs ls hMm hS hl => ?_) kr kx
  have hts := C.2.2.2.2.1
  refine vx_runS (Ts := eg_T) (bytes := cy) (maxL := n) (ret := ry) (ws := wsO y cy n ry) (rm := rmO d' mc' ms') (n := k) ⟨C.1, C.2.1, C.2.2.1, C.2.2.2.1, hts⟩ hM ?_ ⟨mPc_blind, eg_pre C hMm hS _⟩ rfl hk hl.1 rfl (lv_room hW) h ⟨hrm.2.2.1, hrm.2.2.2⟩
  exact ⟨callB_of k hts (eg_gi (eg_c1 hy.1 eg_c0)) rfl rfl rfl (hts _ hy.2.1) (hts _ hlink) ⟨hy.2.2.1, hy.2.2.2.1, hy.2.2.2.2⟩ ⟨hrm.1, hrm.2.1⟩, hts _ hy2⟩
/-- a static method with a table of its own -/
theorem V_callSX (C : Cx p l s m args meth c D ba own cc nL tb d) {i n k d' mc' ms' : Nat} {y : MethodName} {cy : ByteArray} {ry : Option FieldType} {hh : List (Nat × Nat × Nat × Nat)} {st : List Value} (As : List Value) (h : decode cc pc = .ok (.invokestatic i, 3)) (hy : eg_MH y cy n ry hh k) (hy2 : Cond.static y ∈ eg_T) (hlink : Cond.methodLink own i y ∈ eg_T) (hk : As.length = k) (hst : st = As.reverse ++ rest) (hW : (rest.map fun v => v.category).sum ≤ 8) (hrm : eg_rm d d' n mc ms cells slots mc' ms')
    (hM : CT l y (wsH y cy n ry hh) d' mc' ms' D ba As ad w QR QX)
    (kr : ∀ (v : Option Value) (ad' : Adr) (w' : Wd), QR v ad' w' → V p l e s m args below meth c D ba d mc ms Q nL ad' w' (pc + 3) lv (v.toList ++ rest) (cells + mc') (slots + ms'))
    (kx : ∀ (E : String) (ad' : Adr) (w' : Wd), QX E ad' w' → VX p l e s m args below meth c D ba d mc ms Q nL E ad' w' pc lv rest (cells + mc') (slots + ms')) : V p l e s m args below meth c D ba d mc ms Q nL ad w pc lv st cells slots := by
  subst hst
  refine V_run (a := As.toArray) C (fun H locs ls hMm hS hl => ?_) kr kx
  have hts := C.2.2.2.2.1
  refine vx_runSX (Ts := eg_T) (hh := hh) (bytes := cy) (maxL := n) (ret := ry) (ws := wsH y cy n ry hh) (rm := rmO d' mc' ms') (n := k) ⟨C.1, C.2.1, C.2.2.1, C.2.2.2.1, hts⟩ hM ?_ ⟨mPc_blind, eg_pre C hMm hS _⟩ rfl hk hl.1 rfl (lv_room hW) h ⟨hrm.2.2.1, hrm.2.2.2⟩
  exact vx_cwSW k hts (eg_gi (eg_c1 hlink (eg_c1 hy2 (eg_c1 hy.2.1 (eg_c1 hy.1 eg_c0))))) rfl rfl rfl ⟨hy.2.2.1, hy.2.2.2.1, hy.2.2.2.2⟩ ⟨hrm.1, hrm.2.1⟩
theorem V_callI (C : Cx p l s m args meth c D ba own cc nL tb d) {i n k d' mc' ms' : Nat} {y : MethodName} {cy : ByteArray} {b : Nat} {st : List Value} (As : List Value) (h : decode cc pc = .ok (.invokespecial i, 3)) (hy : eg_M y cy n none k) (hy2 : Cond.instanceMethod y ∈ eg_T ∧ y.name = "<init>") (hlink : Cond.methodLink own i y ∈ eg_T) (hk : As.length = k) (hst : st = As.reverse ++ .ref b :: rest) (hW : (rest.map fun v => v.category).sum ≤ 8) (hrm : eg_rm d d' n mc ms cells slots mc' ms')
    (hM : CT l y (wsO y cy n none) d' mc' ms' D ba (.ref b :: As) ad w QR QX)
    (kr : ∀ (v : Option Value) (ad' : Adr) (w' : Wd), QR v ad' w' → V p l e s m args below meth c D ba d mc ms Q nL ad' w' (pc + 3) lv (v.toList ++ rest) (cells + mc') (slots + ms'))
    (kx : ∀ (E : String) (ad' : Adr) (w' : Wd), QX E ad' w' → VX p l e s m args below meth c D ba d mc ms Q nL E ad' w' pc lv rest (cells + mc') (slots + ms')) : V p l e s m args below meth c D ba d mc ms Q nL ad w pc lv st cells slots := by
  subst hst
  refine V_run (a := (Value.ref b :: As).toArray) C (fun H locs ls hMm hS hl => ?_) kr kx
  have hts := C.2.2.2.2.1
  refine vx_runI (Ts := eg_T) (bytes := cy) (maxL := n) (ws := wsO y cy n none) (rm := rmO d' mc' ms') (n := k) ⟨C.1, C.2.1, C.2.2.1, C.2.2.2.1, hts⟩ hM ?_ ⟨mPc_blind, eg_pre C hMm hS _⟩ rfl hk hl.1 rfl (lv_room hW) h ⟨hrm.2.2.1, hrm.2.2.2⟩
  exact cwI k hts (eg_gi (eg_c1 hy.1 eg_c0)) rfl rfl rfl (hts _ hy.2.1) (hts _ hlink) (hts _ hy2.1) hy2.2 ⟨hy.2.2.1, hy.2.2.2.1, hy.2.2.2.2⟩ ⟨hrm.1, hrm.2.1⟩
/-- a private constructor of a nest mate -/
theorem V_callIN (C : Cx p l s m args meth c D ba own cc nL tb d) {i n k d' mc' ms' : Nat} {y : MethodName} {cy : ByteArray} {b : Nat} {st : List Value} (host : String) (As : List Value) (h : decode cc pc = .ok (.invokespecial i, 3)) (hy : eg_M y cy n none k) (hy2 : Cond.instanceMethod y ∈ eg_T ∧ y.name = "<init>") (hlink : Cond.methodLinkNest own i y host ∈ lw_tbl) (hk : As.length = k) (hst : st = As.reverse ++ .ref b :: rest) (hW : (rest.map fun v => v.category).sum ≤ 8) (hrm : eg_rm d d' n mc ms cells slots mc' ms')
    (hM : CT l y (wsO y cy n none) d' mc' ms' D ba (.ref b :: As) ad w QR QX)
    (kr : ∀ (v : Option Value) (ad' : Adr) (w' : Wd), QR v ad' w' → V p l e s m args below meth c D ba d mc ms Q nL ad' w' (pc + 3) lv (v.toList ++ rest) (cells + mc') (slots + ms'))
    (kx : ∀ (E : String) (ad' : Adr) (w' : Wd), QX E ad' w' → VX p l e s m args below meth c D ba d mc ms Q nL E ad' w' pc lv rest (cells + mc') (slots + ms')) : V p l e s m args below meth c D ba d mc ms Q nL ad w pc lv st cells slots := by
  subst hst
  refine V_run (a := (Value.ref b :: As).toArray) C (fun H locs ls hMm hS hl => ?_) kr kx
  have hts := C.2.2.2.2.1
  refine vx_runIN (Ts := eg_T) (host := host) (bytes := cy) (maxL := n) (ws := wsO y cy n none) (rm := rmO d' mc' ms') (n := k) ⟨C.1, C.2.1, C.2.2.1, C.2.2.2.1, hts⟩ hM ?_ ⟨mPc_blind, eg_pre C hMm hS _⟩ rfl hk hl.1 rfl (lv_room hW) h ⟨hrm.2.2.1, hrm.2.2.2⟩
  exact ⟨va_cnB k hts (eg_gi (eg_c1 hy.1 eg_c0)) rfl rfl rfl (C.2.2.2.2.2.1.2.1 _ hlink rfl) (hts _ hy.2.1) ⟨hy.2.2.1, hy.2.2.2.1, hy.2.2.2.2⟩ ⟨hrm.1, hrm.2.1⟩, hy2.2, hts _ hy2.1⟩
/-- through an interface, the receiver's kind known -/
theorem V_callF (C : Cx p l s m args meth c D ba own cc nL tb d) {i n k d' mc' ms' cnt : Nat} {x y : MethodName} {cy : ByteArray} {ry : Option FieldType} {b : Nat} {L : Lab} {ci : Nat} {fs : List Value} {r : vw_C} {st : List Value} (As : List Value) (h : decode cc pc = .ok (.invokeinterface i cnt, 5)) (hy : eg_M y cy n ry k) (hy2 : Cond.instanceMethod y ∈ eg_T ∧ Cond.selects y.cls x y ∈ eg_T) (hlink : Cond.methodLink own i x ∈ eg_T) (hx : x.cls ≠ "java/lang/invoke/MethodHandle" ∧ x.cls ≠ "java/lang/invoke/VarHandle" ∧ (parseMethodDescriptor x.desc).map (fun d => d.parameters.length) = some k) (hf : (y.cls, x, y) ∈ eg_faces) (hb : b = ad L) (hc : vwCl[ci]? = some r) (hrc : r.1 = y.cls) (hw : w L = some (.inr (ci, fs))) (hk : As.length = k) (hst : st = As.reverse ++ .ref b :: rest) (hW : (rest.map fun v => v.category).sum ≤ 8) (hrm : eg_rm d d' n mc ms cells slots mc' ms')
    (hM : CT l y (wsO y cy n ry) d' mc' ms' D ba (.ref b :: As) ad w QR QX)
    (kr : ∀ (v : Option Value) (ad' : Adr) (w' : Wd), QR v ad' w' → V p l e s m args below meth c D ba d mc ms Q nL ad' w' (pc + 5) lv (v.toList ++ rest) (cells + mc') (slots + ms'))
    (kx : ∀ (E : String) (ad' : Adr) (w' : Wd), QX E ad' w' → VX p l e s m args below meth c D ba d mc ms Q nL E ad' w' pc lv rest (cells + mc') (slots + ms')) : V p l e s m args below meth c D ba d mc ms Q nL ad w pc lv st cells slots := by
  subst hst
  subst hb
  refine V_run5 (a := (Value.ref (ad L) :: As).toArray) C (fun H locs ls hMm hS hl => ?_) kr kx
  have hts := C.2.2.2.2.1
  have hrv := eg_recv C hMm hc hw
  have hat := (C.2.2.2.2.2.1.1.1 ci r hc).2
  rw [hrc] at hrv hat
  refine vx_runF (Ts := eg_T) (C := y.cls) (x := x) (bytes := cy) (maxL := n) (ret := ry) (ws := wsO y cy n ry) (rm := rmO d' mc' ms') (n := k) hat ⟨C.1, C.2.1, C.2.2.1, C.2.2.2.1, hts⟩ hM ?_ ⟨mPc_blind, hrv, eg_pre C hMm hS _⟩ rfl hk hl.1 rfl (lv_room hW) h ⟨hrm.2.2.1, hrm.2.2.2⟩
  exact va_cwF k hts (eg_gi (eg_c1 hlink (eg_c1 hy2.2 (eg_c1 hy2.1 (eg_c1 hy.2.1 (eg_c1 hy.1 eg_c0)))))) rfl rfl rfl (C.2.2.2.2.2.1.2.2.2.1 _ hf) hx ⟨hrm.1, hrm.2.1⟩
/-! ends -/
theorem V_iret (C : Cx p l s m args meth c D ba own cc nL tb d) {v : Int32} (ty : FieldType) (h : decode cc pc = .ok (.ireturn, 1)) (hr : meth.sig.returnType = some ty) (hn : narrow ty (.int v) = .int v) (hq : QR (some (.int v)) ad w) (h1 : cells ≤ mc) (h2 : slots ≤ ms) : V p l e s m args below meth c D ba d mc ms (MO D ba QR QX below args s mc ms) nL ad w pc lv [.int v] cells slots := fun H locs ls hM hS hl =>
  W.widen h1 h2 (vx_ret (W.zret (hlocks := C.2.2.2.2.2.2.2.1) C.1 C.2.1 hr hn (fun t ht hW => ⟨_, ad, w, rfl, hq, by rw [ht]; exact hM.moved hW.alike, hS.F ht⟩) hS.2.2 h))
theorem V_lret (C : Cx p l s m args meth c D ba own cc nL tb d) {v : Int64} (h : decode cc pc = .ok (.lreturn, 1)) (hr : meth.sig.returnType = some .long) (hq : QR (some (.long v)) ad w) (h1 : cells ≤ mc) (h2 : slots ≤ ms) : V p l e s m args below meth c D ba d mc ms (MO D ba QR QX below args s mc ms) nL ad w pc lv [.long v] cells slots := fun H locs ls hM hS hl =>
  W.widen h1 h2 (vx_ret (W.lret (hlocks := C.2.2.2.2.2.2.2.1) C.1 C.2.1 hr (fun t ht hW => ⟨_, ad, w, rfl, hq, by rw [ht]; exact hM.moved hW.alike, hS.F ht⟩) hS.2.2 h))
theorem V_dret (C : Cx p l s m args meth c D ba own cc nL tb d) {v : UInt64} (h : decode cc pc = .ok (.dreturn, 1)) (hr : meth.sig.returnType = some .double) (hq : QR (some (.double v)) ad w) (h1 : cells ≤ mc) (h2 : slots ≤ ms) : V p l e s m args below meth c D ba d mc ms (MO D ba QR QX below args s mc ms) nL ad w pc lv [.double v] cells slots := fun H locs ls hM hS hl =>
  W.widen h1 h2 (vx_ret (W.dret (hlocks := C.2.2.2.2.2.2.2.1) C.1 C.2.1 hr (fun t ht hW => ⟨_, ad, w, rfl, hq, by rw [ht]; exact hM.moved hW.alike, hS.F ht⟩) hS.2.2 h))
theorem V_vret (C : Cx p l s m args meth c D ba own cc nL tb d) (h : decode cc pc = .ok (.return_, 1)) (hr : meth.sig.returnType = none) (hq : QR none ad w) (h1 : cells ≤ mc) (h2 : slots ≤ ms) : V p l e s m args below meth c D ba d mc ms (MO D ba QR QX below args s mc ms) nL ad w pc lv [] cells slots := fun H locs ls hM hS hl =>
  W.widen h1 h2 (vx_ret (W.vret (hlocks := C.2.2.2.2.2.2.2.1) C.1 C.2.1 hr (fun t ht hW => ⟨_, ad, w, rfl, hq, by rw [ht]; exact hM.moved hW.alike, hS.F ht⟩) hS.2.2 h))
theorem V_aret (C : Cx p l s m args meth c D ba own cc nL tb d) {a : Nat} (K : String) (h : decode cc pc = .ok (.areturn, 1)) (hr : meth.sig.returnType = some (.object K)) (hq : QR (some (.ref a)) ad w) (h1 : cells ≤ mc) (h2 : slots ≤ ms) : V p l e s m args below meth c D ba d mc ms (MO D ba QR QX below args s mc ms) nL ad w pc lv [.ref a] cells slots := fun H locs ls hM hS hl =>
  W.widen h1 h2 (vx_ret (W.aret (hlocks := C.2.2.2.2.2.2.2.1) C.1 C.2.1 hr (Or.inl ⟨K, rfl⟩) (Or.inr ⟨a, rfl⟩) (fun t ht hW => ⟨_, ad, w, rfl, hq, by rw [ht]; exact hM.moved hW.alike, hS.F ht⟩) hS.2.2 h))
/-! throws -/
theorem eg_atS {own : String} {ic : Nat} {K : String} {names : List String} (C : Cx p l s m args meth c D ba own cc nL tb d) (h1 : ∀ w ∈ vx_atS own ic K names, w ∈ lw_tbl) (h2 : ∀ w ∈ vx_atS own ic K names, (goodWord w || eg_nw w) = true) : ∀ w ∈ vx_atS own ic K names, w.before args s = true := by
  intro w hw
  have h3 := h2 w hw
  simp only [Bool.or_eq_true] at h3
  rcases h3 with h3 | h3
  · exact C.2.2.2.2.1 w (List.mem_filter.mpr ⟨h1 w hw, h3⟩)
  · exact va_Nw.use (eg_nw_tab h3) (C.2.2.2.2.2.1.2.1 w (h1 w hw) h3)
theorem V_throw (C : Cx p l s m args meth c D ba own cc nL tb d) {ik is ic : Nat} (K text : String) (names : List String) (d0 : decode cc pc = .ok (.new ik, 3)) (d3 : decode cc (pc + 3) = .ok (.dup, 1)) (d4 : decode cc (pc + 4) = .ok (.ldc is, 2)) (d6 : decode cc (pc + 6) = .ok (.invokespecial ic, 3)) (d9 : decode cc (pc + 9) = .ok (.athrow, 1))
    (hcls : Bundle.fit K = true) (hnames : ∀ n ∈ names, Bundle.fit n = true) (hk : Cond.classLink own ik K ∈ eg_T) (hini : Cond.initialized K ∈ eg_T) (hstr : Cond.stringRef own is text ∈ lw_tbl) (hat : ∀ w ∈ vx_atS own ic K names, w ∈ lw_tbl) (hat2 : ∀ w ∈ vx_atS own ic K names, (goodWord w || eg_nw w) = true) (hgood : ∀ w ∈ Cond.classLink own ik K :: Cond.initialized K :: vx_atS own ic K names, vx_ot w = true)
    (hout : tb.all (fun x => covers x (pc + 9) == false) = true) (hd : names.length + 3 < d) (hd2 : (rest.map fun v => v.category).sum + (13 * (names.length + 1) + 43) ≤ 36 * d) (h1 : cells + 1 ≤ mc) (h2 : slots + 6 ≤ ms) (hq : QX K ad w) : V p l e s m args below meth c D ba d mc ms (MO D ba QR QX below args s mc ms) nL ad w pc lv rest cells slots := by
  intro H locs ls hM hS hl
  obtain ⟨sa, hsa⟩ := C.2.2.2.2.2.1.2.2.2.2.2.1 _ _ _ hstr
  have hts := C.2.2.2.2.1
  refine vx_throwS C.1 C.2.1 C.2.2.2.2.2.2.2.2.1 C.2.2.2.1 hcls hnames (hts _ hk) (hts _ hini) hsa (eg_atS C hat hat2) hgood C.2.2.2.2.2.1.2.2.2.2.1.1 C.2.2.2.2.2.1.2.2.2.2.1.2 hS (hl.1.trans C.2.2.1.symm) d0 d3 d4 d6 d9 ?_ hd hd2 h1 h2 C.2.2.2.2.2.2.2.1 ?_ hS.2.2 h1 h2
  · intro x hx
    rw [C.2.2.2.2.2.2.2.2.2] at hx
    exact beq_iff_eq.mp (List.all_eq_true.mp hout x hx)
  · intro t hvm hz hk2
    exact ⟨ad, w, hq, (hM.kept hk2).moved hvm, ⟨Nat.le_trans hS.1 hz, fun q g1 g2 => (hk2 q (Nat.lt_of_lt_of_le g1 hS.1)).trans (hS.2.1 q g1 g2)⟩⟩
/-- a callee's throw goes on -/
theorem VX_out (C : Cx p l s m args meth c D ba own cc nL tb d) {E : String} (hout : tb.all (fun x => covers x pc == false) = true) (hq : QX E ad w) (h1 : cells ≤ mc) (h2 : slots ≤ ms) : VX p l e s m args below meth c D ba d mc ms (MO D ba QR QX below args s mc ms) nL E ad w pc lv rest cells slots := by
  intro H locs ls q ce hM hS hl hce hcv hcl
  refine vx_out ?_ C.2.2.2.2.2.2.2.1 hce hcv hcl ?_ hS.2.2 h1 h2
  · intro x hx
    rw [C.2.2.2.2.2.2.2.2.2] at hx
    exact beq_iff_eq.mp (List.all_eq_true.mp hout x hx)
  · intro t ht hvm
    exact ⟨ad, w, hq, by rw [ht]; exact hM.moved hvm, hS.F ht⟩
/-- caught by the row x of the table -/
theorem VX_catch (C : Cx p l s m args meth c D ba own cc nL tb d) {E : String} (name : String) (pre : List ExceptionTableEntry) (x : ExceptionTableEntry) (suf : List ExceptionTableEntry) (hsplit : tb = pre ++ x :: suf)
    (hpass : ∀ z ∈ pre, covers z pc = false ∨ (z.catchType ≠ 0 ∧ ∃ nm : String, Cond.classLink own z.catchType nm ∈ eg_T ∧ (E, nm) ∈ eg_nc)) (hx : covers x pc = true) (h0 : x.catchType ≠ 0) (hlink : Cond.classLink own x.catchType name ∈ eg_T) (hcast : Cond.castable E name ∈ lw_tbl)
    (kk : ∀ a : Nat, V p l e s m args below meth c D ba d mc ms Q nL ad w x.handlerPc lv [.ref a] cells slots) : VX p l e s m args below meth c D ba d mc ms Q nL E ad w pc lv rest cells slots := by
  intro H locs ls q ce hM hS hl hce hcv hcl
  have hts := C.2.2.2.2.1
  refine vx_catch C.2.2.2.1 pre x suf (C.2.2.2.2.2.2.2.2.2.trans hsplit) ?_ hx h0 (hts _ hlink) (va_Nw.use rfl (C.2.2.2.2.2.1.2.1 _ hcast rfl)) hce hcv hcl (kk q H locs ls hM hS hl)
  intro z hz
  rcases hpass z hz with h | ⟨h, nm, h3, h4⟩
  · exact Or.inl h
  · exact Or.inr ⟨h, nm, hts _ h3, C.2.2.2.2.2.1.2.2.2.2.2.2 _ h4⟩
/-! methods of the JDK -/
theorem V_max (C : Cx p l s m args meth c D ba own cc nL tb d) {i : Nat} {x y : Int32} (h : decode cc pc = .ok (.invokestatic i, 3)) (hlink : Cond.methodLink own i Lib.Math.max.name ∈ eg_T) (h1 : Cond.static Lib.Math.max.name ∈ eg_T) (h2 : Cond.initialized "java/lang/Math" ∈ eg_T) (h3 : Cond.code Lib.Math.max.name Lib.Math.max.code 2 (some .int) ∈ eg_T) (hd : 1 ≤ d) (hd2 : (rest.map fun v => v.category).sum + 13 ≤ 36 * d) (hc : cells ≤ mc) (hs : slots ≤ ms)
    (k : V p l e s m args below meth c D ba d mc ms Q nL ad w (pc + 3) lv (.int (if x < y then y else x) :: rest) cells slots) : V p l e s m args below meth c D ba d mc ms Q nL ad w pc lv (.int y :: .int x :: rest) cells slots := fun H locs ls hM hS hl =>
  va_mmax C.1 C.2.1 (C.2.2.1.trans hl.1.symm) C.2.2.2.1 (C.2.2.2.2.1 _ hlink) (C.2.2.2.2.1 _ h1) (C.2.2.2.2.1 _ h2) (C.2.2.2.2.1 _ h3) hd hd2 hc hs h (k H locs ls hM hS hl)
theorem V_min (C : Cx p l s m args meth c D ba own cc nL tb d) {i : Nat} {x y : Int32} (h : decode cc pc = .ok (.invokestatic i, 3)) (hlink : Cond.methodLink own i Lib.Math.min.name ∈ eg_T) (h1 : Cond.static Lib.Math.min.name ∈ eg_T) (h2 : Cond.initialized "java/lang/Math" ∈ eg_T) (h3 : Cond.code Lib.Math.min.name Lib.Math.min.code 2 (some .int) ∈ eg_T) (hd : 1 ≤ d) (hd2 : (rest.map fun v => v.category).sum + 13 ≤ 36 * d) (hc : cells ≤ mc) (hs : slots ≤ ms)
    (k : V p l e s m args below meth c D ba d mc ms Q nL ad w (pc + 3) lv (.int (if y < x then y else x) :: rest) cells slots) : V p l e s m args below meth c D ba d mc ms Q nL ad w pc lv (.int y :: .int x :: rest) cells slots := fun H locs ls hM hS hl =>
  va_mmin C.1 C.2.1 (C.2.2.1.trans hl.1.symm) C.2.2.2.1 (C.2.2.2.2.1 _ hlink) (C.2.2.2.2.1 _ h1) (C.2.2.2.2.1 _ h2) (C.2.2.2.2.1 _ h3) hd hd2 hc hs h (k H locs ls hM hS hl)
theorem V_obj (C : Cx p l s m args meth c D ba own cc nL tb d) {i a : Nat} (h : decode cc pc = .ok (.invokespecial i, 3)) (hlink : Cond.methodLink own i Lib.objectInit ∈ eg_T) (h1 : Cond.instanceMethod Lib.objectInit ∈ eg_T) (h2 : Cond.code Lib.objectInit ⟨#[0xb1]⟩ 1 none ∈ eg_T) (hd : 1 ≤ d) (hd2 : (rest.map fun v => v.category).sum + 12 ≤ 36 * d)
    (k : V p l e s m args below meth c D ba d mc ms Q nL ad w (pc + 3) lv rest cells slots) : V p l e s m args below meth c D ba d mc ms Q nL ad w pc lv (.ref a :: rest) cells slots := fun H locs ls hM hS hl =>
  W.objInit C.1 C.2.1 C.2.2.2.1 (C.2.2.2.2.1 _ hlink) (C.2.2.2.2.1 _ h1) (C.2.2.2.2.1 _ h2) rfl (hl.1.trans C.2.2.1.symm) rfl h hd (by show 2 * 0 + _ + 12 ≤ 36 * d; omega) (k H locs ls hM hS hl)
/-! the law's own script -/
theorem V_sld (C : Cx p l s m args meth c D ba own cc nL tb d) {b L : Nat} {xs : Nat → Int32} (hX : va_X b L xs s s.heap) (hb : b < ba) {i : Int32} (hin : vp_in i L) (h : decode cc pc = .ok (.iaload, 1))
    (k : V p l e s m args below meth c D ba d mc ms Q nL ad w (pc + 1) lv (.int (xs i.toNatClampNeg) :: rest) cells slots) : V p l e s m args below meth c D ba d mc ms Q nL ad w pc lv (.int i :: .ref b :: rest) cells slots := fun H locs ls hM hS hl =>
  va_sld (A := fun q => ba ≤ q) C.1 C.2.1 hX (Nat.lt_of_lt_of_le hb C.2.2.2.2.2.2.1) (Nat.not_le.mpr hb) hS hin h (k H locs ls hM hS hl)
theorem V_slen (C : Cx p l s m args meth c D ba own cc nL tb d) {b L : Nat} {xs : Nat → Int32} (hX : va_X b L xs s s.heap) (hb : b < ba) (h : decode cc pc = .ok (.arraylength, 1))
    (k : V p l e s m args below meth c D ba d mc ms Q nL ad w (pc + 1) lv (.int (Int32.ofNat L) :: rest) cells slots) : V p l e s m args below meth c D ba d mc ms Q nL ad w pc lv (.ref b :: rest) cells slots := fun H locs ls hM hS hl =>
  va_slen (A := fun q => ba ≤ q) C.1 C.2.1 hX (Nat.lt_of_lt_of_le hb C.2.2.2.2.2.2.1) (Nat.not_le.mpr hb) hS h (k H locs ls hM hS hl)
/-! methods begin -/
theorem CT_of {y : MethodName} {cy : ByteArray} {n : Nat} {ry : Option FieldType} {as : List Value} (own : String) (hown : y.cls = own) (hy : plainName y.cls = true) (hl : l.stackTraces = false) (hn : (lg_sl as).length ≤ n)
    (body : ∀ (p : Program) (e : Env) (s : State) (m : MethodId) (args : Array Value) (below : List Frame) (meth : Method) (c : Code), Cx p l s m args meth c D ba own cy n [] d → meth.sig.returnType = ry → meth.name = y.name → V p l e s m args below meth c D ba d mc ms (MO D ba QR QX below args s mc ms) n ad w 0 (lv_args 0 as) [] 0 0) : CT l y (wsO y cy n ry) d mc ms D ba as ad w QR QX := by
  subst hown
  refine vx_ofW (cc := cy) (maxL := n) (ret := ry) hy rfl ?_
  intro p e s m args below meth c s₁ B hml ht hv
  obtain ⟨rfl, hNF, hba, hM⟩ := hv
  have hts := atoms_spec (ws := wsO y cy n ry) B.pre
  have hown : s.vm.findClass y.cls = some m.cls := findClass_of_methodNamed B.named
  have htb : c.exceptionTable.toList = [] := List.eq_nil_iff_forall_not_mem.mpr (fun x hx => ht x hx)
  have K := body p e s m as.toArray below meth c ⟨B.exec, B.bytes, hml, hown, fun w hw => hts w (List.mem_cons_of_mem _ hw), hNF, hba, B.notSynchronized, hl, htb⟩ B.returns (name_of_methodNamed B.named B.method).1
  rw [lg_entry_eq]
  exact K s.heap [] _ hM va_S.rf (lv_entry as hn)
theorem CT_ofH {y : MethodName} {cy : ByteArray} {n : Nat} {ry : Option FieldType} {hh : List (Nat × Nat × Nat × Nat)} {as : List Value} (own : String) (hown : y.cls = own) (hy : plainName y.cls = true) (hl : l.stackTraces = false) (hn : (lg_sl as).length ≤ n)
    (body : ∀ (p : Program) (e : Env) (s : State) (m : MethodId) (args : Array Value) (below : List Frame) (meth : Method) (c : Code), Cx p l s m args meth c D ba own cy n (tableOf hh) d → meth.sig.returnType = ry → meth.name = y.name → V p l e s m args below meth c D ba d mc ms (MO D ba QR QX below args s mc ms) n ad w 0 (lv_args 0 as) [] 0 0) : CT l y (wsH y cy n ry hh) d mc ms D ba as ad w QR QX := by
  subst hown
  refine vx_ofWH (cc := cy) (maxL := n) (ret := ry) (hh := hh) hy rfl ?_
  intro p e s m args below meth c s₁ B hml hv
  obtain ⟨rfl, hNF, hba, hM⟩ := hv
  have hts := atoms_spec (ws := wsH y cy n ry hh) B.pre
  have hown : s.vm.findClass y.cls = some m.cls := findClass_of_methodNamed B.named
  have htb := vx_table (x := y) B (hts _ List.mem_cons_self)
  have K := body p e s m as.toArray below meth c ⟨B.exec, B.bytes, hml, hown, fun w hw => hts w (List.mem_cons_of_mem _ hw), hNF, hba, B.notSynchronized, hl, htb⟩ B.returns (name_of_methodNamed B.named B.method).1
  rw [lg_entry_eq]
  exact K s.heap [] _ hM va_S.rf (lv_entry as hn)
end EC
end
section
theorem tw_0 : Cond.initialized RL ∈ eg_T := eg_in 47 (by decide +kernel) (by decide +kernel)
theorem tw_1 : Cond.initialized RX6 ∈ eg_T := eg_in 48 (by decide +kernel) (by decide +kernel)
theorem tw_2 : Cond.initialized RX5 ∈ eg_T := eg_in 49 (by decide +kernel) (by decide +kernel)
theorem tw_3 : Cond.initialized RX2 ∈ eg_T := eg_in 50 (by decide +kernel) (by decide +kernel)
theorem tw_4 : Cond.initialized RX7 ∈ eg_T := eg_in 51 (by decide +kernel) (by decide +kernel)
theorem tw_5 : Cond.initialized "java/lang/Throwable" ∈ eg_T := eg_in 52 (by decide +kernel) (by decide +kernel)
theorem tw_6 : Cond.initialized "java/lang/Exception" ∈ eg_T := eg_in 53 (by decide +kernel) (by decide +kernel)
theorem tw_7 : Cond.initialized "java/lang/RuntimeException" ∈ eg_T := eg_in 54 (by decide +kernel) (by decide +kernel)
theorem tw_8 : Cond.initialized "java/lang/IllegalArgumentException" ∈ eg_T := eg_in 55 (by decide +kernel) (by decide +kernel)
theorem tw_9 : Cond.initialized "java/lang/IllegalStateException" ∈ eg_T := eg_in 56 (by decide +kernel) (by decide +kernel)
theorem tw_10 : Cond.initialized RX0 ∈ eg_T := eg_in 57 (by decide +kernel) (by decide +kernel)
theorem tw_11 : Cond.initialized "java/lang/IndexOutOfBoundsException" ∈ eg_T := eg_in 58 (by decide +kernel) (by decide +kernel)
theorem tw_12 : Cond.initialized RX4 ∈ eg_T := eg_in 59 (by decide +kernel) (by decide +kernel)
theorem tw_13 : Cond.initialized RX3 ∈ eg_T := eg_in 60 (by decide +kernel) (by decide +kernel)
theorem tw_14 : Cond.initialized RJ10 ∈ eg_T := eg_in 61 (by decide +kernel) (by decide +kernel)
theorem tw_15 : Cond.initialized RJ9 ∈ eg_T := eg_in 62 (by decide +kernel) (by decide +kernel)
theorem tw_16 : Cond.initialized RJ7 ∈ eg_T := eg_in 63 (by decide +kernel) (by decide +kernel)
theorem tw_17 : Cond.classLink RL 8 RX6 ∈ eg_T := eg_in 64 (by decide +kernel) (by decide +kernel)
theorem tw_18 : Cond.instantiable RX6 8 ∈ eg_T := eg_in 65 (by decide +kernel) (by decide +kernel)
theorem tw_19 : Cond.methodLink RL 109 yX6_init ∈ eg_T := eg_in 66 (by decide +kernel) (by decide +kernel)
theorem tw_20 : Cond.instanceMethod yX6_init ∈ eg_T := eg_in 67 (by decide +kernel) (by decide +kernel)
theorem tw_21 : Cond.code yX6_init cX6_init 1 none ∈ eg_T := eg_in 68 (by decide +kernel) (by decide +kernel)
theorem tw_22 : Cond.methodLink RX6 3 Lib.objectInit ∈ eg_T := eg_in 69 (by decide +kernel) (by decide +kernel)
theorem tw_23 : Cond.instanceMethod Lib.objectInit ∈ eg_T := eg_in 70 (by decide +kernel) (by decide +kernel)
theorem tw_24 : Cond.code Lib.objectInit ⟨#[0xb1]⟩ 1 none ∈ eg_T := eg_in 71 (by decide +kernel) (by decide +kernel)
theorem tw_25 : Cond.classLink RX6 9 RX0 ∈ eg_T := eg_in 72 (by decide +kernel) (by decide +kernel)
theorem tw_26 : Cond.arrayOver (.object RX0) ∈ lw_tbl := List.mem_of_getElem? (i := 73) (by decide +kernel)
theorem tw_27 : Cond.classLink RX6 15 RX3 ∈ eg_T := eg_in 74 (by decide +kernel) (by decide +kernel)
theorem tw_28 : Cond.arrayOver (.object RX3) ∈ lw_tbl := List.mem_of_getElem? (i := 75) (by decide +kernel)
theorem tw_29 : Cond.classLink RX6 21 RX5 ∈ eg_T := eg_in 76 (by decide +kernel) (by decide +kernel)
theorem tw_30 : Cond.instantiable RX5 5 ∈ eg_T := eg_in 77 (by decide +kernel) (by decide +kernel)
theorem tw_31 : Cond.methodLinkNest RX6 23 yX5_init RX6 ∈ lw_tbl := List.mem_of_getElem? (i := 78) (by decide +kernel)
theorem tw_32 : Cond.instanceMethod yX5_init ∈ eg_T := eg_in 79 (by decide +kernel) (by decide +kernel)
theorem tw_33 : Cond.code yX5_init cX5_init 1 none ∈ eg_T := eg_in 80 (by decide +kernel) (by decide +kernel)
theorem tw_34 : Cond.methodLink RX5 3 Lib.objectInit ∈ eg_T := eg_in 81 (by decide +kernel) (by decide +kernel)
theorem tw_35 : Cond.fieldLink RX5 9 RX5 "limit" "I" ∈ eg_T := eg_in 82 (by decide +kernel) (by decide +kernel)
theorem tw_36 : Cond.fieldLinkNest RX3 25 RX5 "count" "I" RX6 ∈ lw_tbl := List.mem_of_getElem? (i := 83) (by decide +kernel)
theorem tw_37 : Cond.fieldLink RX5 15 RX5 "count" "I" ∈ eg_T := eg_in 84 (by decide +kernel) (by decide +kernel)
theorem tw_38 : Cond.fieldLinkNest RX6 159 RX5 "count" "I" RX6 ∈ lw_tbl := List.mem_of_getElem? (i := 85) (by decide +kernel)
theorem tw_39 : Cond.fieldLink RX5 18 RX5 "loudCount" "I" ∈ eg_T := eg_in 86 (by decide +kernel) (by decide +kernel)
theorem tw_40 : Cond.fieldLinkNest RX3 36 RX5 "loudCount" "I" RX6 ∈ lw_tbl := List.mem_of_getElem? (i := 87) (by decide +kernel)
theorem tw_41 : Cond.fieldLinkNest RX6 169 RX5 "loudCount" "I" RX6 ∈ lw_tbl := List.mem_of_getElem? (i := 88) (by decide +kernel)
theorem tw_42 : Cond.fieldLinkNest RX3 30 RX5 "first" "I" RX6 ∈ lw_tbl := List.mem_of_getElem? (i := 89) (by decide +kernel)
theorem tw_43 : Cond.fieldLink RX5 21 RX5 "first" "I" ∈ eg_T := eg_in 90 (by decide +kernel) (by decide +kernel)
theorem tw_44 : Cond.fieldLinkNest RX6 172 RX5 "first" "I" RX6 ∈ lw_tbl := List.mem_of_getElem? (i := 91) (by decide +kernel)
theorem tw_45 : Cond.fieldLinkNest RX3 33 RX5 "last" "I" RX6 ∈ lw_tbl := List.mem_of_getElem? (i := 92) (by decide +kernel)
theorem tw_46 : Cond.fieldLink RX5 24 RX5 "last" "I" ∈ eg_T := eg_in 93 (by decide +kernel) (by decide +kernel)
theorem tw_47 : Cond.fieldLinkNest RX6 175 RX5 "last" "I" RX6 ∈ lw_tbl := List.mem_of_getElem? (i := 94) (by decide +kernel)
theorem tw_59 : Cond.classLink RX6 28 RX2 ∈ eg_T := eg_in 106 (by decide +kernel) (by decide +kernel)
theorem tw_60 : Cond.instantiable RX2 1 ∈ eg_T := eg_in 107 (by decide +kernel) (by decide +kernel)
theorem tw_61 : Cond.methodLinkNest RX6 30 yX2_init RX6 ∈ lw_tbl := List.mem_of_getElem? (i := 108) (by decide +kernel)
theorem tw_62 : Cond.instanceMethod yX2_init ∈ eg_T := eg_in 109 (by decide +kernel) (by decide +kernel)
theorem tw_63 : Cond.code yX2_init cX2_init 1 none ∈ eg_T := eg_in 110 (by decide +kernel) (by decide +kernel)
theorem tw_64 : Cond.methodLink RX2 3 Lib.objectInit ∈ eg_T := eg_in 111 (by decide +kernel) (by decide +kernel)
theorem tw_65 : Cond.fieldLink RX2 9 RX2 "added" "[I" ∈ eg_T := eg_in 112 (by decide +kernel) (by decide +kernel)
theorem tw_69 : Cond.arrayClass .int ∈ eg_T := eg_in 116 (by decide +kernel) (by decide +kernel)
theorem tw_70 : Cond.fieldLink RX6 11 RX6 "hallRow" "[LEchoBureau$Hall;" ∈ eg_T := eg_in 117 (by decide +kernel) (by decide +kernel)
theorem tw_71 : Cond.fieldLink RX6 17 RX6 "standardRow" "[LEchoBureau$Standard;" ∈ eg_T := eg_in 118 (by decide +kernel) (by decide +kernel)
theorem tw_72 : Cond.fieldLink RX6 39 RX6 "hallCount" "I" ∈ eg_T := eg_in 119 (by decide +kernel) (by decide +kernel)
theorem tw_73 : Cond.fieldLink RX6 101 RX6 "standardCount" "I" ∈ eg_T := eg_in 120 (by decide +kernel) (by decide +kernel)
theorem tw_74 : Cond.fieldLink RX6 141 RX6 "today" "I" ∈ eg_T := eg_in 121 (by decide +kernel) (by decide +kernel)
theorem tw_75 : Cond.fieldLink RX6 113 RX6 "inspectionCount" "I" ∈ eg_T := eg_in 122 (by decide +kernel) (by decide +kernel)
theorem tw_76 : Cond.fieldLink RX6 24 RX6 "tally" "LEchoBureau$Tally;" ∈ eg_T := eg_in 123 (by decide +kernel) (by decide +kernel)
theorem tw_77 : Cond.fieldLink RX6 31 RX6 "loudnesses" "LEchoBureau$Loudnesses;" ∈ eg_T := eg_in 124 (by decide +kernel) (by decide +kernel)
theorem tw_95 : Cond.methodLink RL 198 yX6_halls ∈ eg_T := eg_in 142 (by decide +kernel) (by decide +kernel)
theorem tw_96 : Cond.instanceMethod yX6_halls ∈ eg_T := eg_in 143 (by decide +kernel) (by decide +kernel)
theorem tw_97 : Cond.selects RX6 yX6_halls yX6_halls ∈ eg_T := eg_in 144 (by decide +kernel) (by decide +kernel)
theorem tw_98 : Cond.code yX6_halls cX6_halls 1 (some .int) ∈ eg_T := eg_in 145 (by decide +kernel) (by decide +kernel)
theorem tw_99 : Cond.methodLink RL 202 yX6_standards ∈ eg_T := eg_in 146 (by decide +kernel) (by decide +kernel)
theorem tw_100 : Cond.instanceMethod yX6_standards ∈ eg_T := eg_in 147 (by decide +kernel) (by decide +kernel)
theorem tw_101 : Cond.selects RX6 yX6_standards yX6_standards ∈ eg_T := eg_in 148 (by decide +kernel) (by decide +kernel)
theorem tw_102 : Cond.code yX6_standards cX6_standards 1 (some .int) ∈ eg_T := eg_in 149 (by decide +kernel) (by decide +kernel)
theorem tw_103 : Cond.methodLink RL 206 yX6_day ∈ eg_T := eg_in 150 (by decide +kernel) (by decide +kernel)
theorem tw_104 : Cond.instanceMethod yX6_day ∈ eg_T := eg_in 151 (by decide +kernel) (by decide +kernel)
theorem tw_105 : Cond.selects RX6 yX6_day yX6_day ∈ eg_T := eg_in 152 (by decide +kernel) (by decide +kernel)
theorem tw_106 : Cond.code yX6_day cX6_day 1 (some .int) ∈ eg_T := eg_in 153 (by decide +kernel) (by decide +kernel)
theorem tw_107 : Cond.methodLink RL 210 yX6_inspections ∈ eg_T := eg_in 154 (by decide +kernel) (by decide +kernel)
theorem tw_108 : Cond.instanceMethod yX6_inspections ∈ eg_T := eg_in 155 (by decide +kernel) (by decide +kernel)
theorem tw_109 : Cond.selects RX6 yX6_inspections yX6_inspections ∈ eg_T := eg_in 156 (by decide +kernel) (by decide +kernel)
theorem tw_110 : Cond.code yX6_inspections cX6_inspections 1 (some .int) ∈ eg_T := eg_in 157 (by decide +kernel) (by decide +kernel)
theorem tw_111 : Cond.methodLink RL 214 yX6_certifiedHalls ∈ eg_T := eg_in 158 (by decide +kernel) (by decide +kernel)
theorem tw_112 : Cond.instanceMethod yX6_certifiedHalls ∈ eg_T := eg_in 159 (by decide +kernel) (by decide +kernel)
theorem tw_113 : Cond.selects RX6 yX6_certifiedHalls yX6_certifiedHalls ∈ eg_T := eg_in 160 (by decide +kernel) (by decide +kernel)
theorem tw_114 : Cond.code yX6_certifiedHalls cX6_certifiedHalls 1 (some .int) ∈ eg_T := eg_in 161 (by decide +kernel) (by decide +kernel)
theorem tw_115 : Cond.methodLink RX6 144 yX6_countCertified ∈ eg_T := eg_in 162 (by decide +kernel) (by decide +kernel)
theorem tw_117 : Cond.instanceMethod yX6_countCertified ∈ eg_T := eg_in 164 (by decide +kernel) (by decide +kernel)
theorem tw_118 : Cond.code yX6_countCertified cX6_countCertified 6 (some .int) ∈ eg_T := eg_in 165 (by decide +kernel) (by decide +kernel)
theorem tw_119 : Cond.methodLinkNest RX6 190 yX0_hasCertificate RX6 ∈ lw_tbl := List.mem_of_getElem? (i := 166) (by decide +kernel)
theorem tw_121 : Cond.instanceMethod yX0_hasCertificate ∈ eg_T := eg_in 168 (by decide +kernel) (by decide +kernel)
theorem tw_122 : Cond.instantiable RX0 6 ∈ eg_T := eg_in 169 (by decide +kernel) (by decide +kernel)
theorem tw_123 : Cond.code yX0_hasCertificate cX0_hasCertificate 1 (some .boolean) ∈ eg_T := eg_in 170 (by decide +kernel) (by decide +kernel)
theorem tw_124 : Cond.methodLink RL 230 yX6_meanDamping ∈ eg_T := eg_in 171 (by decide +kernel) (by decide +kernel)
theorem tw_125 : Cond.instanceMethod yX6_meanDamping ∈ eg_T := eg_in 172 (by decide +kernel) (by decide +kernel)
theorem tw_126 : Cond.selects RX6 yX6_meanDamping yX6_meanDamping ∈ eg_T := eg_in 173 (by decide +kernel) (by decide +kernel)
theorem tw_127 : Cond.code yX6_meanDamping cX6_meanDamping 6 (some .double) ∈ eg_T := eg_in 174 (by decide +kernel) (by decide +kernel)
theorem tw_128 : Cond.methodLink RL 235 yX6_digest ∈ eg_T := eg_in 175 (by decide +kernel) (by decide +kernel)
theorem tw_129 : Cond.instanceMethod yX6_digest ∈ eg_T := eg_in 176 (by decide +kernel) (by decide +kernel)
theorem tw_130 : Cond.selects RX6 yX6_digest yX6_digest ∈ eg_T := eg_in 177 (by decide +kernel) (by decide +kernel)
theorem tw_131 : Cond.code yX6_digest cX6_digest 7 (some .long) ∈ eg_T := eg_in 178 (by decide +kernel) (by decide +kernel)
theorem tw_132 : Cond.constantLong RX6 200 1871 ∈ eg_T := eg_in 179 (by decide +kernel) (by decide +kernel)
theorem tw_133 : Cond.methodLink RX6 202 yX6_mix ∈ eg_T := eg_in 180 (by decide +kernel) (by decide +kernel)
theorem tw_134 : Cond.static yX6_mix ∈ eg_T := eg_in 181 (by decide +kernel) (by decide +kernel)
theorem tw_135 : Cond.code yX6_mix cX6_mix 3 (some .long) ∈ eg_T := eg_in 182 (by decide +kernel) (by decide +kernel)
theorem tw_136 : Cond.constantLong RX6 213 31 ∈ eg_T := eg_in 183 (by decide +kernel) (by decide +kernel)
theorem tw_137 : Cond.methodLink RX6 206 yX6_mixHall ∈ eg_T := eg_in 184 (by decide +kernel) (by decide +kernel)
theorem tw_138 : Cond.static yX6_mixHall ∈ eg_T := eg_in 185 (by decide +kernel) (by decide +kernel)
theorem tw_139 : Cond.code yX6_mixHall cX6_mixHall 9 (some .long) ∈ eg_T := eg_in 186 (by decide +kernel) (by decide +kernel)
theorem tw_140 : Cond.methodLinkNest RX6 151 yX4_hardnessUnder RX6 ∈ lw_tbl := List.mem_of_getElem? (i := 187) (by decide +kernel)
theorem tw_142 : Cond.instanceMethod yX4_hardnessUnder ∈ eg_T := eg_in 189 (by decide +kernel) (by decide +kernel)
theorem tw_143 : Cond.instantiable RX4 2 ∈ eg_T := eg_in 190 (by decide +kernel) (by decide +kernel)
theorem tw_144 : Cond.code yX4_hardnessUnder cX4_hardnessUnder 2 (some .int) ∈ eg_T := eg_in 191 (by decide +kernel) (by decide +kernel)
theorem tw_145 : Cond.methodLink RX4 18 Lib.Math.max.name ∈ eg_T := eg_in 192 (by decide +kernel) (by decide +kernel)
theorem tw_146 : Cond.static Lib.Math.max.name ∈ eg_T := eg_in 193 (by decide +kernel) (by decide +kernel)
theorem tw_147 : Cond.code Lib.Math.max.name Lib.Math.max.code 2 (some .int) ∈ eg_T := eg_in 194 (by decide +kernel) (by decide +kernel)
theorem tw_148 : Cond.methodLink RX6 210 yX6_mixEchoes ∈ eg_T := eg_in 195 (by decide +kernel) (by decide +kernel)
theorem tw_150 : Cond.instanceMethod yX6_mixEchoes ∈ eg_T := eg_in 197 (by decide +kernel) (by decide +kernel)
theorem tw_151 : Cond.code yX6_mixEchoes cX6_mixEchoes 11 (some .long) ∈ eg_T := eg_in 198 (by decide +kernel) (by decide +kernel)
theorem tw_152 : Cond.methodLink RX6 165 yX6_tallyOf ∈ eg_T := eg_in 199 (by decide +kernel) (by decide +kernel)
theorem tw_154 : Cond.instanceMethod yX6_tallyOf ∈ eg_T := eg_in 201 (by decide +kernel) (by decide +kernel)
theorem tw_155 : Cond.code yX6_tallyOf cX6_tallyOf 4 (some (.object "EchoBureau$Tally")) ∈ eg_T := eg_in 202 (by decide +kernel) (by decide +kernel)
theorem tw_156 : Cond.methodLinkNest RX6 242 yX5_begin RX6 ∈ lw_tbl := List.mem_of_getElem? (i := 203) (by decide +kernel)
theorem tw_158 : Cond.instanceMethod yX5_begin ∈ eg_T := eg_in 205 (by decide +kernel) (by decide +kernel)
theorem tw_159 : Cond.code yX5_begin cX5_begin 2 none ∈ eg_T := eg_in 206 (by decide +kernel) (by decide +kernel)
theorem tw_160 : Cond.methodLinkNest RX6 245 yX0_throwBack RX6 ∈ lw_tbl := List.mem_of_getElem? (i := 207) (by decide +kernel)
theorem tw_162 : Cond.instanceMethod yX0_throwBack ∈ eg_T := eg_in 209 (by decide +kernel) (by decide +kernel)
theorem tw_163 : Cond.code yX0_throwBack cX0_throwBack 9 none ∈ eg_T := eg_in 210 (by decide +kernel) (by decide +kernel)
theorem tw_164 : Cond.methodLinkNest RX0 46 yX4_throwRow RX6 ∈ lw_tbl := List.mem_of_getElem? (i := 211) (by decide +kernel)
theorem tw_166 : Cond.instanceMethod yX4_throwRow ∈ eg_T := eg_in 213 (by decide +kernel) (by decide +kernel)
theorem tw_167 : Cond.code yX4_throwRow cX4_throwRow 9 none ∈ eg_T := eg_in 214 (by decide +kernel) (by decide +kernel)
theorem tw_168 : Cond.methodLink RX4 24 yX4_hardnessUnder ∈ eg_T := eg_in 215 (by decide +kernel) (by decide +kernel)
theorem tw_170 : Cond.methodLink RX4 28 ⟨"EchoBureau$Listener", "hear", "(II)V"⟩ ∈ eg_T := eg_in 217 (by decide +kernel) (by decide +kernel)
theorem tw_172 : Cond.declares ⟨"EchoBureau$Listener", "hear", "(II)V"⟩ ∈ lw_tbl := List.mem_of_getElem? (i := 219) (by decide +kernel)
theorem tw_173 : Cond.castable "EchoBureau$Loudnesses" "EchoBureau$Listener" ∈ lw_tbl := List.mem_of_getElem? (i := 220) (by decide +kernel)
theorem tw_174 : Cond.selects RX2 ⟨"EchoBureau$Listener", "hear", "(II)V"⟩ yX2_hear ∈ eg_T := eg_in 221 (by decide +kernel) (by decide +kernel)
theorem tw_176 : Cond.instanceMethod yX2_hear ∈ eg_T := eg_in 223 (by decide +kernel) (by decide +kernel)
theorem tw_177 : Cond.publicMethod yX2_hear ∈ lw_tbl := List.mem_of_getElem? (i := 224) (by decide +kernel)
theorem tw_178 : Cond.code yX2_hear cX2_hear 4 none ∈ eg_T := eg_in 225 (by decide +kernel) (by decide +kernel)
theorem tw_179 : Cond.castable "EchoBureau$Tally" "EchoBureau$Listener" ∈ lw_tbl := List.mem_of_getElem? (i := 226) (by decide +kernel)
theorem tw_180 : Cond.selects RX5 ⟨"EchoBureau$Listener", "hear", "(II)V"⟩ yX5_hear ∈ eg_T := eg_in 227 (by decide +kernel) (by decide +kernel)
theorem tw_182 : Cond.instanceMethod yX5_hear ∈ eg_T := eg_in 229 (by decide +kernel) (by decide +kernel)
theorem tw_183 : Cond.publicMethod yX5_hear ∈ lw_tbl := List.mem_of_getElem? (i := 230) (by decide +kernel)
theorem tw_184 : Cond.code yX5_hear cX5_hear 3 none ∈ eg_T := eg_in 231 (by decide +kernel) (by decide +kernel)
theorem tw_185 : Cond.methodLink RX6 180 yX6_loudnessesOf ∈ eg_T := eg_in 232 (by decide +kernel) (by decide +kernel)
theorem tw_187 : Cond.instanceMethod yX6_loudnessesOf ∈ eg_T := eg_in 234 (by decide +kernel) (by decide +kernel)
theorem tw_188 : Cond.code yX6_loudnessesOf cX6_loudnessesOf 3 (some (.object "EchoBureau$Loudnesses")) ∈ eg_T := eg_in 235 (by decide +kernel) (by decide +kernel)
theorem tw_189 : Cond.methodLinkNest RX6 249 yX2_begin RX6 ∈ lw_tbl := List.mem_of_getElem? (i := 236) (by decide +kernel)
theorem tw_191 : Cond.instanceMethod yX2_begin ∈ eg_T := eg_in 238 (by decide +kernel) (by decide +kernel)
theorem tw_192 : Cond.code yX2_begin cX2_begin 1 none ∈ eg_T := eg_in 239 (by decide +kernel) (by decide +kernel)
theorem tw_193 : Cond.methodLink RX2 15 yJ7_fill_53178 ∈ eg_T := eg_in 240 (by decide +kernel) (by decide +kernel)
theorem tw_194 : Cond.static yJ7_fill_53178 ∈ eg_T := eg_in 241 (by decide +kernel) (by decide +kernel)
theorem tw_195 : Cond.code yJ7_fill_53178 cJ7_fill_53178 4 none ∈ eg_T := eg_in 242 (by decide +kernel) (by decide +kernel)
theorem tw_196 : Cond.methodLinkNest RX6 187 yX2_momentOfMost RX6 ∈ lw_tbl := List.mem_of_getElem? (i := 243) (by decide +kernel)
theorem tw_198 : Cond.instanceMethod yX2_momentOfMost ∈ eg_T := eg_in 245 (by decide +kernel) (by decide +kernel)
theorem tw_199 : Cond.code yX2_momentOfMost cX2_momentOfMost 4 (some .int) ∈ eg_T := eg_in 246 (by decide +kernel) (by decide +kernel)
theorem tw_200 : Cond.methodLink RX6 116 yX6_meetsNow ∈ eg_T := eg_in 247 (by decide +kernel) (by decide +kernel)
theorem tw_202 : Cond.instanceMethod yX6_meetsNow ∈ eg_T := eg_in 249 (by decide +kernel) (by decide +kernel)
theorem tw_203 : Cond.code yX6_meetsNow cX6_meetsNow 3 (some .boolean) ∈ eg_T := eg_in 250 (by decide +kernel) (by decide +kernel)
theorem tw_204 : Cond.methodLink RX6 193 yX6_wouldMeet ∈ eg_T := eg_in 251 (by decide +kernel) (by decide +kernel)
theorem tw_206 : Cond.instanceMethod yX6_wouldMeet ∈ eg_T := eg_in 253 (by decide +kernel) (by decide +kernel)
theorem tw_207 : Cond.code yX6_wouldMeet cX6_wouldMeet 5 (some .boolean) ∈ eg_T := eg_in 254 (by decide +kernel) (by decide +kernel)
theorem tw_208 : Cond.methodLinkNest RX6 254 yX3_allows RX6 ∈ lw_tbl := List.mem_of_getElem? (i := 255) (by decide +kernel)
theorem tw_210 : Cond.instanceMethod yX3_allows ∈ eg_T := eg_in 257 (by decide +kernel) (by decide +kernel)
theorem tw_211 : Cond.instantiable RX3 5 ∈ eg_T := eg_in 258 (by decide +kernel) (by decide +kernel)
theorem tw_212 : Cond.code yX3_allows cX3_allows 2 (some .boolean) ∈ eg_T := eg_in 259 (by decide +kernel) (by decide +kernel)
theorem tw_213 : Cond.methodLink RL 113 yL_addHall ∈ eg_T := eg_in 260 (by decide +kernel) (by decide +kernel)
theorem tw_214 : Cond.static yL_addHall ∈ eg_T := eg_in 261 (by decide +kernel) (by decide +kernel)
theorem tw_215 : Cond.codeWith yL_addHall cL_addHall 4 (some .int) [(0, 9, 12, 13), (0, 9, 15, 15)] ∈ eg_T := eg_in 262 (by decide +kernel) (by decide +kernel)
theorem tw_216 : Cond.classLink RL 13 "java/lang/IllegalArgumentException" ∈ eg_T := eg_in 263 (by decide +kernel) (by decide +kernel)
theorem tw_217 : Cond.classLink RL 15 "java/lang/IllegalStateException" ∈ eg_T := eg_in 264 (by decide +kernel) (by decide +kernel)
theorem tw_218 : Cond.methodLink RL 7 yX6_addHall ∈ eg_T := eg_in 265 (by decide +kernel) (by decide +kernel)
theorem tw_219 : Cond.instanceMethod yX6_addHall ∈ eg_T := eg_in 266 (by decide +kernel) (by decide +kernel)
theorem tw_220 : Cond.selects RX6 yX6_addHall yX6_addHall ∈ eg_T := eg_in 267 (by decide +kernel) (by decide +kernel)
theorem tw_221 : Cond.code yX6_addHall cX6_addHall 3 (some .int) ∈ eg_T := eg_in 268 (by decide +kernel) (by decide +kernel)
theorem tw_222 : Cond.methodLink RX6 35 yX6_checkDamping ∈ eg_T := eg_in 269 (by decide +kernel) (by decide +kernel)
theorem tw_223 : Cond.static yX6_checkDamping ∈ eg_T := eg_in 270 (by decide +kernel) (by decide +kernel)
theorem tw_224 : Cond.code yX6_checkDamping cX6_checkDamping 1 none ∈ eg_T := eg_in 271 (by decide +kernel) (by decide +kernel)
theorem tw_225 : Cond.methodLink RX6 59 yX6_isWithin ∈ eg_T := eg_in 272 (by decide +kernel) (by decide +kernel)
theorem tw_226 : Cond.static yX6_isWithin ∈ eg_T := eg_in 273 (by decide +kernel) (by decide +kernel)
theorem tw_227 : Cond.code yX6_isWithin cX6_isWithin 3 (some .boolean) ∈ eg_T := eg_in 274 (by decide +kernel) (by decide +kernel)
theorem tw_228 : Cond.classLink RX6 63 "java/lang/IllegalArgumentException" ∈ eg_T := eg_in 275 (by decide +kernel) (by decide +kernel)
theorem tw_229 : Cond.instantiable "java/lang/IllegalArgumentException" 6 ∈ eg_T := eg_in 276 (by decide +kernel) (by decide +kernel)
theorem tw_230 : Cond.castable "java/lang/IllegalArgumentException" "java/lang/IllegalArgumentException" ∈ lw_tbl := List.mem_of_getElem? (i := 277) (by decide +kernel)
theorem tw_231 : Cond.declares ⟨"java/lang/RuntimeException", "<init>", "()V"⟩ ∈ lw_tbl := List.mem_of_getElem? (i := 278) (by decide +kernel)
theorem tw_232 : Cond.declares ⟨"java/lang/RuntimeException", "<init>", "(Ljava/lang/String;)V"⟩ ∈ lw_tbl := List.mem_of_getElem? (i := 279) (by decide +kernel)
theorem tw_233 : Cond.declares ⟨"java/lang/Exception", "<init>", "()V"⟩ ∈ lw_tbl := List.mem_of_getElem? (i := 280) (by decide +kernel)
theorem tw_234 : Cond.declares ⟨"java/lang/Exception", "<init>", "(Ljava/lang/String;)V"⟩ ∈ lw_tbl := List.mem_of_getElem? (i := 281) (by decide +kernel)
theorem tw_235 : Cond.declares ⟨"java/lang/Throwable", "<init>", "()V"⟩ ∈ lw_tbl := List.mem_of_getElem? (i := 282) (by decide +kernel)
theorem tw_236 : Cond.declares ⟨"java/lang/Throwable", "<init>", "(Ljava/lang/String;)V"⟩ ∈ lw_tbl := List.mem_of_getElem? (i := 283) (by decide +kernel)
theorem tw_237 : Cond.selects "java/lang/IllegalArgumentException" ⟨"java/lang/Throwable", "fillInStackTrace", "(I)Ljava/lang/Throwable;"⟩ ⟨"java/lang/Throwable", "fillInStackTrace", "(I)Ljava/lang/Throwable;"⟩ ∈ eg_T := eg_in 284 (by decide +kernel) (by decide +kernel)
theorem tw_238 : Cond.selects "java/lang/IllegalArgumentException" ⟨"java/lang/Throwable", "fillInStackTrace", "()Ljava/lang/Throwable;"⟩ ⟨"java/lang/Throwable", "fillInStackTrace", "()Ljava/lang/Throwable;"⟩ ∈ eg_T := eg_in 285 (by decide +kernel) (by decide +kernel)
theorem tw_249 : Cond.fieldLink "java/lang/Throwable" 198 "java/lang/Throwable" "backtrace" "Ljava/lang/Object;" ∈ eg_T := eg_in 296 (by decide +kernel) (by decide +kernel)
theorem tw_251 : Cond.instanceMethod ⟨"java/lang/Throwable", "<init>", "()V"⟩ ∈ eg_T := eg_in 298 (by decide +kernel) (by decide +kernel)
theorem tw_252 : Cond.code ⟨"java/lang/Throwable", "<init>", "()V"⟩ prog_18_method_1_code 1 none ∈ eg_T := eg_in 299 (by decide +kernel) (by decide +kernel)
theorem tw_253 : Cond.methodLink "java/lang/Throwable" 1 Lib.objectInit ∈ eg_T := eg_in 300 (by decide +kernel) (by decide +kernel)
theorem tw_254 : Cond.fieldLink "java/lang/Throwable" 13 "java/lang/Throwable" "UNASSIGNED_STACK" "[Ljava/lang/StackTraceElement;" ∈ eg_T := eg_in 301 (by decide +kernel) (by decide +kernel)
theorem tw_256 : Cond.fieldLink "java/lang/Throwable" 20 "java/lang/Throwable" "SUPPRESSED_SENTINEL" "Ljava/util/List;" ∈ eg_T := eg_in 303 (by decide +kernel) (by decide +kernel)
theorem tw_258 : Cond.methodLink "java/lang/Throwable" 27 ⟨"java/lang/Throwable", "fillInStackTrace", "()Ljava/lang/Throwable;"⟩ ∈ eg_T := eg_in 305 (by decide +kernel) (by decide +kernel)
theorem tw_259 : Cond.instanceMethod ⟨"java/lang/Throwable", "fillInStackTrace", "()Ljava/lang/Throwable;"⟩ ∈ eg_T := eg_in 306 (by decide +kernel) (by decide +kernel)
theorem tw_261 : Cond.selects "java/lang/IllegalStateException" ⟨"java/lang/Throwable", "fillInStackTrace", "()Ljava/lang/Throwable;"⟩ ⟨"java/lang/Throwable", "fillInStackTrace", "()Ljava/lang/Throwable;"⟩ ∈ eg_T := eg_in 308 (by decide +kernel) (by decide +kernel)
theorem tw_262 : Cond.selects "java/lang/IndexOutOfBoundsException" ⟨"java/lang/Throwable", "fillInStackTrace", "()Ljava/lang/Throwable;"⟩ ⟨"java/lang/Throwable", "fillInStackTrace", "()Ljava/lang/Throwable;"⟩ ∈ eg_T := eg_in 309 (by decide +kernel) (by decide +kernel)
theorem tw_264 : Cond.methodLink "java/lang/Throwable" 202 ⟨"java/lang/Throwable", "fillInStackTrace", "(I)Ljava/lang/Throwable;"⟩ ∈ eg_T := eg_in 311 (by decide +kernel) (by decide +kernel)
theorem tw_266 : Cond.instanceMethod ⟨"java/lang/Throwable", "fillInStackTrace", "(I)Ljava/lang/Throwable;"⟩ ∈ eg_T := eg_in 313 (by decide +kernel) (by decide +kernel)
theorem tw_267 : Cond.instantiable "java/lang/Throwable" 6 ∈ eg_T := eg_in 314 (by decide +kernel) (by decide +kernel)
theorem tw_268 : Cond.native ⟨"java/lang/Throwable", "fillInStackTrace", "(I)Ljava/lang/Throwable;"⟩ ∈ eg_T := eg_in 315 (by decide +kernel) (by decide +kernel)
theorem tw_269 : Cond.stringRef RX6 219 "no such damping" ∈ lw_tbl := List.mem_of_getElem? (i := 316) (by decide +kernel)
theorem tw_270 : Cond.methodLink RX6 67 ⟨"java/lang/IllegalArgumentException", "<init>", "(Ljava/lang/String;)V"⟩ ∈ eg_T := eg_in 317 (by decide +kernel) (by decide +kernel)
theorem tw_271 : Cond.instanceMethod ⟨"java/lang/IllegalArgumentException", "<init>", "(Ljava/lang/String;)V"⟩ ∈ eg_T := eg_in 318 (by decide +kernel) (by decide +kernel)
theorem tw_272 : Cond.code ⟨"java/lang/IllegalArgumentException", "<init>", "(Ljava/lang/String;)V"⟩ prog_11_method_2_code 2 none ∈ eg_T := eg_in 319 (by decide +kernel) (by decide +kernel)
theorem tw_273 : Cond.methodLink "java/lang/IllegalArgumentException" 7 ⟨"java/lang/RuntimeException", "<init>", "(Ljava/lang/String;)V"⟩ ∈ eg_T := eg_in 320 (by decide +kernel) (by decide +kernel)
theorem tw_274 : Cond.instanceMethod ⟨"java/lang/RuntimeException", "<init>", "(Ljava/lang/String;)V"⟩ ∈ eg_T := eg_in 321 (by decide +kernel) (by decide +kernel)
theorem tw_275 : Cond.code ⟨"java/lang/RuntimeException", "<init>", "(Ljava/lang/String;)V"⟩ prog_15_method_2_code 2 none ∈ eg_T := eg_in 322 (by decide +kernel) (by decide +kernel)
theorem tw_276 : Cond.methodLink "java/lang/RuntimeException" 7 ⟨"java/lang/Exception", "<init>", "(Ljava/lang/String;)V"⟩ ∈ eg_T := eg_in 323 (by decide +kernel) (by decide +kernel)
theorem tw_277 : Cond.instanceMethod ⟨"java/lang/Exception", "<init>", "(Ljava/lang/String;)V"⟩ ∈ eg_T := eg_in 324 (by decide +kernel) (by decide +kernel)
theorem tw_278 : Cond.code ⟨"java/lang/Exception", "<init>", "(Ljava/lang/String;)V"⟩ prog_10_method_2_code 2 none ∈ eg_T := eg_in 325 (by decide +kernel) (by decide +kernel)
theorem tw_279 : Cond.methodLink "java/lang/Exception" 7 ⟨"java/lang/Throwable", "<init>", "(Ljava/lang/String;)V"⟩ ∈ eg_T := eg_in 326 (by decide +kernel) (by decide +kernel)
theorem tw_280 : Cond.instanceMethod ⟨"java/lang/Throwable", "<init>", "(Ljava/lang/String;)V"⟩ ∈ eg_T := eg_in 327 (by decide +kernel) (by decide +kernel)
theorem tw_281 : Cond.code ⟨"java/lang/Throwable", "<init>", "(Ljava/lang/String;)V"⟩ prog_18_method_2_code 2 none ∈ eg_T := eg_in 328 (by decide +kernel) (by decide +kernel)
theorem tw_282 : Cond.fieldLink "java/lang/Throwable" 198 "java/lang/Throwable" "backtrace" "Ljava/lang/Object;" ∈ eg_T := eg_in 329 (by decide +kernel) (by decide +kernel)
theorem tw_283 : Cond.fieldLink "java/lang/Throwable" 31 "java/lang/Throwable" "detailMessage" "Ljava/lang/String;" ∈ eg_T := eg_in 330 (by decide +kernel) (by decide +kernel)
theorem tw_284 : Cond.fieldLink "java/lang/Throwable" 7 "java/lang/Throwable" "cause" "Ljava/lang/Throwable;" ∈ eg_T := eg_in 331 (by decide +kernel) (by decide +kernel)
theorem tw_285 : Cond.fieldLink "java/lang/Throwable" 17 "java/lang/Throwable" "stackTrace" "[Ljava/lang/StackTraceElement;" ∈ eg_T := eg_in 332 (by decide +kernel) (by decide +kernel)
theorem tw_286 : Cond.fieldLink "java/lang/Throwable" 24 "java/lang/Throwable" "suppressedExceptions" "Ljava/util/List;" ∈ eg_T := eg_in 333 (by decide +kernel) (by decide +kernel)
theorem tw_295 : Cond.arrayClass .byte ∈ eg_T := eg_in 342 (by decide +kernel) (by decide +kernel)
theorem tw_296 : Cond.classLink RX6 43 "java/lang/IllegalStateException" ∈ eg_T := eg_in 343 (by decide +kernel) (by decide +kernel)
theorem tw_297 : Cond.instantiable "java/lang/IllegalStateException" 6 ∈ eg_T := eg_in 344 (by decide +kernel) (by decide +kernel)
theorem tw_298 : Cond.castable "java/lang/IllegalStateException" "java/lang/IllegalStateException" ∈ lw_tbl := List.mem_of_getElem? (i := 345) (by decide +kernel)
theorem tw_299 : Cond.selects "java/lang/IllegalStateException" ⟨"java/lang/Throwable", "fillInStackTrace", "(I)Ljava/lang/Throwable;"⟩ ⟨"java/lang/Throwable", "fillInStackTrace", "(I)Ljava/lang/Throwable;"⟩ ∈ eg_T := eg_in 346 (by decide +kernel) (by decide +kernel)
theorem tw_305 : Cond.stringRef RX6 45 "no room for another hall" ∈ lw_tbl := List.mem_of_getElem? (i := 352) (by decide +kernel)
theorem tw_306 : Cond.methodLink RX6 47 ⟨"java/lang/IllegalStateException", "<init>", "(Ljava/lang/String;)V"⟩ ∈ eg_T := eg_in 353 (by decide +kernel) (by decide +kernel)
theorem tw_307 : Cond.instanceMethod ⟨"java/lang/IllegalStateException", "<init>", "(Ljava/lang/String;)V"⟩ ∈ eg_T := eg_in 354 (by decide +kernel) (by decide +kernel)
theorem tw_308 : Cond.code ⟨"java/lang/IllegalStateException", "<init>", "(Ljava/lang/String;)V"⟩ prog_12_method_2_code 2 none ∈ eg_T := eg_in 355 (by decide +kernel) (by decide +kernel)
theorem tw_309 : Cond.methodLink "java/lang/IllegalStateException" 7 ⟨"java/lang/RuntimeException", "<init>", "(Ljava/lang/String;)V"⟩ ∈ eg_T := eg_in 356 (by decide +kernel) (by decide +kernel)
theorem tw_312 : Cond.methodLinkNest RX6 50 yX0_init RX6 ∈ lw_tbl := List.mem_of_getElem? (i := 359) (by decide +kernel)
theorem tw_313 : Cond.instanceMethod yX0_init ∈ eg_T := eg_in 360 (by decide +kernel) (by decide +kernel)
theorem tw_314 : Cond.code yX0_init cX0_init 2 none ∈ eg_T := eg_in 361 (by decide +kernel) (by decide +kernel)
theorem tw_315 : Cond.methodLink RX0 3 Lib.objectInit ∈ eg_T := eg_in 362 (by decide +kernel) (by decide +kernel)
theorem tw_316 : Cond.classLink RX0 9 RX4 ∈ eg_T := eg_in 363 (by decide +kernel) (by decide +kernel)
theorem tw_317 : Cond.arrayOver (.object RX4) ∈ lw_tbl := List.mem_of_getElem? (i := 364) (by decide +kernel)
theorem tw_318 : Cond.fieldLink RX0 11 RX0 "surfaces" "[LEchoBureau$Surface;" ∈ eg_T := eg_in 365 (by decide +kernel) (by decide +kernel)
theorem tw_319 : Cond.fieldLinkNest RX6 215 RX0 "surfaces" "[LEchoBureau$Surface;" RX6 ∈ lw_tbl := List.mem_of_getElem? (i := 366) (by decide +kernel)
theorem tw_320 : Cond.fieldLink RX0 24 RX0 "surfaceCount" "I" ∈ eg_T := eg_in 367 (by decide +kernel) (by decide +kernel)
theorem tw_321 : Cond.fieldLinkNest RX6 148 RX0 "surfaceCount" "I" RX6 ∈ lw_tbl := List.mem_of_getElem? (i := 368) (by decide +kernel)
theorem tw_322 : Cond.fieldLink RX0 21 RX0 "damping" "I" ∈ eg_T := eg_in 369 (by decide +kernel) (by decide +kernel)
theorem tw_323 : Cond.fieldLinkNest RX6 93 RX0 "damping" "I" RX6 ∈ lw_tbl := List.mem_of_getElem? (i := 370) (by decide +kernel)
theorem tw_324 : Cond.fieldLinkNest RX6 96 RX0 "dust" "I" RX6 ∈ lw_tbl := List.mem_of_getElem? (i := 371) (by decide +kernel)
theorem tw_325 : Cond.fieldLink RX0 30 RX0 "dust" "I" ∈ eg_T := eg_in 372 (by decide +kernel) (by decide +kernel)
theorem tw_326 : Cond.fieldLink RX0 17 RX0 "certificate" "I" ∈ eg_T := eg_in 373 (by decide +kernel) (by decide +kernel)
theorem tw_327 : Cond.fieldLinkNest RX6 126 RX0 "certificate" "I" RX6 ∈ lw_tbl := List.mem_of_getElem? (i := 374) (by decide +kernel)
theorem tw_328 : Cond.fieldLink RX0 27 RX0 "certificateDays" "I" ∈ eg_T := eg_in 375 (by decide +kernel) (by decide +kernel)
theorem tw_329 : Cond.fieldLinkNest RX6 133 RX0 "certificateDays" "I" RX6 ∈ lw_tbl := List.mem_of_getElem? (i := 376) (by decide +kernel)
theorem tw_343 : Cond.methodLink RL 123 yL_addSurface ∈ eg_T := eg_in 390 (by decide +kernel) (by decide +kernel)
theorem tw_344 : Cond.static yL_addSurface ∈ eg_T := eg_in 391 (by decide +kernel) (by decide +kernel)
theorem tw_345 : Cond.codeWith yL_addSurface cL_addSurface 6 (some .int) [(0, 12, 15, 21), (0, 12, 19, 13), (0, 12, 23, 15)] ∈ eg_T := eg_in 392 (by decide +kernel) (by decide +kernel)
theorem tw_346 : Cond.classLink RL 21 "java/lang/IndexOutOfBoundsException" ∈ eg_T := eg_in 393 (by decide +kernel) (by decide +kernel)
theorem tw_347 : Cond.methodLink RL 17 yX6_addSurface ∈ eg_T := eg_in 394 (by decide +kernel) (by decide +kernel)
theorem tw_348 : Cond.instanceMethod yX6_addSurface ∈ eg_T := eg_in 395 (by decide +kernel) (by decide +kernel)
theorem tw_349 : Cond.selects RX6 yX6_addSurface yX6_addSurface ∈ eg_T := eg_in 396 (by decide +kernel) (by decide +kernel)
theorem tw_350 : Cond.code yX6_addSurface cX6_addSurface 5 (some .int) ∈ eg_T := eg_in 397 (by decide +kernel) (by decide +kernel)
theorem tw_351 : Cond.methodLink RX6 52 yX6_findHall ∈ eg_T := eg_in 398 (by decide +kernel) (by decide +kernel)
theorem tw_353 : Cond.instanceMethod yX6_findHall ∈ eg_T := eg_in 400 (by decide +kernel) (by decide +kernel)
theorem tw_354 : Cond.code yX6_findHall cX6_findHall 3 (some (.object "EchoBureau$Hall")) ∈ eg_T := eg_in 401 (by decide +kernel) (by decide +kernel)
theorem tw_355 : Cond.classLink RX6 227 "java/lang/IndexOutOfBoundsException" ∈ eg_T := eg_in 402 (by decide +kernel) (by decide +kernel)
theorem tw_356 : Cond.instantiable "java/lang/IndexOutOfBoundsException" 6 ∈ eg_T := eg_in 403 (by decide +kernel) (by decide +kernel)
theorem tw_357 : Cond.castable "java/lang/IndexOutOfBoundsException" "java/lang/IndexOutOfBoundsException" ∈ lw_tbl := List.mem_of_getElem? (i := 404) (by decide +kernel)
theorem tw_358 : Cond.selects "java/lang/IndexOutOfBoundsException" ⟨"java/lang/Throwable", "fillInStackTrace", "(I)Ljava/lang/Throwable;"⟩ ⟨"java/lang/Throwable", "fillInStackTrace", "(I)Ljava/lang/Throwable;"⟩ ∈ eg_T := eg_in 405 (by decide +kernel) (by decide +kernel)
theorem tw_364 : Cond.stringRef RX6 229 "no such hall" ∈ lw_tbl := List.mem_of_getElem? (i := 411) (by decide +kernel)
theorem tw_365 : Cond.methodLink RX6 231 ⟨"java/lang/IndexOutOfBoundsException", "<init>", "(Ljava/lang/String;)V"⟩ ∈ eg_T := eg_in 412 (by decide +kernel) (by decide +kernel)
theorem tw_366 : Cond.instanceMethod ⟨"java/lang/IndexOutOfBoundsException", "<init>", "(Ljava/lang/String;)V"⟩ ∈ eg_T := eg_in 413 (by decide +kernel) (by decide +kernel)
theorem tw_367 : Cond.code ⟨"java/lang/IndexOutOfBoundsException", "<init>", "(Ljava/lang/String;)V"⟩ prog_13_method_2_code 2 none ∈ eg_T := eg_in 414 (by decide +kernel) (by decide +kernel)
theorem tw_368 : Cond.methodLink "java/lang/IndexOutOfBoundsException" 7 ⟨"java/lang/RuntimeException", "<init>", "(Ljava/lang/String;)V"⟩ ∈ eg_T := eg_in 415 (by decide +kernel) (by decide +kernel)
theorem tw_371 : Cond.stringRef RX6 232 "no such hall yet" ∈ lw_tbl := List.mem_of_getElem? (i := 418) (by decide +kernel)
theorem tw_372 : Cond.methodLink RX6 56 yX6_checkDistance ∈ eg_T := eg_in 419 (by decide +kernel) (by decide +kernel)
theorem tw_373 : Cond.static yX6_checkDistance ∈ eg_T := eg_in 420 (by decide +kernel) (by decide +kernel)
theorem tw_374 : Cond.code yX6_checkDistance cX6_checkDistance 1 none ∈ eg_T := eg_in 421 (by decide +kernel) (by decide +kernel)
theorem tw_375 : Cond.stringRef RX6 221 "no such distance" ∈ lw_tbl := List.mem_of_getElem? (i := 422) (by decide +kernel)
theorem tw_376 : Cond.stringRef RX6 65 "no such hardness" ∈ lw_tbl := List.mem_of_getElem? (i := 423) (by decide +kernel)
theorem tw_377 : Cond.methodLinkNest RX6 68 yX0_isFull RX6 ∈ lw_tbl := List.mem_of_getElem? (i := 424) (by decide +kernel)
theorem tw_379 : Cond.instanceMethod yX0_isFull ∈ eg_T := eg_in 426 (by decide +kernel) (by decide +kernel)
theorem tw_380 : Cond.code yX0_isFull cX0_isFull 1 (some .boolean) ∈ eg_T := eg_in 427 (by decide +kernel) (by decide +kernel)
theorem tw_381 : Cond.stringRef RX6 72 "no room for another surface" ∈ lw_tbl := List.mem_of_getElem? (i := 428) (by decide +kernel)
theorem tw_382 : Cond.methodLinkNest RX6 74 yX0_loseCertificate RX6 ∈ lw_tbl := List.mem_of_getElem? (i := 429) (by decide +kernel)
theorem tw_384 : Cond.instanceMethod yX0_loseCertificate ∈ eg_T := eg_in 431 (by decide +kernel) (by decide +kernel)
theorem tw_385 : Cond.code yX0_loseCertificate cX0_loseCertificate 1 none ∈ eg_T := eg_in 432 (by decide +kernel) (by decide +kernel)
theorem tw_386 : Cond.classLink RX6 77 RX4 ∈ eg_T := eg_in 433 (by decide +kernel) (by decide +kernel)
theorem tw_387 : Cond.methodLinkNest RX6 79 yX4_init RX6 ∈ lw_tbl := List.mem_of_getElem? (i := 434) (by decide +kernel)
theorem tw_388 : Cond.instanceMethod yX4_init ∈ eg_T := eg_in 435 (by decide +kernel) (by decide +kernel)
theorem tw_389 : Cond.code yX4_init cX4_init 3 none ∈ eg_T := eg_in 436 (by decide +kernel) (by decide +kernel)
theorem tw_390 : Cond.methodLink RX4 3 Lib.objectInit ∈ eg_T := eg_in 437 (by decide +kernel) (by decide +kernel)
theorem tw_391 : Cond.fieldLink RX4 15 RX4 "hardnessAsBuilt" "I" ∈ eg_T := eg_in 438 (by decide +kernel) (by decide +kernel)
theorem tw_392 : Cond.fieldLink RX4 9 RX4 "distance" "I" ∈ eg_T := eg_in 439 (by decide +kernel) (by decide +kernel)
theorem tw_393 : Cond.fieldLinkNest RX6 90 RX4 "distance" "I" RX6 ∈ lw_tbl := List.mem_of_getElem? (i := 440) (by decide +kernel)
theorem tw_399 : Cond.methodLinkNest RX6 82 yX0_build RX6 ∈ lw_tbl := List.mem_of_getElem? (i := 446) (by decide +kernel)
theorem tw_401 : Cond.instanceMethod yX0_build ∈ eg_T := eg_in 448 (by decide +kernel) (by decide +kernel)
theorem tw_402 : Cond.code yX0_build cX0_build 3 (some .int) ∈ eg_T := eg_in 449 (by decide +kernel) (by decide +kernel)
theorem tw_403 : Cond.methodLink RL 127 yL_moveSurface ∈ eg_T := eg_in 450 (by decide +kernel) (by decide +kernel)
theorem tw_404 : Cond.static yL_moveSurface ∈ eg_T := eg_in 451 (by decide +kernel) (by decide +kernel)
theorem tw_405 : Cond.codeWith yL_moveSurface cL_moveSurface 6 (some .int) [(0, 12, 15, 21), (0, 12, 19, 13)] ∈ eg_T := eg_in 452 (by decide +kernel) (by decide +kernel)
theorem tw_406 : Cond.methodLink RL 23 yX6_moveSurface ∈ eg_T := eg_in 453 (by decide +kernel) (by decide +kernel)
theorem tw_407 : Cond.instanceMethod yX6_moveSurface ∈ eg_T := eg_in 454 (by decide +kernel) (by decide +kernel)
theorem tw_408 : Cond.selects RX6 yX6_moveSurface yX6_moveSurface ∈ eg_T := eg_in 455 (by decide +kernel) (by decide +kernel)
theorem tw_409 : Cond.code yX6_moveSurface cX6_moveSurface 7 (some .int) ∈ eg_T := eg_in 456 (by decide +kernel) (by decide +kernel)
theorem tw_410 : Cond.methodLink RX6 86 yX6_findSurface ∈ eg_T := eg_in 457 (by decide +kernel) (by decide +kernel)
theorem tw_411 : Cond.static yX6_findSurface ∈ eg_T := eg_in 458 (by decide +kernel) (by decide +kernel)
theorem tw_412 : Cond.code yX6_findSurface cX6_findSurface 3 (some (.object "EchoBureau$Surface")) ∈ eg_T := eg_in 459 (by decide +kernel) (by decide +kernel)
theorem tw_413 : Cond.stringRef RX6 238 "no such surface" ∈ lw_tbl := List.mem_of_getElem? (i := 460) (by decide +kernel)
theorem tw_414 : Cond.stringRef RX6 240 "no such surface yet" ∈ lw_tbl := List.mem_of_getElem? (i := 461) (by decide +kernel)
theorem tw_415 : Cond.methodLink RL 130 yL_setDamping ∈ eg_T := eg_in 462 (by decide +kernel) (by decide +kernel)
theorem tw_416 : Cond.static yL_setDamping ∈ eg_T := eg_in 463 (by decide +kernel) (by decide +kernel)
theorem tw_417 : Cond.codeWith yL_setDamping cL_setDamping 5 (some .int) [(0, 10, 13, 21), (0, 10, 17, 13)] ∈ eg_T := eg_in 464 (by decide +kernel) (by decide +kernel)
theorem tw_418 : Cond.methodLink RL 26 yX6_setDamping ∈ eg_T := eg_in 465 (by decide +kernel) (by decide +kernel)
theorem tw_419 : Cond.instanceMethod yX6_setDamping ∈ eg_T := eg_in 466 (by decide +kernel) (by decide +kernel)
theorem tw_420 : Cond.selects RX6 yX6_setDamping yX6_setDamping ∈ eg_T := eg_in 467 (by decide +kernel) (by decide +kernel)
theorem tw_421 : Cond.code yX6_setDamping cX6_setDamping 5 (some .int) ∈ eg_T := eg_in 468 (by decide +kernel) (by decide +kernel)
theorem tw_422 : Cond.methodLink RL 134 yL_clean ∈ eg_T := eg_in 469 (by decide +kernel) (by decide +kernel)
theorem tw_423 : Cond.static yL_clean ∈ eg_T := eg_in 470 (by decide +kernel) (by decide +kernel)
theorem tw_424 : Cond.codeWith yL_clean cL_clean 4 (some .int) [(0, 9, 12, 21)] ∈ eg_T := eg_in 471 (by decide +kernel) (by decide +kernel)
theorem tw_425 : Cond.methodLink RL 30 yX6_clean ∈ eg_T := eg_in 472 (by decide +kernel) (by decide +kernel)
theorem tw_426 : Cond.instanceMethod yX6_clean ∈ eg_T := eg_in 473 (by decide +kernel) (by decide +kernel)
theorem tw_427 : Cond.selects RX6 yX6_clean yX6_clean ∈ eg_T := eg_in 474 (by decide +kernel) (by decide +kernel)
theorem tw_428 : Cond.code yX6_clean cX6_clean 4 (some .int) ∈ eg_T := eg_in 475 (by decide +kernel) (by decide +kernel)
theorem tw_429 : Cond.methodLink RL 137 yL_addStandard ∈ eg_T := eg_in 476 (by decide +kernel) (by decide +kernel)
theorem tw_430 : Cond.static yL_addStandard ∈ eg_T := eg_in 477 (by decide +kernel) (by decide +kernel)
theorem tw_431 : Cond.codeWith yL_addStandard cL_addStandard 8 (some .int) [(0, 16, 19, 13), (0, 16, 23, 15)] ∈ eg_T := eg_in 478 (by decide +kernel) (by decide +kernel)
theorem tw_432 : Cond.methodLink RL 33 yX6_addStandard ∈ eg_T := eg_in 479 (by decide +kernel) (by decide +kernel)
theorem tw_433 : Cond.instanceMethod yX6_addStandard ∈ eg_T := eg_in 480 (by decide +kernel) (by decide +kernel)
theorem tw_434 : Cond.selects RX6 yX6_addStandard yX6_addStandard ∈ eg_T := eg_in 481 (by decide +kernel) (by decide +kernel)
theorem tw_435 : Cond.code yX6_addStandard cX6_addStandard 8 (some .int) ∈ eg_T := eg_in 482 (by decide +kernel) (by decide +kernel)
theorem tw_436 : Cond.stringRef RX6 99 "no such standard can be" ∈ lw_tbl := List.mem_of_getElem? (i := 483) (by decide +kernel)
theorem tw_437 : Cond.stringRef RX6 104 "no room for another standard" ∈ lw_tbl := List.mem_of_getElem? (i := 484) (by decide +kernel)
theorem tw_438 : Cond.methodLinkNest RX6 106 yX3_init RX6 ∈ lw_tbl := List.mem_of_getElem? (i := 485) (by decide +kernel)
theorem tw_439 : Cond.instanceMethod yX3_init ∈ eg_T := eg_in 486 (by decide +kernel) (by decide +kernel)
theorem tw_440 : Cond.code yX3_init cX3_init 6 none ∈ eg_T := eg_in 487 (by decide +kernel) (by decide +kernel)
theorem tw_441 : Cond.methodLink RX3 1 Lib.objectInit ∈ eg_T := eg_in 488 (by decide +kernel) (by decide +kernel)
theorem tw_442 : Cond.fieldLink RX3 7 RX3 "earliest" "I" ∈ eg_T := eg_in 489 (by decide +kernel) (by decide +kernel)
theorem tw_443 : Cond.fieldLink RX3 13 RX3 "limit" "I" ∈ eg_T := eg_in 490 (by decide +kernel) (by decide +kernel)
theorem tw_444 : Cond.fieldLinkNest RX6 251 RX3 "limit" "I" RX6 ∈ lw_tbl := List.mem_of_getElem? (i := 491) (by decide +kernel)
theorem tw_445 : Cond.fieldLink RX3 16 RX3 "most" "I" ∈ eg_T := eg_in 492 (by decide +kernel) (by decide +kernel)
theorem tw_446 : Cond.fieldLink RX3 19 RX3 "latest" "I" ∈ eg_T := eg_in 493 (by decide +kernel) (by decide +kernel)
theorem tw_447 : Cond.fieldLink RX3 22 RX3 "days" "I" ∈ eg_T := eg_in 494 (by decide +kernel) (by decide +kernel)
theorem tw_448 : Cond.fieldLinkNest RX6 120 RX3 "days" "I" RX6 ∈ lw_tbl := List.mem_of_getElem? (i := 495) (by decide +kernel)
theorem tw_460 : Cond.methodLink RL 141 yL_inspect ∈ eg_T := eg_in 507 (by decide +kernel) (by decide +kernel)
theorem tw_461 : Cond.static yL_inspect ∈ eg_T := eg_in 508 (by decide +kernel) (by decide +kernel)
theorem tw_462 : Cond.codeWith yL_inspect cL_inspect 5 (some .int) [(0, 17, 20, 21)] ∈ eg_T := eg_in 509 (by decide +kernel) (by decide +kernel)
theorem tw_463 : Cond.methodLink RL 37 yX6_inspect ∈ eg_T := eg_in 510 (by decide +kernel) (by decide +kernel)
theorem tw_464 : Cond.instanceMethod yX6_inspect ∈ eg_T := eg_in 511 (by decide +kernel) (by decide +kernel)
theorem tw_465 : Cond.selects RX6 yX6_inspect yX6_inspect ∈ eg_T := eg_in 512 (by decide +kernel) (by decide +kernel)
theorem tw_466 : Cond.code yX6_inspect cX6_inspect 6 (some .boolean) ∈ eg_T := eg_in 513 (by decide +kernel) (by decide +kernel)
theorem tw_467 : Cond.methodLink RX6 109 yX6_findStandard ∈ eg_T := eg_in 514 (by decide +kernel) (by decide +kernel)
theorem tw_469 : Cond.instanceMethod yX6_findStandard ∈ eg_T := eg_in 516 (by decide +kernel) (by decide +kernel)
theorem tw_470 : Cond.code yX6_findStandard cX6_findStandard 3 (some (.object "EchoBureau$Standard")) ∈ eg_T := eg_in 517 (by decide +kernel) (by decide +kernel)
theorem tw_471 : Cond.stringRef RX6 234 "no such standard" ∈ lw_tbl := List.mem_of_getElem? (i := 518) (by decide +kernel)
theorem tw_472 : Cond.stringRef RX6 236 "no such standard yet" ∈ lw_tbl := List.mem_of_getElem? (i := 519) (by decide +kernel)
theorem tw_473 : Cond.methodLinkNest RX6 123 yX0_takeCertificate RX6 ∈ lw_tbl := List.mem_of_getElem? (i := 520) (by decide +kernel)
theorem tw_475 : Cond.instanceMethod yX0_takeCertificate ∈ eg_T := eg_in 522 (by decide +kernel) (by decide +kernel)
theorem tw_476 : Cond.code yX0_takeCertificate cX0_takeCertificate 3 none ∈ eg_T := eg_in 523 (by decide +kernel) (by decide +kernel)
theorem tw_477 : Cond.methodLink RL 144 yL_revoke ∈ eg_T := eg_in 524 (by decide +kernel) (by decide +kernel)
theorem tw_478 : Cond.static yL_revoke ∈ eg_T := eg_in 525 (by decide +kernel) (by decide +kernel)
theorem tw_479 : Cond.codeWith yL_revoke cL_revoke 4 (some .int) [(0, 9, 12, 21), (0, 9, 15, 15)] ∈ eg_T := eg_in 526 (by decide +kernel) (by decide +kernel)
theorem tw_480 : Cond.methodLink RL 41 yX6_revoke ∈ eg_T := eg_in 527 (by decide +kernel) (by decide +kernel)
theorem tw_481 : Cond.instanceMethod yX6_revoke ∈ eg_T := eg_in 528 (by decide +kernel) (by decide +kernel)
theorem tw_482 : Cond.selects RX6 yX6_revoke yX6_revoke ∈ eg_T := eg_in 529 (by decide +kernel) (by decide +kernel)
theorem tw_483 : Cond.code yX6_revoke cX6_revoke 4 (some .int) ∈ eg_T := eg_in 530 (by decide +kernel) (by decide +kernel)
theorem tw_484 : Cond.methodLink RX6 129 yX6_checkCertificate ∈ eg_T := eg_in 531 (by decide +kernel) (by decide +kernel)
theorem tw_485 : Cond.static yX6_checkCertificate ∈ eg_T := eg_in 532 (by decide +kernel) (by decide +kernel)
theorem tw_486 : Cond.code yX6_checkCertificate cX6_checkCertificate 1 none ∈ eg_T := eg_in 533 (by decide +kernel) (by decide +kernel)
theorem tw_487 : Cond.stringRef RX6 225 "the hall has no certificate" ∈ lw_tbl := List.mem_of_getElem? (i := 534) (by decide +kernel)
theorem tw_488 : Cond.methodLink RL 147 yL_passDays ∈ eg_T := eg_in 535 (by decide +kernel) (by decide +kernel)
theorem tw_489 : Cond.static yL_passDays ∈ eg_T := eg_in 536 (by decide +kernel) (by decide +kernel)
theorem tw_490 : Cond.codeWith yL_passDays cL_passDays 4 (some .int) [(0, 9, 12, 13)] ∈ eg_T := eg_in 537 (by decide +kernel) (by decide +kernel)
theorem tw_491 : Cond.methodLink RL 44 yX6_passDays ∈ eg_T := eg_in 538 (by decide +kernel) (by decide +kernel)
theorem tw_492 : Cond.instanceMethod yX6_passDays ∈ eg_T := eg_in 539 (by decide +kernel) (by decide +kernel)
theorem tw_493 : Cond.selects RX6 yX6_passDays yX6_passDays ∈ eg_T := eg_in 540 (by decide +kernel) (by decide +kernel)
theorem tw_494 : Cond.code yX6_passDays cX6_passDays 6 (some .int) ∈ eg_T := eg_in 541 (by decide +kernel) (by decide +kernel)
theorem tw_495 : Cond.stringRef RX6 136 "no such number of days can go by" ∈ lw_tbl := List.mem_of_getElem? (i := 542) (by decide +kernel)
theorem tw_496 : Cond.methodLinkNest RX6 138 yX0_growOlder RX6 ∈ lw_tbl := List.mem_of_getElem? (i := 543) (by decide +kernel)
theorem tw_498 : Cond.instanceMethod yX0_growOlder ∈ eg_T := eg_in 545 (by decide +kernel) (by decide +kernel)
theorem tw_499 : Cond.code yX0_growOlder cX0_growOlder 2 none ∈ eg_T := eg_in 546 (by decide +kernel) (by decide +kernel)
theorem tw_500 : Cond.methodLink RX0 39 yX0_dustBehind ∈ eg_T := eg_in 547 (by decide +kernel) (by decide +kernel)
theorem tw_502 : Cond.instanceMethod yX0_dustBehind ∈ eg_T := eg_in 549 (by decide +kernel) (by decide +kernel)
theorem tw_503 : Cond.code yX0_dustBehind cX0_dustBehind 2 (some .int) ∈ eg_T := eg_in 550 (by decide +kernel) (by decide +kernel)
theorem tw_504 : Cond.methodLink RX0 33 Lib.Math.min.name ∈ eg_T := eg_in 551 (by decide +kernel) (by decide +kernel)
theorem tw_505 : Cond.static Lib.Math.min.name ∈ eg_T := eg_in 552 (by decide +kernel) (by decide +kernel)
theorem tw_506 : Cond.code Lib.Math.min.name Lib.Math.min.code 2 (some .int) ∈ eg_T := eg_in 553 (by decide +kernel) (by decide +kernel)
theorem tw_507 : Cond.methodLink RX0 43 yX0_loseCertificate ∈ eg_T := eg_in 554 (by decide +kernel) (by decide +kernel)
theorem tw_508 : Cond.methodLink RL 150 yL_surfacesOf ∈ eg_T := eg_in 555 (by decide +kernel) (by decide +kernel)
theorem tw_509 : Cond.static yL_surfacesOf ∈ eg_T := eg_in 556 (by decide +kernel) (by decide +kernel)
theorem tw_510 : Cond.codeWith yL_surfacesOf cL_surfacesOf 4 (some .int) [(0, 9, 12, 21)] ∈ eg_T := eg_in 557 (by decide +kernel) (by decide +kernel)
theorem tw_511 : Cond.methodLink RL 47 yX6_surfacesOf ∈ eg_T := eg_in 558 (by decide +kernel) (by decide +kernel)
theorem tw_512 : Cond.instanceMethod yX6_surfacesOf ∈ eg_T := eg_in 559 (by decide +kernel) (by decide +kernel)
theorem tw_513 : Cond.selects RX6 yX6_surfacesOf yX6_surfacesOf ∈ eg_T := eg_in 560 (by decide +kernel) (by decide +kernel)
theorem tw_514 : Cond.code yX6_surfacesOf cX6_surfacesOf 2 (some .int) ∈ eg_T := eg_in 561 (by decide +kernel) (by decide +kernel)
theorem tw_515 : Cond.methodLink RL 153 yL_distanceOf ∈ eg_T := eg_in 562 (by decide +kernel) (by decide +kernel)
theorem tw_516 : Cond.static yL_distanceOf ∈ eg_T := eg_in 563 (by decide +kernel) (by decide +kernel)
theorem tw_517 : Cond.codeWith yL_distanceOf cL_distanceOf 5 (some .int) [(0, 10, 13, 21)] ∈ eg_T := eg_in 564 (by decide +kernel) (by decide +kernel)
theorem tw_518 : Cond.methodLink RL 50 yX6_distanceOf ∈ eg_T := eg_in 565 (by decide +kernel) (by decide +kernel)
theorem tw_519 : Cond.instanceMethod yX6_distanceOf ∈ eg_T := eg_in 566 (by decide +kernel) (by decide +kernel)
theorem tw_520 : Cond.selects RX6 yX6_distanceOf yX6_distanceOf ∈ eg_T := eg_in 567 (by decide +kernel) (by decide +kernel)
theorem tw_521 : Cond.code yX6_distanceOf cX6_distanceOf 3 (some .int) ∈ eg_T := eg_in 568 (by decide +kernel) (by decide +kernel)
theorem tw_522 : Cond.methodLink RL 156 yL_hardnessOf ∈ eg_T := eg_in 569 (by decide +kernel) (by decide +kernel)
theorem tw_523 : Cond.static yL_hardnessOf ∈ eg_T := eg_in 570 (by decide +kernel) (by decide +kernel)
theorem tw_524 : Cond.codeWith yL_hardnessOf cL_hardnessOf 5 (some .int) [(0, 10, 13, 21)] ∈ eg_T := eg_in 571 (by decide +kernel) (by decide +kernel)
theorem tw_525 : Cond.methodLink RL 53 yX6_hardnessOf ∈ eg_T := eg_in 572 (by decide +kernel) (by decide +kernel)
theorem tw_526 : Cond.instanceMethod yX6_hardnessOf ∈ eg_T := eg_in 573 (by decide +kernel) (by decide +kernel)
theorem tw_527 : Cond.selects RX6 yX6_hardnessOf yX6_hardnessOf ∈ eg_T := eg_in 574 (by decide +kernel) (by decide +kernel)
theorem tw_528 : Cond.code yX6_hardnessOf cX6_hardnessOf 4 (some .int) ∈ eg_T := eg_in 575 (by decide +kernel) (by decide +kernel)
theorem tw_529 : Cond.methodLink RL 159 yL_dampingOf ∈ eg_T := eg_in 576 (by decide +kernel) (by decide +kernel)
theorem tw_530 : Cond.static yL_dampingOf ∈ eg_T := eg_in 577 (by decide +kernel) (by decide +kernel)
theorem tw_531 : Cond.codeWith yL_dampingOf cL_dampingOf 4 (some .int) [(0, 9, 12, 21)] ∈ eg_T := eg_in 578 (by decide +kernel) (by decide +kernel)
theorem tw_532 : Cond.methodLink RL 56 yX6_dampingOf ∈ eg_T := eg_in 579 (by decide +kernel) (by decide +kernel)
theorem tw_533 : Cond.instanceMethod yX6_dampingOf ∈ eg_T := eg_in 580 (by decide +kernel) (by decide +kernel)
theorem tw_534 : Cond.selects RX6 yX6_dampingOf yX6_dampingOf ∈ eg_T := eg_in 581 (by decide +kernel) (by decide +kernel)
theorem tw_535 : Cond.code yX6_dampingOf cX6_dampingOf 2 (some .int) ∈ eg_T := eg_in 582 (by decide +kernel) (by decide +kernel)
theorem tw_536 : Cond.methodLink RL 162 yL_dustOf ∈ eg_T := eg_in 583 (by decide +kernel) (by decide +kernel)
theorem tw_537 : Cond.static yL_dustOf ∈ eg_T := eg_in 584 (by decide +kernel) (by decide +kernel)
theorem tw_538 : Cond.codeWith yL_dustOf cL_dustOf 4 (some .int) [(0, 9, 12, 21)] ∈ eg_T := eg_in 585 (by decide +kernel) (by decide +kernel)
theorem tw_539 : Cond.methodLink RL 59 yX6_dustOf ∈ eg_T := eg_in 586 (by decide +kernel) (by decide +kernel)
theorem tw_540 : Cond.instanceMethod yX6_dustOf ∈ eg_T := eg_in 587 (by decide +kernel) (by decide +kernel)
theorem tw_541 : Cond.selects RX6 yX6_dustOf yX6_dustOf ∈ eg_T := eg_in 588 (by decide +kernel) (by decide +kernel)
theorem tw_542 : Cond.code yX6_dustOf cX6_dustOf 2 (some .int) ∈ eg_T := eg_in 589 (by decide +kernel) (by decide +kernel)
theorem tw_543 : Cond.methodLink RL 165 yL_echoes ∈ eg_T := eg_in 590 (by decide +kernel) (by decide +kernel)
theorem tw_544 : Cond.static yL_echoes ∈ eg_T := eg_in 591 (by decide +kernel) (by decide +kernel)
theorem tw_545 : Cond.codeWith yL_echoes cL_echoes 5 (some .int) [(0, 10, 13, 21), (0, 10, 17, 13)] ∈ eg_T := eg_in 592 (by decide +kernel) (by decide +kernel)
theorem tw_546 : Cond.methodLink RL 62 yX6_echoes ∈ eg_T := eg_in 593 (by decide +kernel) (by decide +kernel)
theorem tw_547 : Cond.instanceMethod yX6_echoes ∈ eg_T := eg_in 594 (by decide +kernel) (by decide +kernel)
theorem tw_548 : Cond.selects RX6 yX6_echoes yX6_echoes ∈ eg_T := eg_in 595 (by decide +kernel) (by decide +kernel)
theorem tw_549 : Cond.code yX6_echoes cX6_echoes 3 (some .int) ∈ eg_T := eg_in 596 (by decide +kernel) (by decide +kernel)
theorem tw_550 : Cond.methodLink RX6 155 yX6_tallyOfClick ∈ eg_T := eg_in 597 (by decide +kernel) (by decide +kernel)
theorem tw_552 : Cond.instanceMethod yX6_tallyOfClick ∈ eg_T := eg_in 599 (by decide +kernel) (by decide +kernel)
theorem tw_553 : Cond.code yX6_tallyOfClick cX6_tallyOfClick 4 (some (.object "EchoBureau$Tally")) ∈ eg_T := eg_in 600 (by decide +kernel) (by decide +kernel)
theorem tw_554 : Cond.methodLink RX6 162 yX6_checkLoudness ∈ eg_T := eg_in 601 (by decide +kernel) (by decide +kernel)
theorem tw_555 : Cond.static yX6_checkLoudness ∈ eg_T := eg_in 602 (by decide +kernel) (by decide +kernel)
theorem tw_556 : Cond.code yX6_checkLoudness cX6_checkLoudness 1 none ∈ eg_T := eg_in 603 (by decide +kernel) (by decide +kernel)
theorem tw_557 : Cond.stringRef RX6 223 "no such loudness" ∈ lw_tbl := List.mem_of_getElem? (i := 604) (by decide +kernel)
theorem tw_558 : Cond.methodLink RL 168 yL_loudEchoes ∈ eg_T := eg_in 605 (by decide +kernel) (by decide +kernel)
theorem tw_559 : Cond.static yL_loudEchoes ∈ eg_T := eg_in 606 (by decide +kernel) (by decide +kernel)
theorem tw_560 : Cond.codeWith yL_loudEchoes cL_loudEchoes 6 (some .int) [(0, 12, 15, 21), (0, 12, 19, 13)] ∈ eg_T := eg_in 607 (by decide +kernel) (by decide +kernel)
theorem tw_561 : Cond.methodLink RL 65 yX6_loudEchoes ∈ eg_T := eg_in 608 (by decide +kernel) (by decide +kernel)
theorem tw_562 : Cond.instanceMethod yX6_loudEchoes ∈ eg_T := eg_in 609 (by decide +kernel) (by decide +kernel)
theorem tw_563 : Cond.selects RX6 yX6_loudEchoes yX6_loudEchoes ∈ eg_T := eg_in 610 (by decide +kernel) (by decide +kernel)
theorem tw_564 : Cond.code yX6_loudEchoes cX6_loudEchoes 5 (some .int) ∈ eg_T := eg_in 611 (by decide +kernel) (by decide +kernel)
theorem tw_565 : Cond.methodLink RL 171 yL_firstEcho ∈ eg_T := eg_in 612 (by decide +kernel) (by decide +kernel)
theorem tw_566 : Cond.static yL_firstEcho ∈ eg_T := eg_in 613 (by decide +kernel) (by decide +kernel)
theorem tw_567 : Cond.codeWith yL_firstEcho cL_firstEcho 5 (some .int) [(0, 10, 13, 21), (0, 10, 17, 13)] ∈ eg_T := eg_in 614 (by decide +kernel) (by decide +kernel)
theorem tw_568 : Cond.methodLink RL 68 yX6_firstEcho ∈ eg_T := eg_in 615 (by decide +kernel) (by decide +kernel)
theorem tw_569 : Cond.instanceMethod yX6_firstEcho ∈ eg_T := eg_in 616 (by decide +kernel) (by decide +kernel)
theorem tw_570 : Cond.selects RX6 yX6_firstEcho yX6_firstEcho ∈ eg_T := eg_in 617 (by decide +kernel) (by decide +kernel)
theorem tw_571 : Cond.code yX6_firstEcho cX6_firstEcho 3 (some .int) ∈ eg_T := eg_in 618 (by decide +kernel) (by decide +kernel)
theorem tw_572 : Cond.methodLink RL 174 yL_lastEcho ∈ eg_T := eg_in 619 (by decide +kernel) (by decide +kernel)
theorem tw_573 : Cond.static yL_lastEcho ∈ eg_T := eg_in 620 (by decide +kernel) (by decide +kernel)
theorem tw_574 : Cond.codeWith yL_lastEcho cL_lastEcho 5 (some .int) [(0, 10, 13, 21), (0, 10, 17, 13)] ∈ eg_T := eg_in 621 (by decide +kernel) (by decide +kernel)
theorem tw_575 : Cond.methodLink RL 71 yX6_lastEcho ∈ eg_T := eg_in 622 (by decide +kernel) (by decide +kernel)
theorem tw_576 : Cond.instanceMethod yX6_lastEcho ∈ eg_T := eg_in 623 (by decide +kernel) (by decide +kernel)
theorem tw_577 : Cond.selects RX6 yX6_lastEcho yX6_lastEcho ∈ eg_T := eg_in 624 (by decide +kernel) (by decide +kernel)
theorem tw_578 : Cond.code yX6_lastEcho cX6_lastEcho 3 (some .int) ∈ eg_T := eg_in 625 (by decide +kernel) (by decide +kernel)
theorem tw_579 : Cond.methodLink RL 177 yL_loudnessAt ∈ eg_T := eg_in 626 (by decide +kernel) (by decide +kernel)
theorem tw_580 : Cond.static yL_loudnessAt ∈ eg_T := eg_in 627 (by decide +kernel) (by decide +kernel)
theorem tw_581 : Cond.codeWith yL_loudnessAt cL_loudnessAt 6 (some .int) [(0, 12, 15, 21), (0, 12, 19, 13)] ∈ eg_T := eg_in 628 (by decide +kernel) (by decide +kernel)
theorem tw_582 : Cond.methodLink RL 74 yX6_loudnessAt ∈ eg_T := eg_in 629 (by decide +kernel) (by decide +kernel)
theorem tw_583 : Cond.instanceMethod yX6_loudnessAt ∈ eg_T := eg_in 630 (by decide +kernel) (by decide +kernel)
theorem tw_584 : Cond.selects RX6 yX6_loudnessAt yX6_loudnessAt ∈ eg_T := eg_in 631 (by decide +kernel) (by decide +kernel)
theorem tw_585 : Cond.code yX6_loudnessAt cX6_loudnessAt 5 (some .int) ∈ eg_T := eg_in 632 (by decide +kernel) (by decide +kernel)
theorem tw_586 : Cond.stringRef RX6 178 "no such moment" ∈ lw_tbl := List.mem_of_getElem? (i := 633) (by decide +kernel)
theorem tw_587 : Cond.methodLinkNest RX6 184 yX2_addedAt RX6 ∈ lw_tbl := List.mem_of_getElem? (i := 634) (by decide +kernel)
theorem tw_589 : Cond.instanceMethod yX2_addedAt ∈ eg_T := eg_in 636 (by decide +kernel) (by decide +kernel)
theorem tw_590 : Cond.code yX2_addedAt cX2_addedAt 4 (some .int) ∈ eg_T := eg_in 637 (by decide +kernel) (by decide +kernel)
theorem tw_591 : Cond.methodLink RL 180 yL_loudestMoment ∈ eg_T := eg_in 638 (by decide +kernel) (by decide +kernel)
theorem tw_592 : Cond.static yL_loudestMoment ∈ eg_T := eg_in 639 (by decide +kernel) (by decide +kernel)
theorem tw_593 : Cond.codeWith yL_loudestMoment cL_loudestMoment 5 (some .int) [(0, 10, 13, 21), (0, 10, 17, 13)] ∈ eg_T := eg_in 640 (by decide +kernel) (by decide +kernel)
theorem tw_594 : Cond.methodLink RL 77 yX6_loudestMoment ∈ eg_T := eg_in 641 (by decide +kernel) (by decide +kernel)
theorem tw_595 : Cond.instanceMethod yX6_loudestMoment ∈ eg_T := eg_in 642 (by decide +kernel) (by decide +kernel)
theorem tw_596 : Cond.selects RX6 yX6_loudestMoment yX6_loudestMoment ∈ eg_T := eg_in 643 (by decide +kernel) (by decide +kernel)
theorem tw_597 : Cond.code yX6_loudestMoment cX6_loudestMoment 4 (some .int) ∈ eg_T := eg_in 644 (by decide +kernel) (by decide +kernel)
theorem tw_598 : Cond.methodLink RL 183 yL_meets ∈ eg_T := eg_in 645 (by decide +kernel) (by decide +kernel)
theorem tw_599 : Cond.static yL_meets ∈ eg_T := eg_in 646 (by decide +kernel) (by decide +kernel)
theorem tw_600 : Cond.codeWith yL_meets cL_meets 5 (some .int) [(0, 17, 20, 21)] ∈ eg_T := eg_in 647 (by decide +kernel) (by decide +kernel)
theorem tw_601 : Cond.methodLink RL 80 yX6_meets ∈ eg_T := eg_in 648 (by decide +kernel) (by decide +kernel)
theorem tw_602 : Cond.instanceMethod yX6_meets ∈ eg_T := eg_in 649 (by decide +kernel) (by decide +kernel)
theorem tw_603 : Cond.selects RX6 yX6_meets yX6_meets ∈ eg_T := eg_in 650 (by decide +kernel) (by decide +kernel)
theorem tw_604 : Cond.code yX6_meets cX6_meets 4 (some .boolean) ∈ eg_T := eg_in 651 (by decide +kernel) (by decide +kernel)
theorem tw_605 : Cond.methodLink RL 186 yL_hallsMeeting ∈ eg_T := eg_in 652 (by decide +kernel) (by decide +kernel)
theorem tw_606 : Cond.static yL_hallsMeeting ∈ eg_T := eg_in 653 (by decide +kernel) (by decide +kernel)
theorem tw_607 : Cond.codeWith yL_hallsMeeting cL_hallsMeeting 4 (some .int) [(0, 9, 12, 21)] ∈ eg_T := eg_in 654 (by decide +kernel) (by decide +kernel)
theorem tw_608 : Cond.methodLink RL 83 yX6_hallsMeeting ∈ eg_T := eg_in 655 (by decide +kernel) (by decide +kernel)
theorem tw_609 : Cond.instanceMethod yX6_hallsMeeting ∈ eg_T := eg_in 656 (by decide +kernel) (by decide +kernel)
theorem tw_610 : Cond.selects RX6 yX6_hallsMeeting yX6_hallsMeeting ∈ eg_T := eg_in 657 (by decide +kernel) (by decide +kernel)
theorem tw_611 : Cond.code yX6_hallsMeeting cX6_hallsMeeting 8 (some .int) ∈ eg_T := eg_in 658 (by decide +kernel) (by decide +kernel)
theorem tw_612 : Cond.methodLink RL 189 yL_isCertified ∈ eg_T := eg_in 659 (by decide +kernel) (by decide +kernel)
theorem tw_613 : Cond.static yL_isCertified ∈ eg_T := eg_in 660 (by decide +kernel) (by decide +kernel)
theorem tw_614 : Cond.codeWith yL_isCertified cL_isCertified 4 (some .int) [(0, 16, 19, 21)] ∈ eg_T := eg_in 661 (by decide +kernel) (by decide +kernel)
theorem tw_615 : Cond.methodLink RL 86 yX6_isCertified ∈ eg_T := eg_in 662 (by decide +kernel) (by decide +kernel)
theorem tw_616 : Cond.instanceMethod yX6_isCertified ∈ eg_T := eg_in 663 (by decide +kernel) (by decide +kernel)
theorem tw_617 : Cond.selects RX6 yX6_isCertified yX6_isCertified ∈ eg_T := eg_in 664 (by decide +kernel) (by decide +kernel)
theorem tw_618 : Cond.code yX6_isCertified cX6_isCertified 2 (some .boolean) ∈ eg_T := eg_in 665 (by decide +kernel) (by decide +kernel)
theorem tw_619 : Cond.methodLink RL 192 yL_certifiedBy ∈ eg_T := eg_in 666 (by decide +kernel) (by decide +kernel)
theorem tw_620 : Cond.static yL_certifiedBy ∈ eg_T := eg_in 667 (by decide +kernel) (by decide +kernel)
theorem tw_621 : Cond.codeWith yL_certifiedBy cL_certifiedBy 4 (some .int) [(0, 9, 12, 21), (0, 9, 15, 15)] ∈ eg_T := eg_in 668 (by decide +kernel) (by decide +kernel)
theorem tw_622 : Cond.methodLink RL 90 yX6_certifiedBy ∈ eg_T := eg_in 669 (by decide +kernel) (by decide +kernel)
theorem tw_623 : Cond.instanceMethod yX6_certifiedBy ∈ eg_T := eg_in 670 (by decide +kernel) (by decide +kernel)
theorem tw_624 : Cond.selects RX6 yX6_certifiedBy yX6_certifiedBy ∈ eg_T := eg_in 671 (by decide +kernel) (by decide +kernel)
theorem tw_625 : Cond.code yX6_certifiedBy cX6_certifiedBy 3 (some .int) ∈ eg_T := eg_in 672 (by decide +kernel) (by decide +kernel)
theorem tw_626 : Cond.methodLink RL 195 yL_daysLeft ∈ eg_T := eg_in 673 (by decide +kernel) (by decide +kernel)
theorem tw_627 : Cond.static yL_daysLeft ∈ eg_T := eg_in 674 (by decide +kernel) (by decide +kernel)
theorem tw_628 : Cond.codeWith yL_daysLeft cL_daysLeft 4 (some .int) [(0, 9, 12, 21)] ∈ eg_T := eg_in 675 (by decide +kernel) (by decide +kernel)
theorem tw_629 : Cond.methodLink RL 93 yX6_daysLeft ∈ eg_T := eg_in 676 (by decide +kernel) (by decide +kernel)
theorem tw_630 : Cond.instanceMethod yX6_daysLeft ∈ eg_T := eg_in 677 (by decide +kernel) (by decide +kernel)
theorem tw_631 : Cond.selects RX6 yX6_daysLeft yX6_daysLeft ∈ eg_T := eg_in 678 (by decide +kernel) (by decide +kernel)
theorem tw_632 : Cond.code yX6_daysLeft cX6_daysLeft 2 (some .int) ∈ eg_T := eg_in 679 (by decide +kernel) (by decide +kernel)
theorem tw_633 : Cond.methodLink RL 218 yL_meetsWithDamping ∈ eg_T := eg_in 680 (by decide +kernel) (by decide +kernel)
theorem tw_634 : Cond.static yL_meetsWithDamping ∈ eg_T := eg_in 681 (by decide +kernel) (by decide +kernel)
theorem tw_635 : Cond.codeWith yL_meetsWithDamping cL_meetsWithDamping 6 (some .int) [(0, 19, 22, 21), (0, 19, 26, 13)] ∈ eg_T := eg_in 682 (by decide +kernel) (by decide +kernel)
theorem tw_636 : Cond.methodLink RL 96 yX6_meetsWithDamping ∈ eg_T := eg_in 683 (by decide +kernel) (by decide +kernel)
theorem tw_637 : Cond.instanceMethod yX6_meetsWithDamping ∈ eg_T := eg_in 684 (by decide +kernel) (by decide +kernel)
theorem tw_638 : Cond.selects RX6 yX6_meetsWithDamping yX6_meetsWithDamping ∈ eg_T := eg_in 685 (by decide +kernel) (by decide +kernel)
theorem tw_639 : Cond.code yX6_meetsWithDamping cX6_meetsWithDamping 6 (some .boolean) ∈ eg_T := eg_in 686 (by decide +kernel) (by decide +kernel)
theorem tw_640 : Cond.methodLink RL 221 yL_leastDamping ∈ eg_T := eg_in 687 (by decide +kernel) (by decide +kernel)
theorem tw_641 : Cond.static yL_leastDamping ∈ eg_T := eg_in 688 (by decide +kernel) (by decide +kernel)
theorem tw_642 : Cond.codeWith yL_leastDamping cL_leastDamping 5 (some .int) [(0, 10, 13, 21)] ∈ eg_T := eg_in 689 (by decide +kernel) (by decide +kernel)
theorem tw_643 : Cond.methodLink RL 100 yX6_leastDamping ∈ eg_T := eg_in 690 (by decide +kernel) (by decide +kernel)
theorem tw_644 : Cond.instanceMethod yX6_leastDamping ∈ eg_T := eg_in 691 (by decide +kernel) (by decide +kernel)
theorem tw_645 : Cond.selects RX6 yX6_leastDamping yX6_leastDamping ∈ eg_T := eg_in 692 (by decide +kernel) (by decide +kernel)
theorem tw_646 : Cond.code yX6_leastDamping cX6_leastDamping 6 (some .int) ∈ eg_T := eg_in 693 (by decide +kernel) (by decide +kernel)
theorem tw_647 : Cond.methodLink RL 224 yL_daysUntilMet ∈ eg_T := eg_in 694 (by decide +kernel) (by decide +kernel)
theorem tw_648 : Cond.static yL_daysUntilMet ∈ eg_T := eg_in 695 (by decide +kernel) (by decide +kernel)
theorem tw_649 : Cond.codeWith yL_daysUntilMet cL_daysUntilMet 5 (some .int) [(0, 10, 13, 21)] ∈ eg_T := eg_in 696 (by decide +kernel) (by decide +kernel)
theorem tw_650 : Cond.methodLink RL 103 yX6_daysUntilMet ∈ eg_T := eg_in 697 (by decide +kernel) (by decide +kernel)
theorem tw_651 : Cond.instanceMethod yX6_daysUntilMet ∈ eg_T := eg_in 698 (by decide +kernel) (by decide +kernel)
theorem tw_652 : Cond.selects RX6 yX6_daysUntilMet yX6_daysUntilMet ∈ eg_T := eg_in 699 (by decide +kernel) (by decide +kernel)
theorem tw_653 : Cond.code yX6_daysUntilMet cX6_daysUntilMet 6 (some .int) ∈ eg_T := eg_in 700 (by decide +kernel) (by decide +kernel)
theorem tw_654 : Cond.methodLinkNest RX6 197 yX0_dustBehind RX6 ∈ lw_tbl := List.mem_of_getElem? (i := 701) (by decide +kernel)
theorem tw_655 : Cond.methodLink RL 227 yL_easiestHall ∈ eg_T := eg_in 702 (by decide +kernel) (by decide +kernel)
theorem tw_656 : Cond.static yL_easiestHall ∈ eg_T := eg_in 703 (by decide +kernel) (by decide +kernel)
theorem tw_657 : Cond.codeWith yL_easiestHall cL_easiestHall 4 (some .int) [(0, 9, 12, 21)] ∈ eg_T := eg_in 704 (by decide +kernel) (by decide +kernel)
theorem tw_658 : Cond.methodLink RL 106 yX6_easiestHall ∈ eg_T := eg_in 705 (by decide +kernel) (by decide +kernel)
theorem tw_659 : Cond.instanceMethod yX6_easiestHall ∈ eg_T := eg_in 706 (by decide +kernel) (by decide +kernel)
theorem tw_660 : Cond.selects RX6 yX6_easiestHall yX6_easiestHall ∈ eg_T := eg_in 707 (by decide +kernel) (by decide +kernel)
theorem tw_661 : Cond.code yX6_easiestHall cX6_easiestHall 6 (some .int) ∈ eg_T := eg_in 708 (by decide +kernel) (by decide +kernel)
theorem tw_662 : Cond.classLink RL 110 RX7 ∈ eg_T := eg_in 709 (by decide +kernel) (by decide +kernel)
theorem tw_663 : Cond.instantiable RX7 17 ∈ eg_T := eg_in 710 (by decide +kernel) (by decide +kernel)
theorem tw_664 : Cond.methodLink RL 112 yX7_init ∈ eg_T := eg_in 711 (by decide +kernel) (by decide +kernel)
theorem tw_665 : Cond.instanceMethod yX7_init ∈ eg_T := eg_in 712 (by decide +kernel) (by decide +kernel)
theorem tw_666 : Cond.code yX7_init cX7_init 1 none ∈ eg_T := eg_in 713 (by decide +kernel) (by decide +kernel)
theorem tw_667 : Cond.methodLink RX7 1 Lib.objectInit ∈ eg_T := eg_in 714 (by decide +kernel) (by decide +kernel)
theorem tw_668 : Cond.fieldLink RX7 43 RX7 "thrown" "I" ∈ eg_T := eg_in 715 (by decide +kernel) (by decide +kernel)
theorem tw_669 : Cond.fieldLink RX7 47 RX7 "halls" "I" ∈ eg_T := eg_in 716 (by decide +kernel) (by decide +kernel)
theorem tw_670 : Cond.fieldLink RX7 54 RX7 "standards" "I" ∈ eg_T := eg_in 717 (by decide +kernel) (by decide +kernel)
theorem tw_671 : Cond.fieldLink RX7 134 RX7 "day" "I" ∈ eg_T := eg_in 718 (by decide +kernel) (by decide +kernel)
theorem tw_672 : Cond.fieldLink RX7 125 RX7 "inspections" "I" ∈ eg_T := eg_in 719 (by decide +kernel) (by decide +kernel)
theorem tw_673 : Cond.fieldLink RX7 9 RX7 "surfaces" "[I" ∈ eg_T := eg_in 720 (by decide +kernel) (by decide +kernel)
theorem tw_674 : Cond.fieldLink RX7 13 RX7 "damping" "[I" ∈ eg_T := eg_in 721 (by decide +kernel) (by decide +kernel)
theorem tw_675 : Cond.fieldLink RX7 16 RX7 "dust" "[I" ∈ eg_T := eg_in 722 (by decide +kernel) (by decide +kernel)
theorem tw_676 : Cond.fieldLink RX7 19 RX7 "certificate" "[I" ∈ eg_T := eg_in 723 (by decide +kernel) (by decide +kernel)
theorem tw_677 : Cond.fieldLink RX7 22 RX7 "left" "[I" ∈ eg_T := eg_in 724 (by decide +kernel) (by decide +kernel)
theorem tw_678 : Cond.fieldLink RX7 25 RX7 "distance" "[I" ∈ eg_T := eg_in 725 (by decide +kernel) (by decide +kernel)
theorem tw_679 : Cond.fieldLink RX7 28 RX7 "hardness" "[I" ∈ eg_T := eg_in 726 (by decide +kernel) (by decide +kernel)
theorem tw_680 : Cond.fieldLink RX7 31 RX7 "rules" "[I" ∈ eg_T := eg_in 727 (by decide +kernel) (by decide +kernel)
theorem tw_681 : Cond.fieldLink RX7 34 RX7 "loud" "[I" ∈ eg_T := eg_in 728 (by decide +kernel) (by decide +kernel)
theorem tw_682 : Cond.fieldLink RX7 37 RX7 "many" "[I" ∈ eg_T := eg_in 729 (by decide +kernel) (by decide +kernel)
theorem tw_683 : Cond.fieldLink RX7 40 RX7 "apart" "[I" ∈ eg_T := eg_in 730 (by decide +kernel) (by decide +kernel)
theorem tw_684 : Cond.fieldLink RX7 67 RX7 "rows" "I" ∈ eg_T := eg_in 731 (by decide +kernel) (by decide +kernel)
theorem tw_720 : Cond.methodLink RL 119 yX7_thrown ∈ eg_T := eg_in 767 (by decide +kernel) (by decide +kernel)
theorem tw_721 : Cond.instanceMethod yX7_thrown ∈ eg_T := eg_in 768 (by decide +kernel) (by decide +kernel)
theorem tw_722 : Cond.selects RX7 yX7_thrown yX7_thrown ∈ eg_T := eg_in 769 (by decide +kernel) (by decide +kernel)
theorem tw_723 : Cond.code yX7_thrown cX7_thrown 1 (some .int) ∈ eg_T := eg_in 770 (by decide +kernel) (by decide +kernel)
theorem tw_724 : Cond.methodLink RL 118 yX7_addHall ∈ eg_T := eg_in 771 (by decide +kernel) (by decide +kernel)
theorem tw_725 : Cond.instanceMethod yX7_addHall ∈ eg_T := eg_in 772 (by decide +kernel) (by decide +kernel)
theorem tw_726 : Cond.selects RX7 yX7_addHall yX7_addHall ∈ eg_T := eg_in 773 (by decide +kernel) (by decide +kernel)
theorem tw_727 : Cond.code yX7_addHall cX7_addHall 2 (some .int) ∈ eg_T := eg_in 774 (by decide +kernel) (by decide +kernel)
theorem tw_728 : Cond.methodLink RX7 50 yX7_isIn ∈ eg_T := eg_in 775 (by decide +kernel) (by decide +kernel)
theorem tw_729 : Cond.static yX7_isIn ∈ eg_T := eg_in 776 (by decide +kernel) (by decide +kernel)
theorem tw_730 : Cond.code yX7_isIn cX7_isIn 3 (some .boolean) ∈ eg_T := eg_in 777 (by decide +kernel) (by decide +kernel)
theorem tw_731 : Cond.methodLink RX7 102 yX7_fail ∈ eg_T := eg_in 778 (by decide +kernel) (by decide +kernel)
theorem tw_733 : Cond.instanceMethod yX7_fail ∈ eg_T := eg_in 780 (by decide +kernel) (by decide +kernel)
theorem tw_734 : Cond.code yX7_fail cX7_fail 2 (some .int) ∈ eg_T := eg_in 781 (by decide +kernel) (by decide +kernel)
theorem tw_735 : Cond.methodLink RL 126 yX7_addSurface ∈ eg_T := eg_in 782 (by decide +kernel) (by decide +kernel)
theorem tw_736 : Cond.instanceMethod yX7_addSurface ∈ eg_T := eg_in 783 (by decide +kernel) (by decide +kernel)
theorem tw_737 : Cond.selects RX7 yX7_addSurface yX7_addSurface ∈ eg_T := eg_in 784 (by decide +kernel) (by decide +kernel)
theorem tw_738 : Cond.code yX7_addSurface cX7_addSurface 4 (some .int) ∈ eg_T := eg_in 785 (by decide +kernel) (by decide +kernel)
theorem tw_739 : Cond.methodLink RX7 57 yX7_isHall ∈ eg_T := eg_in 786 (by decide +kernel) (by decide +kernel)
theorem tw_741 : Cond.instanceMethod yX7_isHall ∈ eg_T := eg_in 788 (by decide +kernel) (by decide +kernel)
theorem tw_742 : Cond.code yX7_isHall cX7_isHall 2 (some .boolean) ∈ eg_T := eg_in 789 (by decide +kernel) (by decide +kernel)
theorem tw_743 : Cond.methodLink RX7 105 yX7_strike ∈ eg_T := eg_in 790 (by decide +kernel) (by decide +kernel)
theorem tw_745 : Cond.instanceMethod yX7_strike ∈ eg_T := eg_in 792 (by decide +kernel) (by decide +kernel)
theorem tw_746 : Cond.code yX7_strike cX7_strike 2 none ∈ eg_T := eg_in 793 (by decide +kernel) (by decide +kernel)
theorem tw_747 : Cond.methodLink RL 129 yX7_moveSurface ∈ eg_T := eg_in 794 (by decide +kernel) (by decide +kernel)
theorem tw_748 : Cond.instanceMethod yX7_moveSurface ∈ eg_T := eg_in 795 (by decide +kernel) (by decide +kernel)
theorem tw_749 : Cond.selects RX7 yX7_moveSurface yX7_moveSurface ∈ eg_T := eg_in 796 (by decide +kernel) (by decide +kernel)
theorem tw_750 : Cond.code yX7_moveSurface cX7_moveSurface 5 (some .int) ∈ eg_T := eg_in 797 (by decide +kernel) (by decide +kernel)
theorem tw_751 : Cond.methodLink RX7 109 yX7_isSurface ∈ eg_T := eg_in 798 (by decide +kernel) (by decide +kernel)
theorem tw_753 : Cond.instanceMethod yX7_isSurface ∈ eg_T := eg_in 800 (by decide +kernel) (by decide +kernel)
theorem tw_754 : Cond.code yX7_isSurface cX7_isSurface 3 (some .boolean) ∈ eg_T := eg_in 801 (by decide +kernel) (by decide +kernel)
theorem tw_755 : Cond.methodLink RL 133 yX7_setDamping ∈ eg_T := eg_in 802 (by decide +kernel) (by decide +kernel)
theorem tw_756 : Cond.instanceMethod yX7_setDamping ∈ eg_T := eg_in 803 (by decide +kernel) (by decide +kernel)
theorem tw_757 : Cond.selects RX7 yX7_setDamping yX7_setDamping ∈ eg_T := eg_in 804 (by decide +kernel) (by decide +kernel)
theorem tw_758 : Cond.code yX7_setDamping cX7_setDamping 4 (some .int) ∈ eg_T := eg_in 805 (by decide +kernel) (by decide +kernel)
theorem tw_759 : Cond.methodLink RL 136 yX7_clean ∈ eg_T := eg_in 806 (by decide +kernel) (by decide +kernel)
theorem tw_760 : Cond.instanceMethod yX7_clean ∈ eg_T := eg_in 807 (by decide +kernel) (by decide +kernel)
theorem tw_761 : Cond.selects RX7 yX7_clean yX7_clean ∈ eg_T := eg_in 808 (by decide +kernel) (by decide +kernel)
theorem tw_762 : Cond.code yX7_clean cX7_clean 3 (some .int) ∈ eg_T := eg_in 809 (by decide +kernel) (by decide +kernel)
theorem tw_763 : Cond.methodLink RL 140 yX7_addStandard ∈ eg_T := eg_in 810 (by decide +kernel) (by decide +kernel)
theorem tw_764 : Cond.instanceMethod yX7_addStandard ∈ eg_T := eg_in 811 (by decide +kernel) (by decide +kernel)
theorem tw_765 : Cond.selects RX7 yX7_addStandard yX7_addStandard ∈ eg_T := eg_in 812 (by decide +kernel) (by decide +kernel)
theorem tw_766 : Cond.code yX7_addStandard cX7_addStandard 7 (some .int) ∈ eg_T := eg_in 813 (by decide +kernel) (by decide +kernel)
theorem tw_767 : Cond.methodLink RX7 113 ⟨"java/lang/System", "arraycopy", "(Ljava/lang/Object;ILjava/lang/Object;II)V"⟩ ∈ eg_T := eg_in 814 (by decide +kernel) (by decide +kernel)
theorem tw_768 : Cond.static ⟨"java/lang/System", "arraycopy", "(Ljava/lang/Object;ILjava/lang/Object;II)V"⟩ ∈ eg_T := eg_in 815 (by decide +kernel) (by decide +kernel)
theorem tw_769 : Cond.native ⟨"java/lang/System", "arraycopy", "(Ljava/lang/Object;ILjava/lang/Object;II)V"⟩ ∈ eg_T := eg_in 816 (by decide +kernel) (by decide +kernel)
theorem tw_770 : Cond.methodLink RL 143 yX7_inspect ∈ eg_T := eg_in 817 (by decide +kernel) (by decide +kernel)
theorem tw_771 : Cond.instanceMethod yX7_inspect ∈ eg_T := eg_in 818 (by decide +kernel) (by decide +kernel)
theorem tw_772 : Cond.selects RX7 yX7_inspect yX7_inspect ∈ eg_T := eg_in 819 (by decide +kernel) (by decide +kernel)
theorem tw_773 : Cond.code yX7_inspect cX7_inspect 4 (some .boolean) ∈ eg_T := eg_in 820 (by decide +kernel) (by decide +kernel)
theorem tw_774 : Cond.methodLink RX7 122 yX7_isPair ∈ eg_T := eg_in 821 (by decide +kernel) (by decide +kernel)
theorem tw_776 : Cond.instanceMethod yX7_isPair ∈ eg_T := eg_in 823 (by decide +kernel) (by decide +kernel)
theorem tw_777 : Cond.code yX7_isPair cX7_isPair 3 (some .boolean) ∈ eg_T := eg_in 824 (by decide +kernel) (by decide +kernel)
theorem tw_778 : Cond.methodLink RX7 119 yX7_isStandard ∈ eg_T := eg_in 825 (by decide +kernel) (by decide +kernel)
theorem tw_780 : Cond.instanceMethod yX7_isStandard ∈ eg_T := eg_in 827 (by decide +kernel) (by decide +kernel)
theorem tw_781 : Cond.code yX7_isStandard cX7_isStandard 2 (some .boolean) ∈ eg_T := eg_in 828 (by decide +kernel) (by decide +kernel)
theorem tw_782 : Cond.methodLink RX7 128 yX7_meetsNow ∈ eg_T := eg_in 829 (by decide +kernel) (by decide +kernel)
theorem tw_784 : Cond.instanceMethod yX7_meetsNow ∈ eg_T := eg_in 831 (by decide +kernel) (by decide +kernel)
theorem tw_785 : Cond.code yX7_meetsNow cX7_meetsNow 3 (some .boolean) ∈ eg_T := eg_in 832 (by decide +kernel) (by decide +kernel)
theorem tw_786 : Cond.methodLink RX7 98 yX7_meets ∈ eg_T := eg_in 833 (by decide +kernel) (by decide +kernel)
theorem tw_788 : Cond.instanceMethod yX7_meets ∈ eg_T := eg_in 835 (by decide +kernel) (by decide +kernel)
theorem tw_789 : Cond.code yX7_meets cX7_meets 5 (some .boolean) ∈ eg_T := eg_in 836 (by decide +kernel) (by decide +kernel)
theorem tw_790 : Cond.methodLink RX7 74 yX7_click ∈ eg_T := eg_in 837 (by decide +kernel) (by decide +kernel)
theorem tw_792 : Cond.instanceMethod yX7_click ∈ eg_T := eg_in 839 (by decide +kernel) (by decide +kernel)
theorem tw_793 : Cond.code yX7_click cX7_click 10 none ∈ eg_T := eg_in 840 (by decide +kernel) (by decide +kernel)
theorem tw_794 : Cond.methodLink RX7 70 yX7_hard ∈ eg_T := eg_in 841 (by decide +kernel) (by decide +kernel)
theorem tw_796 : Cond.instanceMethod yX7_hard ∈ eg_T := eg_in 843 (by decide +kernel) (by decide +kernel)
theorem tw_797 : Cond.code yX7_hard cX7_hard 4 (some .int) ∈ eg_T := eg_in 844 (by decide +kernel) (by decide +kernel)
theorem tw_798 : Cond.methodLink RX7 61 Lib.Math.max.name ∈ eg_T := eg_in 845 (by decide +kernel) (by decide +kernel)
theorem tw_799 : Cond.methodLink RX7 82 yX7_all ∈ eg_T := eg_in 846 (by decide +kernel) (by decide +kernel)
theorem tw_801 : Cond.instanceMethod yX7_all ∈ eg_T := eg_in 848 (by decide +kernel) (by decide +kernel)
theorem tw_802 : Cond.code yX7_all cX7_all 3 (some .int) ∈ eg_T := eg_in 849 (by decide +kernel) (by decide +kernel)
theorem tw_803 : Cond.methodLink RX7 86 yX7_first ∈ eg_T := eg_in 850 (by decide +kernel) (by decide +kernel)
theorem tw_805 : Cond.instanceMethod yX7_first ∈ eg_T := eg_in 852 (by decide +kernel) (by decide +kernel)
theorem tw_806 : Cond.code yX7_first cX7_first 3 (some .int) ∈ eg_T := eg_in 853 (by decide +kernel) (by decide +kernel)
theorem tw_807 : Cond.methodLink RX7 89 yX7_rule ∈ eg_T := eg_in 854 (by decide +kernel) (by decide +kernel)
theorem tw_809 : Cond.instanceMethod yX7_rule ∈ eg_T := eg_in 856 (by decide +kernel) (by decide +kernel)
theorem tw_810 : Cond.code yX7_rule cX7_rule 3 (some .int) ∈ eg_T := eg_in 857 (by decide +kernel) (by decide +kernel)
theorem tw_811 : Cond.methodLink RX7 92 yX7_last ∈ eg_T := eg_in 858 (by decide +kernel) (by decide +kernel)
theorem tw_813 : Cond.instanceMethod yX7_last ∈ eg_T := eg_in 860 (by decide +kernel) (by decide +kernel)
theorem tw_814 : Cond.code yX7_last cX7_last 3 (some .int) ∈ eg_T := eg_in 861 (by decide +kernel) (by decide +kernel)
theorem tw_815 : Cond.methodLink RX7 95 yX7_louder ∈ eg_T := eg_in 862 (by decide +kernel) (by decide +kernel)
theorem tw_817 : Cond.instanceMethod yX7_louder ∈ eg_T := eg_in 864 (by decide +kernel) (by decide +kernel)
theorem tw_818 : Cond.code yX7_louder cX7_louder 5 (some .int) ∈ eg_T := eg_in 865 (by decide +kernel) (by decide +kernel)
theorem tw_819 : Cond.methodLink RL 146 yX7_revoke ∈ eg_T := eg_in 866 (by decide +kernel) (by decide +kernel)
theorem tw_820 : Cond.instanceMethod yX7_revoke ∈ eg_T := eg_in 867 (by decide +kernel) (by decide +kernel)
theorem tw_821 : Cond.selects RX7 yX7_revoke yX7_revoke ∈ eg_T := eg_in 868 (by decide +kernel) (by decide +kernel)
theorem tw_822 : Cond.code yX7_revoke cX7_revoke 3 (some .int) ∈ eg_T := eg_in 869 (by decide +kernel) (by decide +kernel)
theorem tw_823 : Cond.methodLink RL 149 yX7_passDays ∈ eg_T := eg_in 870 (by decide +kernel) (by decide +kernel)
theorem tw_824 : Cond.instanceMethod yX7_passDays ∈ eg_T := eg_in 871 (by decide +kernel) (by decide +kernel)
theorem tw_825 : Cond.selects RX7 yX7_passDays yX7_passDays ∈ eg_T := eg_in 872 (by decide +kernel) (by decide +kernel)
theorem tw_826 : Cond.code yX7_passDays cX7_passDays 3 (some .int) ∈ eg_T := eg_in 873 (by decide +kernel) (by decide +kernel)
theorem tw_827 : Cond.methodLink RX7 131 Lib.Math.min.name ∈ eg_T := eg_in 874 (by decide +kernel) (by decide +kernel)
theorem tw_828 : Cond.methodLink RX7 137 yX7_certified ∈ eg_T := eg_in 875 (by decide +kernel) (by decide +kernel)
theorem tw_830 : Cond.instanceMethod yX7_certified ∈ eg_T := eg_in 877 (by decide +kernel) (by decide +kernel)
theorem tw_831 : Cond.code yX7_certified cX7_certified 3 (some .int) ∈ eg_T := eg_in 878 (by decide +kernel) (by decide +kernel)
theorem tw_832 : Cond.methodLink RL 152 yX7_surfacesOf ∈ eg_T := eg_in 879 (by decide +kernel) (by decide +kernel)
theorem tw_833 : Cond.instanceMethod yX7_surfacesOf ∈ eg_T := eg_in 880 (by decide +kernel) (by decide +kernel)
theorem tw_834 : Cond.selects RX7 yX7_surfacesOf yX7_surfacesOf ∈ eg_T := eg_in 881 (by decide +kernel) (by decide +kernel)
theorem tw_835 : Cond.code yX7_surfacesOf cX7_surfacesOf 2 (some .int) ∈ eg_T := eg_in 882 (by decide +kernel) (by decide +kernel)
theorem tw_836 : Cond.methodLink RL 155 yX7_distanceOf ∈ eg_T := eg_in 883 (by decide +kernel) (by decide +kernel)
theorem tw_837 : Cond.instanceMethod yX7_distanceOf ∈ eg_T := eg_in 884 (by decide +kernel) (by decide +kernel)
theorem tw_838 : Cond.selects RX7 yX7_distanceOf yX7_distanceOf ∈ eg_T := eg_in 885 (by decide +kernel) (by decide +kernel)
theorem tw_839 : Cond.code yX7_distanceOf cX7_distanceOf 3 (some .int) ∈ eg_T := eg_in 886 (by decide +kernel) (by decide +kernel)
theorem tw_840 : Cond.methodLink RL 158 yX7_hardnessOf ∈ eg_T := eg_in 887 (by decide +kernel) (by decide +kernel)
theorem tw_841 : Cond.instanceMethod yX7_hardnessOf ∈ eg_T := eg_in 888 (by decide +kernel) (by decide +kernel)
theorem tw_842 : Cond.selects RX7 yX7_hardnessOf yX7_hardnessOf ∈ eg_T := eg_in 889 (by decide +kernel) (by decide +kernel)
theorem tw_843 : Cond.code yX7_hardnessOf cX7_hardnessOf 3 (some .int) ∈ eg_T := eg_in 890 (by decide +kernel) (by decide +kernel)
theorem tw_844 : Cond.methodLink RL 161 yX7_dampingOf ∈ eg_T := eg_in 891 (by decide +kernel) (by decide +kernel)
theorem tw_845 : Cond.instanceMethod yX7_dampingOf ∈ eg_T := eg_in 892 (by decide +kernel) (by decide +kernel)
theorem tw_846 : Cond.selects RX7 yX7_dampingOf yX7_dampingOf ∈ eg_T := eg_in 893 (by decide +kernel) (by decide +kernel)
theorem tw_847 : Cond.code yX7_dampingOf cX7_dampingOf 2 (some .int) ∈ eg_T := eg_in 894 (by decide +kernel) (by decide +kernel)
theorem tw_848 : Cond.methodLink RL 164 yX7_dustOf ∈ eg_T := eg_in 895 (by decide +kernel) (by decide +kernel)
theorem tw_849 : Cond.instanceMethod yX7_dustOf ∈ eg_T := eg_in 896 (by decide +kernel) (by decide +kernel)
theorem tw_850 : Cond.selects RX7 yX7_dustOf yX7_dustOf ∈ eg_T := eg_in 897 (by decide +kernel) (by decide +kernel)
theorem tw_851 : Cond.code yX7_dustOf cX7_dustOf 2 (some .int) ∈ eg_T := eg_in 898 (by decide +kernel) (by decide +kernel)
theorem tw_852 : Cond.methodLink RL 167 yX7_echoes ∈ eg_T := eg_in 899 (by decide +kernel) (by decide +kernel)
theorem tw_853 : Cond.instanceMethod yX7_echoes ∈ eg_T := eg_in 900 (by decide +kernel) (by decide +kernel)
theorem tw_854 : Cond.selects RX7 yX7_echoes yX7_echoes ∈ eg_T := eg_in 901 (by decide +kernel) (by decide +kernel)
theorem tw_855 : Cond.code yX7_echoes cX7_echoes 3 (some .int) ∈ eg_T := eg_in 902 (by decide +kernel) (by decide +kernel)
theorem tw_856 : Cond.methodLink RX7 144 yX7_isClick ∈ eg_T := eg_in 903 (by decide +kernel) (by decide +kernel)
theorem tw_858 : Cond.instanceMethod yX7_isClick ∈ eg_T := eg_in 905 (by decide +kernel) (by decide +kernel)
theorem tw_859 : Cond.code yX7_isClick cX7_isClick 4 (some .boolean) ∈ eg_T := eg_in 906 (by decide +kernel) (by decide +kernel)
theorem tw_860 : Cond.methodLink RX7 140 yX7_clickNow ∈ eg_T := eg_in 907 (by decide +kernel) (by decide +kernel)
theorem tw_862 : Cond.instanceMethod yX7_clickNow ∈ eg_T := eg_in 909 (by decide +kernel) (by decide +kernel)
theorem tw_863 : Cond.code yX7_clickNow cX7_clickNow 3 none ∈ eg_T := eg_in 910 (by decide +kernel) (by decide +kernel)
theorem tw_864 : Cond.methodLink RL 170 yX7_loudEchoes ∈ eg_T := eg_in 911 (by decide +kernel) (by decide +kernel)
theorem tw_865 : Cond.instanceMethod yX7_loudEchoes ∈ eg_T := eg_in 912 (by decide +kernel) (by decide +kernel)
theorem tw_866 : Cond.selects RX7 yX7_loudEchoes yX7_loudEchoes ∈ eg_T := eg_in 913 (by decide +kernel) (by decide +kernel)
theorem tw_867 : Cond.code yX7_loudEchoes cX7_loudEchoes 4 (some .int) ∈ eg_T := eg_in 914 (by decide +kernel) (by decide +kernel)
theorem tw_868 : Cond.methodLink RL 173 yX7_firstEcho ∈ eg_T := eg_in 915 (by decide +kernel) (by decide +kernel)
theorem tw_869 : Cond.instanceMethod yX7_firstEcho ∈ eg_T := eg_in 916 (by decide +kernel) (by decide +kernel)
theorem tw_870 : Cond.selects RX7 yX7_firstEcho yX7_firstEcho ∈ eg_T := eg_in 917 (by decide +kernel) (by decide +kernel)
theorem tw_871 : Cond.code yX7_firstEcho cX7_firstEcho 3 (some .int) ∈ eg_T := eg_in 918 (by decide +kernel) (by decide +kernel)
theorem tw_872 : Cond.methodLink RL 176 yX7_lastEcho ∈ eg_T := eg_in 919 (by decide +kernel) (by decide +kernel)
theorem tw_873 : Cond.instanceMethod yX7_lastEcho ∈ eg_T := eg_in 920 (by decide +kernel) (by decide +kernel)
theorem tw_874 : Cond.selects RX7 yX7_lastEcho yX7_lastEcho ∈ eg_T := eg_in 921 (by decide +kernel) (by decide +kernel)
theorem tw_875 : Cond.code yX7_lastEcho cX7_lastEcho 3 (some .int) ∈ eg_T := eg_in 922 (by decide +kernel) (by decide +kernel)
theorem tw_876 : Cond.methodLink RL 179 yX7_loudnessAt ∈ eg_T := eg_in 923 (by decide +kernel) (by decide +kernel)
theorem tw_877 : Cond.instanceMethod yX7_loudnessAt ∈ eg_T := eg_in 924 (by decide +kernel) (by decide +kernel)
theorem tw_878 : Cond.selects RX7 yX7_loudnessAt yX7_loudnessAt ∈ eg_T := eg_in 925 (by decide +kernel) (by decide +kernel)
theorem tw_879 : Cond.code yX7_loudnessAt cX7_loudnessAt 4 (some .int) ∈ eg_T := eg_in 926 (by decide +kernel) (by decide +kernel)
theorem tw_880 : Cond.methodLink RX7 78 yX7_at ∈ eg_T := eg_in 927 (by decide +kernel) (by decide +kernel)
theorem tw_882 : Cond.instanceMethod yX7_at ∈ eg_T := eg_in 929 (by decide +kernel) (by decide +kernel)
theorem tw_883 : Cond.code yX7_at cX7_at 5 (some .int) ∈ eg_T := eg_in 930 (by decide +kernel) (by decide +kernel)
theorem tw_884 : Cond.methodLink RL 182 yX7_loudestMoment ∈ eg_T := eg_in 931 (by decide +kernel) (by decide +kernel)
theorem tw_885 : Cond.instanceMethod yX7_loudestMoment ∈ eg_T := eg_in 932 (by decide +kernel) (by decide +kernel)
theorem tw_886 : Cond.selects RX7 yX7_loudestMoment yX7_loudestMoment ∈ eg_T := eg_in 933 (by decide +kernel) (by decide +kernel)
theorem tw_887 : Cond.code yX7_loudestMoment cX7_loudestMoment 3 (some .int) ∈ eg_T := eg_in 934 (by decide +kernel) (by decide +kernel)
theorem tw_888 : Cond.methodLink RX7 148 yX7_loudest ∈ eg_T := eg_in 935 (by decide +kernel) (by decide +kernel)
theorem tw_890 : Cond.instanceMethod yX7_loudest ∈ eg_T := eg_in 937 (by decide +kernel) (by decide +kernel)
theorem tw_891 : Cond.code yX7_loudest cX7_loudest 7 (some .int) ∈ eg_T := eg_in 938 (by decide +kernel) (by decide +kernel)
theorem tw_892 : Cond.methodLink RL 185 yX7_meets_ ∈ eg_T := eg_in 939 (by decide +kernel) (by decide +kernel)
theorem tw_893 : Cond.instanceMethod yX7_meets_ ∈ eg_T := eg_in 940 (by decide +kernel) (by decide +kernel)
theorem tw_894 : Cond.selects RX7 yX7_meets_ yX7_meets_ ∈ eg_T := eg_in 941 (by decide +kernel) (by decide +kernel)
theorem tw_895 : Cond.code yX7_meets_ cX7_meets_ 3 (some .boolean) ∈ eg_T := eg_in 942 (by decide +kernel) (by decide +kernel)
theorem tw_896 : Cond.methodLink RL 188 yX7_hallsMeeting ∈ eg_T := eg_in 943 (by decide +kernel) (by decide +kernel)
theorem tw_897 : Cond.instanceMethod yX7_hallsMeeting ∈ eg_T := eg_in 944 (by decide +kernel) (by decide +kernel)
theorem tw_898 : Cond.selects RX7 yX7_hallsMeeting yX7_hallsMeeting ∈ eg_T := eg_in 945 (by decide +kernel) (by decide +kernel)
theorem tw_899 : Cond.code yX7_hallsMeeting cX7_hallsMeeting 4 (some .int) ∈ eg_T := eg_in 946 (by decide +kernel) (by decide +kernel)
theorem tw_900 : Cond.methodLink RL 191 yX7_isCertified ∈ eg_T := eg_in 947 (by decide +kernel) (by decide +kernel)
theorem tw_901 : Cond.instanceMethod yX7_isCertified ∈ eg_T := eg_in 948 (by decide +kernel) (by decide +kernel)
theorem tw_902 : Cond.selects RX7 yX7_isCertified yX7_isCertified ∈ eg_T := eg_in 949 (by decide +kernel) (by decide +kernel)
theorem tw_903 : Cond.code yX7_isCertified cX7_isCertified 2 (some .boolean) ∈ eg_T := eg_in 950 (by decide +kernel) (by decide +kernel)
theorem tw_904 : Cond.methodLink RX7 151 yX7_failed ∈ eg_T := eg_in 951 (by decide +kernel) (by decide +kernel)
theorem tw_906 : Cond.instanceMethod yX7_failed ∈ eg_T := eg_in 953 (by decide +kernel) (by decide +kernel)
theorem tw_907 : Cond.code yX7_failed cX7_failed 2 (some .boolean) ∈ eg_T := eg_in 954 (by decide +kernel) (by decide +kernel)
theorem tw_908 : Cond.methodLink RL 194 yX7_certifiedBy ∈ eg_T := eg_in 955 (by decide +kernel) (by decide +kernel)
theorem tw_909 : Cond.instanceMethod yX7_certifiedBy ∈ eg_T := eg_in 956 (by decide +kernel) (by decide +kernel)
theorem tw_910 : Cond.selects RX7 yX7_certifiedBy yX7_certifiedBy ∈ eg_T := eg_in 957 (by decide +kernel) (by decide +kernel)
theorem tw_911 : Cond.code yX7_certifiedBy cX7_certifiedBy 2 (some .int) ∈ eg_T := eg_in 958 (by decide +kernel) (by decide +kernel)
theorem tw_912 : Cond.methodLink RL 197 yX7_daysLeft ∈ eg_T := eg_in 959 (by decide +kernel) (by decide +kernel)
theorem tw_913 : Cond.instanceMethod yX7_daysLeft ∈ eg_T := eg_in 960 (by decide +kernel) (by decide +kernel)
theorem tw_914 : Cond.selects RX7 yX7_daysLeft yX7_daysLeft ∈ eg_T := eg_in 961 (by decide +kernel) (by decide +kernel)
theorem tw_915 : Cond.code yX7_daysLeft cX7_daysLeft 2 (some .int) ∈ eg_T := eg_in 962 (by decide +kernel) (by decide +kernel)
theorem tw_916 : Cond.methodLink RL 201 yX7_halls ∈ eg_T := eg_in 963 (by decide +kernel) (by decide +kernel)
theorem tw_917 : Cond.instanceMethod yX7_halls ∈ eg_T := eg_in 964 (by decide +kernel) (by decide +kernel)
theorem tw_918 : Cond.selects RX7 yX7_halls yX7_halls ∈ eg_T := eg_in 965 (by decide +kernel) (by decide +kernel)
theorem tw_919 : Cond.code yX7_halls cX7_halls 1 (some .int) ∈ eg_T := eg_in 966 (by decide +kernel) (by decide +kernel)
theorem tw_920 : Cond.methodLink RL 205 yX7_standards ∈ eg_T := eg_in 967 (by decide +kernel) (by decide +kernel)
theorem tw_921 : Cond.instanceMethod yX7_standards ∈ eg_T := eg_in 968 (by decide +kernel) (by decide +kernel)
theorem tw_922 : Cond.selects RX7 yX7_standards yX7_standards ∈ eg_T := eg_in 969 (by decide +kernel) (by decide +kernel)
theorem tw_923 : Cond.code yX7_standards cX7_standards 1 (some .int) ∈ eg_T := eg_in 970 (by decide +kernel) (by decide +kernel)
theorem tw_924 : Cond.methodLink RL 209 yX7_day ∈ eg_T := eg_in 971 (by decide +kernel) (by decide +kernel)
theorem tw_925 : Cond.instanceMethod yX7_day ∈ eg_T := eg_in 972 (by decide +kernel) (by decide +kernel)
theorem tw_926 : Cond.selects RX7 yX7_day yX7_day ∈ eg_T := eg_in 973 (by decide +kernel) (by decide +kernel)
theorem tw_927 : Cond.code yX7_day cX7_day 1 (some .int) ∈ eg_T := eg_in 974 (by decide +kernel) (by decide +kernel)
theorem tw_928 : Cond.methodLink RL 213 yX7_inspections ∈ eg_T := eg_in 975 (by decide +kernel) (by decide +kernel)
theorem tw_929 : Cond.instanceMethod yX7_inspections ∈ eg_T := eg_in 976 (by decide +kernel) (by decide +kernel)
theorem tw_930 : Cond.selects RX7 yX7_inspections yX7_inspections ∈ eg_T := eg_in 977 (by decide +kernel) (by decide +kernel)
theorem tw_931 : Cond.code yX7_inspections cX7_inspections 1 (some .int) ∈ eg_T := eg_in 978 (by decide +kernel) (by decide +kernel)
theorem tw_932 : Cond.methodLink RL 217 yX7_certifiedHalls ∈ eg_T := eg_in 979 (by decide +kernel) (by decide +kernel)
theorem tw_933 : Cond.instanceMethod yX7_certifiedHalls ∈ eg_T := eg_in 980 (by decide +kernel) (by decide +kernel)
theorem tw_934 : Cond.selects RX7 yX7_certifiedHalls yX7_certifiedHalls ∈ eg_T := eg_in 981 (by decide +kernel) (by decide +kernel)
theorem tw_935 : Cond.code yX7_certifiedHalls cX7_certifiedHalls 1 (some .int) ∈ eg_T := eg_in 982 (by decide +kernel) (by decide +kernel)
theorem tw_936 : Cond.methodLink RL 220 yX7_meetsWithDamping ∈ eg_T := eg_in 983 (by decide +kernel) (by decide +kernel)
theorem tw_937 : Cond.instanceMethod yX7_meetsWithDamping ∈ eg_T := eg_in 984 (by decide +kernel) (by decide +kernel)
theorem tw_938 : Cond.selects RX7 yX7_meetsWithDamping yX7_meetsWithDamping ∈ eg_T := eg_in 985 (by decide +kernel) (by decide +kernel)
theorem tw_939 : Cond.code yX7_meetsWithDamping cX7_meetsWithDamping 4 (some .boolean) ∈ eg_T := eg_in 986 (by decide +kernel) (by decide +kernel)
theorem tw_940 : Cond.methodLink RL 223 yX7_leastDamping ∈ eg_T := eg_in 987 (by decide +kernel) (by decide +kernel)
theorem tw_941 : Cond.instanceMethod yX7_leastDamping ∈ eg_T := eg_in 988 (by decide +kernel) (by decide +kernel)
theorem tw_942 : Cond.selects RX7 yX7_leastDamping yX7_leastDamping ∈ eg_T := eg_in 989 (by decide +kernel) (by decide +kernel)
theorem tw_943 : Cond.code yX7_leastDamping cX7_leastDamping 3 (some .int) ∈ eg_T := eg_in 990 (by decide +kernel) (by decide +kernel)
theorem tw_944 : Cond.methodLink RX7 154 yX7_least ∈ eg_T := eg_in 991 (by decide +kernel) (by decide +kernel)
theorem tw_946 : Cond.instanceMethod yX7_least ∈ eg_T := eg_in 993 (by decide +kernel) (by decide +kernel)
theorem tw_947 : Cond.code yX7_least cX7_least 4 (some .int) ∈ eg_T := eg_in 994 (by decide +kernel) (by decide +kernel)
theorem tw_948 : Cond.methodLink RL 226 yX7_daysUntilMet ∈ eg_T := eg_in 995 (by decide +kernel) (by decide +kernel)
theorem tw_949 : Cond.instanceMethod yX7_daysUntilMet ∈ eg_T := eg_in 996 (by decide +kernel) (by decide +kernel)
theorem tw_950 : Cond.selects RX7 yX7_daysUntilMet yX7_daysUntilMet ∈ eg_T := eg_in 997 (by decide +kernel) (by decide +kernel)
theorem tw_951 : Cond.code yX7_daysUntilMet cX7_daysUntilMet 4 (some .int) ∈ eg_T := eg_in 998 (by decide +kernel) (by decide +kernel)
theorem tw_952 : Cond.methodLink RL 229 yX7_easiestHall ∈ eg_T := eg_in 999 (by decide +kernel) (by decide +kernel)
theorem tw_953 : Cond.instanceMethod yX7_easiestHall ∈ eg_T := eg_in 1000 (by decide +kernel) (by decide +kernel)
theorem tw_954 : Cond.selects RX7 yX7_easiestHall yX7_easiestHall ∈ eg_T := eg_in 1001 (by decide +kernel) (by decide +kernel)
theorem tw_955 : Cond.code yX7_easiestHall cX7_easiestHall 6 (some .int) ∈ eg_T := eg_in 1002 (by decide +kernel) (by decide +kernel)
theorem tw_956 : Cond.methodLink RL 234 yX7_meanDamping ∈ eg_T := eg_in 1003 (by decide +kernel) (by decide +kernel)
theorem tw_957 : Cond.instanceMethod yX7_meanDamping ∈ eg_T := eg_in 1004 (by decide +kernel) (by decide +kernel)
theorem tw_958 : Cond.selects RX7 yX7_meanDamping yX7_meanDamping ∈ eg_T := eg_in 1005 (by decide +kernel) (by decide +kernel)
theorem tw_959 : Cond.code yX7_meanDamping cX7_meanDamping 3 (some .double) ∈ eg_T := eg_in 1006 (by decide +kernel) (by decide +kernel)
theorem tw_960 : Cond.methodLink RL 239 yX7_digest ∈ eg_T := eg_in 1007 (by decide +kernel) (by decide +kernel)
theorem tw_961 : Cond.instanceMethod yX7_digest ∈ eg_T := eg_in 1008 (by decide +kernel) (by decide +kernel)
theorem tw_962 : Cond.selects RX7 yX7_digest yX7_digest ∈ eg_T := eg_in 1009 (by decide +kernel) (by decide +kernel)
theorem tw_963 : Cond.code yX7_digest cX7_digest 10 (some .long) ∈ eg_T := eg_in 1010 (by decide +kernel) (by decide +kernel)
theorem tw_964 : Cond.constantLong RX7 157 1871 ∈ eg_T := eg_in 1011 (by decide +kernel) (by decide +kernel)
theorem tw_965 : Cond.constantLong RX7 159 31 ∈ eg_T := eg_in 1012 (by decide +kernel) (by decide +kernel)
theorem tw_966 : Cond.arrayClass .long ∈ eg_T := eg_in 1013 (by decide +kernel) (by decide +kernel)
theorem tp_X6_countCertified : Cond.selects RX6 yX6_countCertified yX6_countCertified ∈ eg_T := eg_in 0 (by decide +kernel) (by decide +kernel)
theorem tp_X0_hasCertificate : Cond.selects RX0 yX0_hasCertificate yX0_hasCertificate ∈ eg_T := eg_in 1 (by decide +kernel) (by decide +kernel)
theorem tp_X4_hardnessUnder : Cond.selects RX4 yX4_hardnessUnder yX4_hardnessUnder ∈ eg_T := eg_in 2 (by decide +kernel) (by decide +kernel)
theorem tp_X6_mixEchoes : Cond.selects RX6 yX6_mixEchoes yX6_mixEchoes ∈ eg_T := eg_in 3 (by decide +kernel) (by decide +kernel)
theorem tp_X6_tallyOf : Cond.selects RX6 yX6_tallyOf yX6_tallyOf ∈ eg_T := eg_in 4 (by decide +kernel) (by decide +kernel)
theorem tp_X5_begin : Cond.selects RX5 yX5_begin yX5_begin ∈ eg_T := eg_in 5 (by decide +kernel) (by decide +kernel)
theorem tp_X0_throwBack : Cond.selects RX0 yX0_throwBack yX0_throwBack ∈ eg_T := eg_in 6 (by decide +kernel) (by decide +kernel)
theorem tp_X4_throwRow : Cond.selects RX4 yX4_throwRow yX4_throwRow ∈ eg_T := eg_in 7 (by decide +kernel) (by decide +kernel)
theorem tp_X6_loudnessesOf : Cond.selects RX6 yX6_loudnessesOf yX6_loudnessesOf ∈ eg_T := eg_in 8 (by decide +kernel) (by decide +kernel)
theorem tp_X2_begin : Cond.selects RX2 yX2_begin yX2_begin ∈ eg_T := eg_in 9 (by decide +kernel) (by decide +kernel)
theorem tp_X2_momentOfMost : Cond.selects RX2 yX2_momentOfMost yX2_momentOfMost ∈ eg_T := eg_in 10 (by decide +kernel) (by decide +kernel)
theorem tp_X6_meetsNow : Cond.selects RX6 yX6_meetsNow yX6_meetsNow ∈ eg_T := eg_in 11 (by decide +kernel) (by decide +kernel)
theorem tp_X6_wouldMeet : Cond.selects RX6 yX6_wouldMeet yX6_wouldMeet ∈ eg_T := eg_in 12 (by decide +kernel) (by decide +kernel)
theorem tp_X3_allows : Cond.selects RX3 yX3_allows yX3_allows ∈ eg_T := eg_in 13 (by decide +kernel) (by decide +kernel)
theorem tp_X6_findHall : Cond.selects RX6 yX6_findHall yX6_findHall ∈ eg_T := eg_in 15 (by decide +kernel) (by decide +kernel)
theorem tp_X0_isFull : Cond.selects RX0 yX0_isFull yX0_isFull ∈ eg_T := eg_in 16 (by decide +kernel) (by decide +kernel)
theorem tp_X0_loseCertificate : Cond.selects RX0 yX0_loseCertificate yX0_loseCertificate ∈ eg_T := eg_in 17 (by decide +kernel) (by decide +kernel)
theorem tp_X0_build : Cond.selects RX0 yX0_build yX0_build ∈ eg_T := eg_in 18 (by decide +kernel) (by decide +kernel)
theorem tp_X6_findStandard : Cond.selects RX6 yX6_findStandard yX6_findStandard ∈ eg_T := eg_in 19 (by decide +kernel) (by decide +kernel)
theorem tp_X0_takeCertificate : Cond.selects RX0 yX0_takeCertificate yX0_takeCertificate ∈ eg_T := eg_in 20 (by decide +kernel) (by decide +kernel)
theorem tp_X0_growOlder : Cond.selects RX0 yX0_growOlder yX0_growOlder ∈ eg_T := eg_in 21 (by decide +kernel) (by decide +kernel)
theorem tp_X0_dustBehind : Cond.selects RX0 yX0_dustBehind yX0_dustBehind ∈ eg_T := eg_in 22 (by decide +kernel) (by decide +kernel)
theorem tp_X6_tallyOfClick : Cond.selects RX6 yX6_tallyOfClick yX6_tallyOfClick ∈ eg_T := eg_in 23 (by decide +kernel) (by decide +kernel)
theorem tp_X2_addedAt : Cond.selects RX2 yX2_addedAt yX2_addedAt ∈ eg_T := eg_in 24 (by decide +kernel) (by decide +kernel)
theorem tp_X7_fail : Cond.selects RX7 yX7_fail yX7_fail ∈ eg_T := eg_in 25 (by decide +kernel) (by decide +kernel)
theorem tp_X7_isHall : Cond.selects RX7 yX7_isHall yX7_isHall ∈ eg_T := eg_in 26 (by decide +kernel) (by decide +kernel)
theorem tp_X7_strike : Cond.selects RX7 yX7_strike yX7_strike ∈ eg_T := eg_in 27 (by decide +kernel) (by decide +kernel)
theorem tp_X7_isSurface : Cond.selects RX7 yX7_isSurface yX7_isSurface ∈ eg_T := eg_in 28 (by decide +kernel) (by decide +kernel)
theorem tp_X7_isPair : Cond.selects RX7 yX7_isPair yX7_isPair ∈ eg_T := eg_in 29 (by decide +kernel) (by decide +kernel)
theorem tp_X7_isStandard : Cond.selects RX7 yX7_isStandard yX7_isStandard ∈ eg_T := eg_in 30 (by decide +kernel) (by decide +kernel)
theorem tp_X7_meetsNow : Cond.selects RX7 yX7_meetsNow yX7_meetsNow ∈ eg_T := eg_in 31 (by decide +kernel) (by decide +kernel)
theorem tp_X7_meets : Cond.selects RX7 yX7_meets yX7_meets ∈ eg_T := eg_in 32 (by decide +kernel) (by decide +kernel)
theorem tp_X7_click : Cond.selects RX7 yX7_click yX7_click ∈ eg_T := eg_in 33 (by decide +kernel) (by decide +kernel)
theorem tp_X7_hard : Cond.selects RX7 yX7_hard yX7_hard ∈ eg_T := eg_in 34 (by decide +kernel) (by decide +kernel)
theorem tp_X7_all : Cond.selects RX7 yX7_all yX7_all ∈ eg_T := eg_in 35 (by decide +kernel) (by decide +kernel)
theorem tp_X7_first : Cond.selects RX7 yX7_first yX7_first ∈ eg_T := eg_in 36 (by decide +kernel) (by decide +kernel)
theorem tp_X7_rule : Cond.selects RX7 yX7_rule yX7_rule ∈ eg_T := eg_in 37 (by decide +kernel) (by decide +kernel)
theorem tp_X7_last : Cond.selects RX7 yX7_last yX7_last ∈ eg_T := eg_in 38 (by decide +kernel) (by decide +kernel)
theorem tp_X7_louder : Cond.selects RX7 yX7_louder yX7_louder ∈ eg_T := eg_in 39 (by decide +kernel) (by decide +kernel)
theorem tp_X7_certified : Cond.selects RX7 yX7_certified yX7_certified ∈ eg_T := eg_in 40 (by decide +kernel) (by decide +kernel)
theorem tp_X7_isClick : Cond.selects RX7 yX7_isClick yX7_isClick ∈ eg_T := eg_in 41 (by decide +kernel) (by decide +kernel)
theorem tp_X7_clickNow : Cond.selects RX7 yX7_clickNow yX7_clickNow ∈ eg_T := eg_in 42 (by decide +kernel) (by decide +kernel)
theorem tp_X7_at : Cond.selects RX7 yX7_at yX7_at ∈ eg_T := eg_in 43 (by decide +kernel) (by decide +kernel)
theorem tp_X7_loudest : Cond.selects RX7 yX7_loudest yX7_loudest ∈ eg_T := eg_in 44 (by decide +kernel) (by decide +kernel)
theorem tp_X7_failed : Cond.selects RX7 yX7_failed yX7_failed ∈ eg_T := eg_in 45 (by decide +kernel) (by decide +kernel)
theorem tp_X7_least : Cond.selects RX7 yX7_least yX7_least ∈ eg_T := eg_in 46 (by decide +kernel) (by decide +kernel)
set_option maxRecDepth 20000 in
theorem fw_X0 : eg_FW RX0 TX0 6 := fun w hw => List.mem_filter.mpr ⟨(by decide +kernel : ∀ w ∈ u_ws RX0 TX0 6, w ∈ lw_tbl) w hw, (by decide +kernel : ∀ w ∈ u_ws RX0 TX0 6, goodWord w = true) w hw⟩
set_option maxRecDepth 20000 in
theorem fw_X2 : eg_FW RX2 TX2 1 := fun w hw => List.mem_filter.mpr ⟨(by decide +kernel : ∀ w ∈ u_ws RX2 TX2 1, w ∈ lw_tbl) w hw, (by decide +kernel : ∀ w ∈ u_ws RX2 TX2 1, goodWord w = true) w hw⟩
set_option maxRecDepth 20000 in
theorem fw_X3 : eg_FW RX3 TX3 5 := fun w hw => List.mem_filter.mpr ⟨(by decide +kernel : ∀ w ∈ u_ws RX3 TX3 5, w ∈ lw_tbl) w hw, (by decide +kernel : ∀ w ∈ u_ws RX3 TX3 5, goodWord w = true) w hw⟩
set_option maxRecDepth 20000 in
theorem fw_X4 : eg_FW RX4 TX4 2 := fun w hw => List.mem_filter.mpr ⟨(by decide +kernel : ∀ w ∈ u_ws RX4 TX4 2, w ∈ lw_tbl) w hw, (by decide +kernel : ∀ w ∈ u_ws RX4 TX4 2, goodWord w = true) w hw⟩
set_option maxRecDepth 20000 in
theorem fw_X5 : eg_FW RX5 TX5 5 := fun w hw => List.mem_filter.mpr ⟨(by decide +kernel : ∀ w ∈ u_ws RX5 TX5 5, w ∈ lw_tbl) w hw, (by decide +kernel : ∀ w ∈ u_ws RX5 TX5 5, goodWord w = true) w hw⟩
set_option maxRecDepth 20000 in
theorem fw_X6 : eg_FW RX6 TX6 8 := fun w hw => List.mem_filter.mpr ⟨(by decide +kernel : ∀ w ∈ u_ws RX6 TX6 8, w ∈ lw_tbl) w hw, (by decide +kernel : ∀ w ∈ u_ws RX6 TX6 8, goodWord w = true) w hw⟩
set_option maxRecDepth 20000 in
theorem fw_X7 : eg_FW RX7 TX7 17 := fun w hw => List.mem_filter.mpr ⟨(by decide +kernel : ∀ w ∈ u_ws RX7 TX7 17, w ∈ lw_tbl) w hw, (by decide +kernel : ∀ w ∈ u_ws RX7 TX7 17, goodWord w = true) w hw⟩
theorem m_X6_init : eg_M yX6_init cX6_init 1 none 0 := ⟨tw_21, tw_1, by decide +kernel, by decide +kernel, by decide +kernel⟩
theorem k_X6_init : Cond.instanceMethod yX6_init ∈ eg_T ∧ yX6_init.name = "<init>" := ⟨tw_20, rfl⟩
theorem m_X5_init : eg_M yX5_init cX5_init 1 none 0 := ⟨tw_33, tw_2, by decide +kernel, by decide +kernel, by decide +kernel⟩
theorem k_X5_init : Cond.instanceMethod yX5_init ∈ eg_T ∧ yX5_init.name = "<init>" := ⟨tw_32, rfl⟩
theorem m_X2_init : eg_M yX2_init cX2_init 1 none 0 := ⟨tw_63, tw_3, by decide +kernel, by decide +kernel, by decide +kernel⟩
theorem k_X2_init : Cond.instanceMethod yX2_init ∈ eg_T ∧ yX2_init.name = "<init>" := ⟨tw_62, rfl⟩
theorem m_X6_halls : eg_M yX6_halls cX6_halls 1 (some .int) 0 := ⟨tw_98, tw_1, by decide +kernel, by decide +kernel, by decide +kernel⟩
theorem k_X6_halls : Cond.instanceMethod yX6_halls ∈ eg_T ∧ Cond.selects yX6_halls.cls yX6_halls yX6_halls ∈ eg_T := ⟨tw_96, tw_97⟩
theorem m_X6_standards : eg_M yX6_standards cX6_standards 1 (some .int) 0 := ⟨tw_102, tw_1, by decide +kernel, by decide +kernel, by decide +kernel⟩
theorem k_X6_standards : Cond.instanceMethod yX6_standards ∈ eg_T ∧ Cond.selects yX6_standards.cls yX6_standards yX6_standards ∈ eg_T := ⟨tw_100, tw_101⟩
theorem m_X6_day : eg_M yX6_day cX6_day 1 (some .int) 0 := ⟨tw_106, tw_1, by decide +kernel, by decide +kernel, by decide +kernel⟩
theorem k_X6_day : Cond.instanceMethod yX6_day ∈ eg_T ∧ Cond.selects yX6_day.cls yX6_day yX6_day ∈ eg_T := ⟨tw_104, tw_105⟩
theorem m_X6_inspections : eg_M yX6_inspections cX6_inspections 1 (some .int) 0 := ⟨tw_110, tw_1, by decide +kernel, by decide +kernel, by decide +kernel⟩
theorem k_X6_inspections : Cond.instanceMethod yX6_inspections ∈ eg_T ∧ Cond.selects yX6_inspections.cls yX6_inspections yX6_inspections ∈ eg_T := ⟨tw_108, tw_109⟩
theorem m_X6_certifiedHalls : eg_M yX6_certifiedHalls cX6_certifiedHalls 1 (some .int) 0 := ⟨tw_114, tw_1, by decide +kernel, by decide +kernel, by decide +kernel⟩
theorem k_X6_certifiedHalls : Cond.instanceMethod yX6_certifiedHalls ∈ eg_T ∧ Cond.selects yX6_certifiedHalls.cls yX6_certifiedHalls yX6_certifiedHalls ∈ eg_T := ⟨tw_112, tw_113⟩
theorem m_X6_countCertified : eg_M yX6_countCertified cX6_countCertified 6 (some .int) 0 := ⟨tw_118, tw_1, by decide +kernel, by decide +kernel, by decide +kernel⟩
theorem k_X6_countCertified : Cond.instanceMethod yX6_countCertified ∈ eg_T ∧ Cond.selects yX6_countCertified.cls yX6_countCertified yX6_countCertified ∈ eg_T := ⟨tw_117, tp_X6_countCertified⟩
theorem m_X0_hasCertificate : eg_M yX0_hasCertificate cX0_hasCertificate 1 (some .boolean) 0 := ⟨tw_123, tw_10, by decide +kernel, by decide +kernel, by decide +kernel⟩
theorem k_X0_hasCertificate : Cond.instanceMethod yX0_hasCertificate ∈ eg_T ∧ Cond.selects yX0_hasCertificate.cls yX0_hasCertificate yX0_hasCertificate ∈ eg_T := ⟨tw_121, tp_X0_hasCertificate⟩
theorem m_X6_meanDamping : eg_M yX6_meanDamping cX6_meanDamping 6 (some .double) 0 := ⟨tw_127, tw_1, by decide +kernel, by decide +kernel, by decide +kernel⟩
theorem k_X6_meanDamping : Cond.instanceMethod yX6_meanDamping ∈ eg_T ∧ Cond.selects yX6_meanDamping.cls yX6_meanDamping yX6_meanDamping ∈ eg_T := ⟨tw_125, tw_126⟩
theorem m_X6_digest : eg_M yX6_digest cX6_digest 7 (some .long) 0 := ⟨tw_131, tw_1, by decide +kernel, by decide +kernel, by decide +kernel⟩
theorem k_X6_digest : Cond.instanceMethod yX6_digest ∈ eg_T ∧ Cond.selects yX6_digest.cls yX6_digest yX6_digest ∈ eg_T := ⟨tw_129, tw_130⟩
theorem m_X6_mix : eg_M yX6_mix cX6_mix 3 (some .long) 2 := ⟨tw_135, tw_1, by decide +kernel, by decide +kernel, by decide +kernel⟩
theorem k_X6_mix : Cond.static yX6_mix ∈ eg_T := tw_134
theorem m_X6_mixHall : eg_M yX6_mixHall cX6_mixHall 9 (some .long) 2 := ⟨tw_139, tw_1, by decide +kernel, by decide +kernel, by decide +kernel⟩
theorem k_X6_mixHall : Cond.static yX6_mixHall ∈ eg_T := tw_138
theorem m_X4_hardnessUnder : eg_M yX4_hardnessUnder cX4_hardnessUnder 2 (some .int) 1 := ⟨tw_144, tw_12, by decide +kernel, by decide +kernel, by decide +kernel⟩
theorem k_X4_hardnessUnder : Cond.instanceMethod yX4_hardnessUnder ∈ eg_T ∧ Cond.selects yX4_hardnessUnder.cls yX4_hardnessUnder yX4_hardnessUnder ∈ eg_T := ⟨tw_142, tp_X4_hardnessUnder⟩
theorem m_X6_mixEchoes : eg_M yX6_mixEchoes cX6_mixEchoes 11 (some .long) 2 := ⟨tw_151, tw_1, by decide +kernel, by decide +kernel, by decide +kernel⟩
theorem k_X6_mixEchoes : Cond.instanceMethod yX6_mixEchoes ∈ eg_T ∧ Cond.selects yX6_mixEchoes.cls yX6_mixEchoes yX6_mixEchoes ∈ eg_T := ⟨tw_150, tp_X6_mixEchoes⟩
theorem m_X6_tallyOf : eg_M yX6_tallyOf cX6_tallyOf 4 (some (.object "EchoBureau$Tally")) 3 := ⟨tw_155, tw_1, by decide +kernel, by decide +kernel, by decide +kernel⟩
theorem k_X6_tallyOf : Cond.instanceMethod yX6_tallyOf ∈ eg_T ∧ Cond.selects yX6_tallyOf.cls yX6_tallyOf yX6_tallyOf ∈ eg_T := ⟨tw_154, tp_X6_tallyOf⟩
theorem m_X5_begin : eg_M yX5_begin cX5_begin 2 none 1 := ⟨tw_159, tw_2, by decide +kernel, by decide +kernel, by decide +kernel⟩
theorem k_X5_begin : Cond.instanceMethod yX5_begin ∈ eg_T ∧ Cond.selects yX5_begin.cls yX5_begin yX5_begin ∈ eg_T := ⟨tw_158, tp_X5_begin⟩
theorem m_X0_throwBack : eg_M yX0_throwBack cX0_throwBack 9 none 4 := ⟨tw_163, tw_10, by decide +kernel, by decide +kernel, by decide +kernel⟩
theorem k_X0_throwBack : Cond.instanceMethod yX0_throwBack ∈ eg_T ∧ Cond.selects yX0_throwBack.cls yX0_throwBack yX0_throwBack ∈ eg_T := ⟨tw_162, tp_X0_throwBack⟩
theorem m_X4_throwRow : eg_M yX4_throwRow cX4_throwRow 9 none 4 := ⟨tw_167, tw_12, by decide +kernel, by decide +kernel, by decide +kernel⟩
theorem k_X4_throwRow : Cond.instanceMethod yX4_throwRow ∈ eg_T ∧ Cond.selects yX4_throwRow.cls yX4_throwRow yX4_throwRow ∈ eg_T := ⟨tw_166, tp_X4_throwRow⟩
theorem m_X2_hear : eg_M yX2_hear cX2_hear 4 none 2 := ⟨tw_178, tw_3, by decide +kernel, by decide +kernel, by decide +kernel⟩
theorem k_X2_hear : Cond.instanceMethod yX2_hear ∈ eg_T ∧ Cond.selects yX2_hear.cls (⟨"EchoBureau$Listener", "hear", "(II)V"⟩ : MethodName) yX2_hear ∈ eg_T := ⟨tw_176, tw_174⟩
theorem m_X5_hear : eg_M yX5_hear cX5_hear 3 none 2 := ⟨tw_184, tw_2, by decide +kernel, by decide +kernel, by decide +kernel⟩
theorem k_X5_hear : Cond.instanceMethod yX5_hear ∈ eg_T ∧ Cond.selects yX5_hear.cls (⟨"EchoBureau$Listener", "hear", "(II)V"⟩ : MethodName) yX5_hear ∈ eg_T := ⟨tw_182, tw_180⟩
theorem m_X6_loudnessesOf : eg_M yX6_loudnessesOf cX6_loudnessesOf 3 (some (.object "EchoBureau$Loudnesses")) 2 := ⟨tw_188, tw_1, by decide +kernel, by decide +kernel, by decide +kernel⟩
theorem k_X6_loudnessesOf : Cond.instanceMethod yX6_loudnessesOf ∈ eg_T ∧ Cond.selects yX6_loudnessesOf.cls yX6_loudnessesOf yX6_loudnessesOf ∈ eg_T := ⟨tw_187, tp_X6_loudnessesOf⟩
theorem m_X2_begin : eg_M yX2_begin cX2_begin 1 none 0 := ⟨tw_192, tw_3, by decide +kernel, by decide +kernel, by decide +kernel⟩
theorem k_X2_begin : Cond.instanceMethod yX2_begin ∈ eg_T ∧ Cond.selects yX2_begin.cls yX2_begin yX2_begin ∈ eg_T := ⟨tw_191, tp_X2_begin⟩
theorem m_J7_fill_53178 : eg_M yJ7_fill_53178 cJ7_fill_53178 4 none 2 := ⟨tw_195, tw_16, by decide +kernel, by decide +kernel, by decide +kernel⟩
theorem k_J7_fill_53178 : Cond.static yJ7_fill_53178 ∈ eg_T := tw_194
theorem m_X2_momentOfMost : eg_M yX2_momentOfMost cX2_momentOfMost 4 (some .int) 0 := ⟨tw_199, tw_3, by decide +kernel, by decide +kernel, by decide +kernel⟩
theorem k_X2_momentOfMost : Cond.instanceMethod yX2_momentOfMost ∈ eg_T ∧ Cond.selects yX2_momentOfMost.cls yX2_momentOfMost yX2_momentOfMost ∈ eg_T := ⟨tw_198, tp_X2_momentOfMost⟩
theorem m_X6_meetsNow : eg_M yX6_meetsNow cX6_meetsNow 3 (some .boolean) 2 := ⟨tw_203, tw_1, by decide +kernel, by decide +kernel, by decide +kernel⟩
theorem k_X6_meetsNow : Cond.instanceMethod yX6_meetsNow ∈ eg_T ∧ Cond.selects yX6_meetsNow.cls yX6_meetsNow yX6_meetsNow ∈ eg_T := ⟨tw_202, tp_X6_meetsNow⟩
theorem m_X6_wouldMeet : eg_M yX6_wouldMeet cX6_wouldMeet 5 (some .boolean) 4 := ⟨tw_207, tw_1, by decide +kernel, by decide +kernel, by decide +kernel⟩
theorem k_X6_wouldMeet : Cond.instanceMethod yX6_wouldMeet ∈ eg_T ∧ Cond.selects yX6_wouldMeet.cls yX6_wouldMeet yX6_wouldMeet ∈ eg_T := ⟨tw_206, tp_X6_wouldMeet⟩
theorem m_X3_allows : eg_M yX3_allows cX3_allows 2 (some .boolean) 1 := ⟨tw_212, tw_13, by decide +kernel, by decide +kernel, by decide +kernel⟩
theorem k_X3_allows : Cond.instanceMethod yX3_allows ∈ eg_T ∧ Cond.selects yX3_allows.cls yX3_allows yX3_allows ∈ eg_T := ⟨tw_210, tp_X3_allows⟩
theorem m_L_addHall : eg_MH yL_addHall cL_addHall 4 (some .int) [(0, 9, 12, 13), (0, 9, 15, 15)] 3 := ⟨tw_215, tw_0, by decide +kernel, by decide +kernel, by decide +kernel⟩
theorem k_L_addHall : Cond.static yL_addHall ∈ eg_T := tw_214
theorem m_X6_addHall : eg_M yX6_addHall cX6_addHall 3 (some .int) 1 := ⟨tw_221, tw_1, by decide +kernel, by decide +kernel, by decide +kernel⟩
theorem k_X6_addHall : Cond.instanceMethod yX6_addHall ∈ eg_T ∧ Cond.selects yX6_addHall.cls yX6_addHall yX6_addHall ∈ eg_T := ⟨tw_219, tw_220⟩
theorem m_X6_checkDamping : eg_M yX6_checkDamping cX6_checkDamping 1 none 1 := ⟨tw_224, tw_1, by decide +kernel, by decide +kernel, by decide +kernel⟩
theorem k_X6_checkDamping : Cond.static yX6_checkDamping ∈ eg_T := tw_223
theorem m_X6_isWithin : eg_M yX6_isWithin cX6_isWithin 3 (some .boolean) 3 := ⟨tw_227, tw_1, by decide +kernel, by decide +kernel, by decide +kernel⟩
theorem k_X6_isWithin : Cond.static yX6_isWithin ∈ eg_T := tw_226
theorem m_X0_init : eg_M yX0_init cX0_init 2 none 1 := ⟨tw_314, tw_10, by decide +kernel, by decide +kernel, by decide +kernel⟩
theorem k_X0_init : Cond.instanceMethod yX0_init ∈ eg_T ∧ yX0_init.name = "<init>" := ⟨tw_313, rfl⟩
theorem m_L_addSurface : eg_MH yL_addSurface cL_addSurface 6 (some .int) [(0, 12, 15, 21), (0, 12, 19, 13), (0, 12, 23, 15)] 5 := ⟨tw_345, tw_0, by decide +kernel, by decide +kernel, by decide +kernel⟩
theorem k_L_addSurface : Cond.static yL_addSurface ∈ eg_T := tw_344
theorem m_X6_addSurface : eg_M yX6_addSurface cX6_addSurface 5 (some .int) 3 := ⟨tw_350, tw_1, by decide +kernel, by decide +kernel, by decide +kernel⟩
theorem k_X6_addSurface : Cond.instanceMethod yX6_addSurface ∈ eg_T ∧ Cond.selects yX6_addSurface.cls yX6_addSurface yX6_addSurface ∈ eg_T := ⟨tw_348, tw_349⟩
theorem m_X6_findHall : eg_M yX6_findHall cX6_findHall 3 (some (.object "EchoBureau$Hall")) 1 := ⟨tw_354, tw_1, by decide +kernel, by decide +kernel, by decide +kernel⟩
theorem k_X6_findHall : Cond.instanceMethod yX6_findHall ∈ eg_T ∧ Cond.selects yX6_findHall.cls yX6_findHall yX6_findHall ∈ eg_T := ⟨tw_353, tp_X6_findHall⟩
theorem m_X6_checkDistance : eg_M yX6_checkDistance cX6_checkDistance 1 none 1 := ⟨tw_374, tw_1, by decide +kernel, by decide +kernel, by decide +kernel⟩
theorem k_X6_checkDistance : Cond.static yX6_checkDistance ∈ eg_T := tw_373
theorem m_X0_isFull : eg_M yX0_isFull cX0_isFull 1 (some .boolean) 0 := ⟨tw_380, tw_10, by decide +kernel, by decide +kernel, by decide +kernel⟩
theorem k_X0_isFull : Cond.instanceMethod yX0_isFull ∈ eg_T ∧ Cond.selects yX0_isFull.cls yX0_isFull yX0_isFull ∈ eg_T := ⟨tw_379, tp_X0_isFull⟩
theorem m_X0_loseCertificate : eg_M yX0_loseCertificate cX0_loseCertificate 1 none 0 := ⟨tw_385, tw_10, by decide +kernel, by decide +kernel, by decide +kernel⟩
theorem k_X0_loseCertificate : Cond.instanceMethod yX0_loseCertificate ∈ eg_T ∧ Cond.selects yX0_loseCertificate.cls yX0_loseCertificate yX0_loseCertificate ∈ eg_T := ⟨tw_384, tp_X0_loseCertificate⟩
theorem m_X4_init : eg_M yX4_init cX4_init 3 none 2 := ⟨tw_389, tw_12, by decide +kernel, by decide +kernel, by decide +kernel⟩
theorem k_X4_init : Cond.instanceMethod yX4_init ∈ eg_T ∧ yX4_init.name = "<init>" := ⟨tw_388, rfl⟩
theorem m_X0_build : eg_M yX0_build cX0_build 3 (some .int) 1 := ⟨tw_402, tw_10, by decide +kernel, by decide +kernel, by decide +kernel⟩
theorem k_X0_build : Cond.instanceMethod yX0_build ∈ eg_T ∧ Cond.selects yX0_build.cls yX0_build yX0_build ∈ eg_T := ⟨tw_401, tp_X0_build⟩
theorem m_L_moveSurface : eg_MH yL_moveSurface cL_moveSurface 6 (some .int) [(0, 12, 15, 21), (0, 12, 19, 13)] 5 := ⟨tw_405, tw_0, by decide +kernel, by decide +kernel, by decide +kernel⟩
theorem k_L_moveSurface : Cond.static yL_moveSurface ∈ eg_T := tw_404
theorem m_X6_moveSurface : eg_M yX6_moveSurface cX6_moveSurface 7 (some .int) 3 := ⟨tw_409, tw_1, by decide +kernel, by decide +kernel, by decide +kernel⟩
theorem k_X6_moveSurface : Cond.instanceMethod yX6_moveSurface ∈ eg_T ∧ Cond.selects yX6_moveSurface.cls yX6_moveSurface yX6_moveSurface ∈ eg_T := ⟨tw_407, tw_408⟩
theorem m_X6_findSurface : eg_M yX6_findSurface cX6_findSurface 3 (some (.object "EchoBureau$Surface")) 2 := ⟨tw_412, tw_1, by decide +kernel, by decide +kernel, by decide +kernel⟩
theorem k_X6_findSurface : Cond.static yX6_findSurface ∈ eg_T := tw_411
theorem m_L_setDamping : eg_MH yL_setDamping cL_setDamping 5 (some .int) [(0, 10, 13, 21), (0, 10, 17, 13)] 4 := ⟨tw_417, tw_0, by decide +kernel, by decide +kernel, by decide +kernel⟩
theorem k_L_setDamping : Cond.static yL_setDamping ∈ eg_T := tw_416
theorem m_X6_setDamping : eg_M yX6_setDamping cX6_setDamping 5 (some .int) 2 := ⟨tw_421, tw_1, by decide +kernel, by decide +kernel, by decide +kernel⟩
theorem k_X6_setDamping : Cond.instanceMethod yX6_setDamping ∈ eg_T ∧ Cond.selects yX6_setDamping.cls yX6_setDamping yX6_setDamping ∈ eg_T := ⟨tw_419, tw_420⟩
theorem m_L_clean : eg_MH yL_clean cL_clean 4 (some .int) [(0, 9, 12, 21)] 3 := ⟨tw_424, tw_0, by decide +kernel, by decide +kernel, by decide +kernel⟩
theorem k_L_clean : Cond.static yL_clean ∈ eg_T := tw_423
theorem m_X6_clean : eg_M yX6_clean cX6_clean 4 (some .int) 1 := ⟨tw_428, tw_1, by decide +kernel, by decide +kernel, by decide +kernel⟩
theorem k_X6_clean : Cond.instanceMethod yX6_clean ∈ eg_T ∧ Cond.selects yX6_clean.cls yX6_clean yX6_clean ∈ eg_T := ⟨tw_426, tw_427⟩
theorem m_L_addStandard : eg_MH yL_addStandard cL_addStandard 8 (some .int) [(0, 16, 19, 13), (0, 16, 23, 15)] 7 := ⟨tw_431, tw_0, by decide +kernel, by decide +kernel, by decide +kernel⟩
theorem k_L_addStandard : Cond.static yL_addStandard ∈ eg_T := tw_430
theorem m_X6_addStandard : eg_M yX6_addStandard cX6_addStandard 8 (some .int) 5 := ⟨tw_435, tw_1, by decide +kernel, by decide +kernel, by decide +kernel⟩
theorem k_X6_addStandard : Cond.instanceMethod yX6_addStandard ∈ eg_T ∧ Cond.selects yX6_addStandard.cls yX6_addStandard yX6_addStandard ∈ eg_T := ⟨tw_433, tw_434⟩
theorem m_X3_init : eg_M yX3_init cX3_init 6 none 5 := ⟨tw_440, tw_13, by decide +kernel, by decide +kernel, by decide +kernel⟩
theorem k_X3_init : Cond.instanceMethod yX3_init ∈ eg_T ∧ yX3_init.name = "<init>" := ⟨tw_439, rfl⟩
theorem m_L_inspect : eg_MH yL_inspect cL_inspect 5 (some .int) [(0, 17, 20, 21)] 4 := ⟨tw_462, tw_0, by decide +kernel, by decide +kernel, by decide +kernel⟩
theorem k_L_inspect : Cond.static yL_inspect ∈ eg_T := tw_461
theorem m_X6_inspect : eg_M yX6_inspect cX6_inspect 6 (some .boolean) 2 := ⟨tw_466, tw_1, by decide +kernel, by decide +kernel, by decide +kernel⟩
theorem k_X6_inspect : Cond.instanceMethod yX6_inspect ∈ eg_T ∧ Cond.selects yX6_inspect.cls yX6_inspect yX6_inspect ∈ eg_T := ⟨tw_464, tw_465⟩
theorem m_X6_findStandard : eg_M yX6_findStandard cX6_findStandard 3 (some (.object "EchoBureau$Standard")) 1 := ⟨tw_470, tw_1, by decide +kernel, by decide +kernel, by decide +kernel⟩
theorem k_X6_findStandard : Cond.instanceMethod yX6_findStandard ∈ eg_T ∧ Cond.selects yX6_findStandard.cls yX6_findStandard yX6_findStandard ∈ eg_T := ⟨tw_469, tp_X6_findStandard⟩
theorem m_X0_takeCertificate : eg_M yX0_takeCertificate cX0_takeCertificate 3 none 2 := ⟨tw_476, tw_10, by decide +kernel, by decide +kernel, by decide +kernel⟩
theorem k_X0_takeCertificate : Cond.instanceMethod yX0_takeCertificate ∈ eg_T ∧ Cond.selects yX0_takeCertificate.cls yX0_takeCertificate yX0_takeCertificate ∈ eg_T := ⟨tw_475, tp_X0_takeCertificate⟩
theorem m_L_revoke : eg_MH yL_revoke cL_revoke 4 (some .int) [(0, 9, 12, 21), (0, 9, 15, 15)] 3 := ⟨tw_479, tw_0, by decide +kernel, by decide +kernel, by decide +kernel⟩
theorem k_L_revoke : Cond.static yL_revoke ∈ eg_T := tw_478
theorem m_X6_revoke : eg_M yX6_revoke cX6_revoke 4 (some .int) 1 := ⟨tw_483, tw_1, by decide +kernel, by decide +kernel, by decide +kernel⟩
theorem k_X6_revoke : Cond.instanceMethod yX6_revoke ∈ eg_T ∧ Cond.selects yX6_revoke.cls yX6_revoke yX6_revoke ∈ eg_T := ⟨tw_481, tw_482⟩
theorem m_X6_checkCertificate : eg_M yX6_checkCertificate cX6_checkCertificate 1 none 1 := ⟨tw_486, tw_1, by decide +kernel, by decide +kernel, by decide +kernel⟩
theorem k_X6_checkCertificate : Cond.static yX6_checkCertificate ∈ eg_T := tw_485
theorem m_L_passDays : eg_MH yL_passDays cL_passDays 4 (some .int) [(0, 9, 12, 13)] 3 := ⟨tw_490, tw_0, by decide +kernel, by decide +kernel, by decide +kernel⟩
theorem k_L_passDays : Cond.static yL_passDays ∈ eg_T := tw_489
theorem m_X6_passDays : eg_M yX6_passDays cX6_passDays 6 (some .int) 1 := ⟨tw_494, tw_1, by decide +kernel, by decide +kernel, by decide +kernel⟩
theorem k_X6_passDays : Cond.instanceMethod yX6_passDays ∈ eg_T ∧ Cond.selects yX6_passDays.cls yX6_passDays yX6_passDays ∈ eg_T := ⟨tw_492, tw_493⟩
theorem m_X0_growOlder : eg_M yX0_growOlder cX0_growOlder 2 none 1 := ⟨tw_499, tw_10, by decide +kernel, by decide +kernel, by decide +kernel⟩
theorem k_X0_growOlder : Cond.instanceMethod yX0_growOlder ∈ eg_T ∧ Cond.selects yX0_growOlder.cls yX0_growOlder yX0_growOlder ∈ eg_T := ⟨tw_498, tp_X0_growOlder⟩
theorem m_X0_dustBehind : eg_M yX0_dustBehind cX0_dustBehind 2 (some .int) 1 := ⟨tw_503, tw_10, by decide +kernel, by decide +kernel, by decide +kernel⟩
theorem k_X0_dustBehind : Cond.instanceMethod yX0_dustBehind ∈ eg_T ∧ Cond.selects yX0_dustBehind.cls yX0_dustBehind yX0_dustBehind ∈ eg_T := ⟨tw_502, tp_X0_dustBehind⟩
theorem m_L_surfacesOf : eg_MH yL_surfacesOf cL_surfacesOf 4 (some .int) [(0, 9, 12, 21)] 3 := ⟨tw_510, tw_0, by decide +kernel, by decide +kernel, by decide +kernel⟩
theorem k_L_surfacesOf : Cond.static yL_surfacesOf ∈ eg_T := tw_509
theorem m_X6_surfacesOf : eg_M yX6_surfacesOf cX6_surfacesOf 2 (some .int) 1 := ⟨tw_514, tw_1, by decide +kernel, by decide +kernel, by decide +kernel⟩
theorem k_X6_surfacesOf : Cond.instanceMethod yX6_surfacesOf ∈ eg_T ∧ Cond.selects yX6_surfacesOf.cls yX6_surfacesOf yX6_surfacesOf ∈ eg_T := ⟨tw_512, tw_513⟩
theorem m_L_distanceOf : eg_MH yL_distanceOf cL_distanceOf 5 (some .int) [(0, 10, 13, 21)] 4 := ⟨tw_517, tw_0, by decide +kernel, by decide +kernel, by decide +kernel⟩
theorem k_L_distanceOf : Cond.static yL_distanceOf ∈ eg_T := tw_516
theorem m_X6_distanceOf : eg_M yX6_distanceOf cX6_distanceOf 3 (some .int) 2 := ⟨tw_521, tw_1, by decide +kernel, by decide +kernel, by decide +kernel⟩
theorem k_X6_distanceOf : Cond.instanceMethod yX6_distanceOf ∈ eg_T ∧ Cond.selects yX6_distanceOf.cls yX6_distanceOf yX6_distanceOf ∈ eg_T := ⟨tw_519, tw_520⟩
theorem m_L_hardnessOf : eg_MH yL_hardnessOf cL_hardnessOf 5 (some .int) [(0, 10, 13, 21)] 4 := ⟨tw_524, tw_0, by decide +kernel, by decide +kernel, by decide +kernel⟩
theorem k_L_hardnessOf : Cond.static yL_hardnessOf ∈ eg_T := tw_523
theorem m_X6_hardnessOf : eg_M yX6_hardnessOf cX6_hardnessOf 4 (some .int) 2 := ⟨tw_528, tw_1, by decide +kernel, by decide +kernel, by decide +kernel⟩
theorem k_X6_hardnessOf : Cond.instanceMethod yX6_hardnessOf ∈ eg_T ∧ Cond.selects yX6_hardnessOf.cls yX6_hardnessOf yX6_hardnessOf ∈ eg_T := ⟨tw_526, tw_527⟩
theorem m_L_dampingOf : eg_MH yL_dampingOf cL_dampingOf 4 (some .int) [(0, 9, 12, 21)] 3 := ⟨tw_531, tw_0, by decide +kernel, by decide +kernel, by decide +kernel⟩
theorem k_L_dampingOf : Cond.static yL_dampingOf ∈ eg_T := tw_530
theorem m_X6_dampingOf : eg_M yX6_dampingOf cX6_dampingOf 2 (some .int) 1 := ⟨tw_535, tw_1, by decide +kernel, by decide +kernel, by decide +kernel⟩
theorem k_X6_dampingOf : Cond.instanceMethod yX6_dampingOf ∈ eg_T ∧ Cond.selects yX6_dampingOf.cls yX6_dampingOf yX6_dampingOf ∈ eg_T := ⟨tw_533, tw_534⟩
theorem m_L_dustOf : eg_MH yL_dustOf cL_dustOf 4 (some .int) [(0, 9, 12, 21)] 3 := ⟨tw_538, tw_0, by decide +kernel, by decide +kernel, by decide +kernel⟩
theorem k_L_dustOf : Cond.static yL_dustOf ∈ eg_T := tw_537
theorem m_X6_dustOf : eg_M yX6_dustOf cX6_dustOf 2 (some .int) 1 := ⟨tw_542, tw_1, by decide +kernel, by decide +kernel, by decide +kernel⟩
theorem k_X6_dustOf : Cond.instanceMethod yX6_dustOf ∈ eg_T ∧ Cond.selects yX6_dustOf.cls yX6_dustOf yX6_dustOf ∈ eg_T := ⟨tw_540, tw_541⟩
theorem m_L_echoes : eg_MH yL_echoes cL_echoes 5 (some .int) [(0, 10, 13, 21), (0, 10, 17, 13)] 4 := ⟨tw_545, tw_0, by decide +kernel, by decide +kernel, by decide +kernel⟩
theorem k_L_echoes : Cond.static yL_echoes ∈ eg_T := tw_544
theorem m_X6_echoes : eg_M yX6_echoes cX6_echoes 3 (some .int) 2 := ⟨tw_549, tw_1, by decide +kernel, by decide +kernel, by decide +kernel⟩
theorem k_X6_echoes : Cond.instanceMethod yX6_echoes ∈ eg_T ∧ Cond.selects yX6_echoes.cls yX6_echoes yX6_echoes ∈ eg_T := ⟨tw_547, tw_548⟩
theorem m_X6_tallyOfClick : eg_M yX6_tallyOfClick cX6_tallyOfClick 4 (some (.object "EchoBureau$Tally")) 2 := ⟨tw_553, tw_1, by decide +kernel, by decide +kernel, by decide +kernel⟩
theorem k_X6_tallyOfClick : Cond.instanceMethod yX6_tallyOfClick ∈ eg_T ∧ Cond.selects yX6_tallyOfClick.cls yX6_tallyOfClick yX6_tallyOfClick ∈ eg_T := ⟨tw_552, tp_X6_tallyOfClick⟩
theorem m_X6_checkLoudness : eg_M yX6_checkLoudness cX6_checkLoudness 1 none 1 := ⟨tw_556, tw_1, by decide +kernel, by decide +kernel, by decide +kernel⟩
theorem k_X6_checkLoudness : Cond.static yX6_checkLoudness ∈ eg_T := tw_555
theorem m_L_loudEchoes : eg_MH yL_loudEchoes cL_loudEchoes 6 (some .int) [(0, 12, 15, 21), (0, 12, 19, 13)] 5 := ⟨tw_560, tw_0, by decide +kernel, by decide +kernel, by decide +kernel⟩
theorem k_L_loudEchoes : Cond.static yL_loudEchoes ∈ eg_T := tw_559
theorem m_X6_loudEchoes : eg_M yX6_loudEchoes cX6_loudEchoes 5 (some .int) 3 := ⟨tw_564, tw_1, by decide +kernel, by decide +kernel, by decide +kernel⟩
theorem k_X6_loudEchoes : Cond.instanceMethod yX6_loudEchoes ∈ eg_T ∧ Cond.selects yX6_loudEchoes.cls yX6_loudEchoes yX6_loudEchoes ∈ eg_T := ⟨tw_562, tw_563⟩
theorem m_L_firstEcho : eg_MH yL_firstEcho cL_firstEcho 5 (some .int) [(0, 10, 13, 21), (0, 10, 17, 13)] 4 := ⟨tw_567, tw_0, by decide +kernel, by decide +kernel, by decide +kernel⟩
theorem k_L_firstEcho : Cond.static yL_firstEcho ∈ eg_T := tw_566
theorem m_X6_firstEcho : eg_M yX6_firstEcho cX6_firstEcho 3 (some .int) 2 := ⟨tw_571, tw_1, by decide +kernel, by decide +kernel, by decide +kernel⟩
theorem k_X6_firstEcho : Cond.instanceMethod yX6_firstEcho ∈ eg_T ∧ Cond.selects yX6_firstEcho.cls yX6_firstEcho yX6_firstEcho ∈ eg_T := ⟨tw_569, tw_570⟩
theorem m_L_lastEcho : eg_MH yL_lastEcho cL_lastEcho 5 (some .int) [(0, 10, 13, 21), (0, 10, 17, 13)] 4 := ⟨tw_574, tw_0, by decide +kernel, by decide +kernel, by decide +kernel⟩
theorem k_L_lastEcho : Cond.static yL_lastEcho ∈ eg_T := tw_573
theorem m_X6_lastEcho : eg_M yX6_lastEcho cX6_lastEcho 3 (some .int) 2 := ⟨tw_578, tw_1, by decide +kernel, by decide +kernel, by decide +kernel⟩
theorem k_X6_lastEcho : Cond.instanceMethod yX6_lastEcho ∈ eg_T ∧ Cond.selects yX6_lastEcho.cls yX6_lastEcho yX6_lastEcho ∈ eg_T := ⟨tw_576, tw_577⟩
theorem m_L_loudnessAt : eg_MH yL_loudnessAt cL_loudnessAt 6 (some .int) [(0, 12, 15, 21), (0, 12, 19, 13)] 5 := ⟨tw_581, tw_0, by decide +kernel, by decide +kernel, by decide +kernel⟩
theorem k_L_loudnessAt : Cond.static yL_loudnessAt ∈ eg_T := tw_580
theorem m_X6_loudnessAt : eg_M yX6_loudnessAt cX6_loudnessAt 5 (some .int) 3 := ⟨tw_585, tw_1, by decide +kernel, by decide +kernel, by decide +kernel⟩
theorem k_X6_loudnessAt : Cond.instanceMethod yX6_loudnessAt ∈ eg_T ∧ Cond.selects yX6_loudnessAt.cls yX6_loudnessAt yX6_loudnessAt ∈ eg_T := ⟨tw_583, tw_584⟩
theorem m_X2_addedAt : eg_M yX2_addedAt cX2_addedAt 4 (some .int) 1 := ⟨tw_590, tw_3, by decide +kernel, by decide +kernel, by decide +kernel⟩
theorem k_X2_addedAt : Cond.instanceMethod yX2_addedAt ∈ eg_T ∧ Cond.selects yX2_addedAt.cls yX2_addedAt yX2_addedAt ∈ eg_T := ⟨tw_589, tp_X2_addedAt⟩
theorem m_L_loudestMoment : eg_MH yL_loudestMoment cL_loudestMoment 5 (some .int) [(0, 10, 13, 21), (0, 10, 17, 13)] 4 := ⟨tw_593, tw_0, by decide +kernel, by decide +kernel, by decide +kernel⟩
theorem k_L_loudestMoment : Cond.static yL_loudestMoment ∈ eg_T := tw_592
theorem m_X6_loudestMoment : eg_M yX6_loudestMoment cX6_loudestMoment 4 (some .int) 2 := ⟨tw_597, tw_1, by decide +kernel, by decide +kernel, by decide +kernel⟩
theorem k_X6_loudestMoment : Cond.instanceMethod yX6_loudestMoment ∈ eg_T ∧ Cond.selects yX6_loudestMoment.cls yX6_loudestMoment yX6_loudestMoment ∈ eg_T := ⟨tw_595, tw_596⟩
theorem m_L_meets : eg_MH yL_meets cL_meets 5 (some .int) [(0, 17, 20, 21)] 4 := ⟨tw_600, tw_0, by decide +kernel, by decide +kernel, by decide +kernel⟩
theorem k_L_meets : Cond.static yL_meets ∈ eg_T := tw_599
theorem m_X6_meets : eg_M yX6_meets cX6_meets 4 (some .boolean) 2 := ⟨tw_604, tw_1, by decide +kernel, by decide +kernel, by decide +kernel⟩
theorem k_X6_meets : Cond.instanceMethod yX6_meets ∈ eg_T ∧ Cond.selects yX6_meets.cls yX6_meets yX6_meets ∈ eg_T := ⟨tw_602, tw_603⟩
theorem m_L_hallsMeeting : eg_MH yL_hallsMeeting cL_hallsMeeting 4 (some .int) [(0, 9, 12, 21)] 3 := ⟨tw_607, tw_0, by decide +kernel, by decide +kernel, by decide +kernel⟩
theorem k_L_hallsMeeting : Cond.static yL_hallsMeeting ∈ eg_T := tw_606
theorem m_X6_hallsMeeting : eg_M yX6_hallsMeeting cX6_hallsMeeting 8 (some .int) 1 := ⟨tw_611, tw_1, by decide +kernel, by decide +kernel, by decide +kernel⟩
theorem k_X6_hallsMeeting : Cond.instanceMethod yX6_hallsMeeting ∈ eg_T ∧ Cond.selects yX6_hallsMeeting.cls yX6_hallsMeeting yX6_hallsMeeting ∈ eg_T := ⟨tw_609, tw_610⟩
theorem m_L_isCertified : eg_MH yL_isCertified cL_isCertified 4 (some .int) [(0, 16, 19, 21)] 3 := ⟨tw_614, tw_0, by decide +kernel, by decide +kernel, by decide +kernel⟩
theorem k_L_isCertified : Cond.static yL_isCertified ∈ eg_T := tw_613
theorem m_X6_isCertified : eg_M yX6_isCertified cX6_isCertified 2 (some .boolean) 1 := ⟨tw_618, tw_1, by decide +kernel, by decide +kernel, by decide +kernel⟩
theorem k_X6_isCertified : Cond.instanceMethod yX6_isCertified ∈ eg_T ∧ Cond.selects yX6_isCertified.cls yX6_isCertified yX6_isCertified ∈ eg_T := ⟨tw_616, tw_617⟩
theorem m_L_certifiedBy : eg_MH yL_certifiedBy cL_certifiedBy 4 (some .int) [(0, 9, 12, 21), (0, 9, 15, 15)] 3 := ⟨tw_621, tw_0, by decide +kernel, by decide +kernel, by decide +kernel⟩
theorem k_L_certifiedBy : Cond.static yL_certifiedBy ∈ eg_T := tw_620
theorem m_X6_certifiedBy : eg_M yX6_certifiedBy cX6_certifiedBy 3 (some .int) 1 := ⟨tw_625, tw_1, by decide +kernel, by decide +kernel, by decide +kernel⟩
theorem k_X6_certifiedBy : Cond.instanceMethod yX6_certifiedBy ∈ eg_T ∧ Cond.selects yX6_certifiedBy.cls yX6_certifiedBy yX6_certifiedBy ∈ eg_T := ⟨tw_623, tw_624⟩
theorem m_L_daysLeft : eg_MH yL_daysLeft cL_daysLeft 4 (some .int) [(0, 9, 12, 21)] 3 := ⟨tw_628, tw_0, by decide +kernel, by decide +kernel, by decide +kernel⟩
theorem k_L_daysLeft : Cond.static yL_daysLeft ∈ eg_T := tw_627
theorem m_X6_daysLeft : eg_M yX6_daysLeft cX6_daysLeft 2 (some .int) 1 := ⟨tw_632, tw_1, by decide +kernel, by decide +kernel, by decide +kernel⟩
theorem k_X6_daysLeft : Cond.instanceMethod yX6_daysLeft ∈ eg_T ∧ Cond.selects yX6_daysLeft.cls yX6_daysLeft yX6_daysLeft ∈ eg_T := ⟨tw_630, tw_631⟩
theorem m_L_meetsWithDamping : eg_MH yL_meetsWithDamping cL_meetsWithDamping 6 (some .int) [(0, 19, 22, 21), (0, 19, 26, 13)] 5 := ⟨tw_635, tw_0, by decide +kernel, by decide +kernel, by decide +kernel⟩
theorem k_L_meetsWithDamping : Cond.static yL_meetsWithDamping ∈ eg_T := tw_634
theorem m_X6_meetsWithDamping : eg_M yX6_meetsWithDamping cX6_meetsWithDamping 6 (some .boolean) 3 := ⟨tw_639, tw_1, by decide +kernel, by decide +kernel, by decide +kernel⟩
theorem k_X6_meetsWithDamping : Cond.instanceMethod yX6_meetsWithDamping ∈ eg_T ∧ Cond.selects yX6_meetsWithDamping.cls yX6_meetsWithDamping yX6_meetsWithDamping ∈ eg_T := ⟨tw_637, tw_638⟩
theorem m_L_leastDamping : eg_MH yL_leastDamping cL_leastDamping 5 (some .int) [(0, 10, 13, 21)] 4 := ⟨tw_642, tw_0, by decide +kernel, by decide +kernel, by decide +kernel⟩
theorem k_L_leastDamping : Cond.static yL_leastDamping ∈ eg_T := tw_641
theorem m_X6_leastDamping : eg_M yX6_leastDamping cX6_leastDamping 6 (some .int) 2 := ⟨tw_646, tw_1, by decide +kernel, by decide +kernel, by decide +kernel⟩
theorem k_X6_leastDamping : Cond.instanceMethod yX6_leastDamping ∈ eg_T ∧ Cond.selects yX6_leastDamping.cls yX6_leastDamping yX6_leastDamping ∈ eg_T := ⟨tw_644, tw_645⟩
theorem m_L_daysUntilMet : eg_MH yL_daysUntilMet cL_daysUntilMet 5 (some .int) [(0, 10, 13, 21)] 4 := ⟨tw_649, tw_0, by decide +kernel, by decide +kernel, by decide +kernel⟩
theorem k_L_daysUntilMet : Cond.static yL_daysUntilMet ∈ eg_T := tw_648
theorem m_X6_daysUntilMet : eg_M yX6_daysUntilMet cX6_daysUntilMet 6 (some .int) 2 := ⟨tw_653, tw_1, by decide +kernel, by decide +kernel, by decide +kernel⟩
theorem k_X6_daysUntilMet : Cond.instanceMethod yX6_daysUntilMet ∈ eg_T ∧ Cond.selects yX6_daysUntilMet.cls yX6_daysUntilMet yX6_daysUntilMet ∈ eg_T := ⟨tw_651, tw_652⟩
theorem m_L_easiestHall : eg_MH yL_easiestHall cL_easiestHall 4 (some .int) [(0, 9, 12, 21)] 3 := ⟨tw_657, tw_0, by decide +kernel, by decide +kernel, by decide +kernel⟩
theorem k_L_easiestHall : Cond.static yL_easiestHall ∈ eg_T := tw_656
theorem m_X6_easiestHall : eg_M yX6_easiestHall cX6_easiestHall 6 (some .int) 1 := ⟨tw_661, tw_1, by decide +kernel, by decide +kernel, by decide +kernel⟩
theorem k_X6_easiestHall : Cond.instanceMethod yX6_easiestHall ∈ eg_T ∧ Cond.selects yX6_easiestHall.cls yX6_easiestHall yX6_easiestHall ∈ eg_T := ⟨tw_659, tw_660⟩
theorem m_X7_init : eg_M yX7_init cX7_init 1 none 0 := ⟨tw_666, tw_4, by decide +kernel, by decide +kernel, by decide +kernel⟩
theorem k_X7_init : Cond.instanceMethod yX7_init ∈ eg_T ∧ yX7_init.name = "<init>" := ⟨tw_665, rfl⟩
theorem m_X7_thrown : eg_M yX7_thrown cX7_thrown 1 (some .int) 0 := ⟨tw_723, tw_4, by decide +kernel, by decide +kernel, by decide +kernel⟩
theorem k_X7_thrown : Cond.instanceMethod yX7_thrown ∈ eg_T ∧ Cond.selects yX7_thrown.cls yX7_thrown yX7_thrown ∈ eg_T := ⟨tw_721, tw_722⟩
theorem m_X7_addHall : eg_M yX7_addHall cX7_addHall 2 (some .int) 1 := ⟨tw_727, tw_4, by decide +kernel, by decide +kernel, by decide +kernel⟩
theorem k_X7_addHall : Cond.instanceMethod yX7_addHall ∈ eg_T ∧ Cond.selects yX7_addHall.cls yX7_addHall yX7_addHall ∈ eg_T := ⟨tw_725, tw_726⟩
theorem m_X7_isIn : eg_M yX7_isIn cX7_isIn 3 (some .boolean) 3 := ⟨tw_730, tw_4, by decide +kernel, by decide +kernel, by decide +kernel⟩
theorem k_X7_isIn : Cond.static yX7_isIn ∈ eg_T := tw_729
theorem m_X7_fail : eg_M yX7_fail cX7_fail 2 (some .int) 1 := ⟨tw_734, tw_4, by decide +kernel, by decide +kernel, by decide +kernel⟩
theorem k_X7_fail : Cond.instanceMethod yX7_fail ∈ eg_T ∧ Cond.selects yX7_fail.cls yX7_fail yX7_fail ∈ eg_T := ⟨tw_733, tp_X7_fail⟩
theorem m_X7_addSurface : eg_M yX7_addSurface cX7_addSurface 4 (some .int) 3 := ⟨tw_738, tw_4, by decide +kernel, by decide +kernel, by decide +kernel⟩
theorem k_X7_addSurface : Cond.instanceMethod yX7_addSurface ∈ eg_T ∧ Cond.selects yX7_addSurface.cls yX7_addSurface yX7_addSurface ∈ eg_T := ⟨tw_736, tw_737⟩
theorem m_X7_isHall : eg_M yX7_isHall cX7_isHall 2 (some .boolean) 1 := ⟨tw_742, tw_4, by decide +kernel, by decide +kernel, by decide +kernel⟩
theorem k_X7_isHall : Cond.instanceMethod yX7_isHall ∈ eg_T ∧ Cond.selects yX7_isHall.cls yX7_isHall yX7_isHall ∈ eg_T := ⟨tw_741, tp_X7_isHall⟩
theorem m_X7_strike : eg_M yX7_strike cX7_strike 2 none 1 := ⟨tw_746, tw_4, by decide +kernel, by decide +kernel, by decide +kernel⟩
theorem k_X7_strike : Cond.instanceMethod yX7_strike ∈ eg_T ∧ Cond.selects yX7_strike.cls yX7_strike yX7_strike ∈ eg_T := ⟨tw_745, tp_X7_strike⟩
theorem m_X7_moveSurface : eg_M yX7_moveSurface cX7_moveSurface 5 (some .int) 3 := ⟨tw_750, tw_4, by decide +kernel, by decide +kernel, by decide +kernel⟩
theorem k_X7_moveSurface : Cond.instanceMethod yX7_moveSurface ∈ eg_T ∧ Cond.selects yX7_moveSurface.cls yX7_moveSurface yX7_moveSurface ∈ eg_T := ⟨tw_748, tw_749⟩
theorem m_X7_isSurface : eg_M yX7_isSurface cX7_isSurface 3 (some .boolean) 2 := ⟨tw_754, tw_4, by decide +kernel, by decide +kernel, by decide +kernel⟩
theorem k_X7_isSurface : Cond.instanceMethod yX7_isSurface ∈ eg_T ∧ Cond.selects yX7_isSurface.cls yX7_isSurface yX7_isSurface ∈ eg_T := ⟨tw_753, tp_X7_isSurface⟩
theorem m_X7_setDamping : eg_M yX7_setDamping cX7_setDamping 4 (some .int) 2 := ⟨tw_758, tw_4, by decide +kernel, by decide +kernel, by decide +kernel⟩
theorem k_X7_setDamping : Cond.instanceMethod yX7_setDamping ∈ eg_T ∧ Cond.selects yX7_setDamping.cls yX7_setDamping yX7_setDamping ∈ eg_T := ⟨tw_756, tw_757⟩
theorem m_X7_clean : eg_M yX7_clean cX7_clean 3 (some .int) 1 := ⟨tw_762, tw_4, by decide +kernel, by decide +kernel, by decide +kernel⟩
theorem k_X7_clean : Cond.instanceMethod yX7_clean ∈ eg_T ∧ Cond.selects yX7_clean.cls yX7_clean yX7_clean ∈ eg_T := ⟨tw_760, tw_761⟩
theorem m_X7_addStandard : eg_M yX7_addStandard cX7_addStandard 7 (some .int) 5 := ⟨tw_766, tw_4, by decide +kernel, by decide +kernel, by decide +kernel⟩
theorem k_X7_addStandard : Cond.instanceMethod yX7_addStandard ∈ eg_T ∧ Cond.selects yX7_addStandard.cls yX7_addStandard yX7_addStandard ∈ eg_T := ⟨tw_764, tw_765⟩
theorem m_X7_inspect : eg_M yX7_inspect cX7_inspect 4 (some .boolean) 2 := ⟨tw_773, tw_4, by decide +kernel, by decide +kernel, by decide +kernel⟩
theorem k_X7_inspect : Cond.instanceMethod yX7_inspect ∈ eg_T ∧ Cond.selects yX7_inspect.cls yX7_inspect yX7_inspect ∈ eg_T := ⟨tw_771, tw_772⟩
theorem m_X7_isPair : eg_M yX7_isPair cX7_isPair 3 (some .boolean) 2 := ⟨tw_777, tw_4, by decide +kernel, by decide +kernel, by decide +kernel⟩
theorem k_X7_isPair : Cond.instanceMethod yX7_isPair ∈ eg_T ∧ Cond.selects yX7_isPair.cls yX7_isPair yX7_isPair ∈ eg_T := ⟨tw_776, tp_X7_isPair⟩
theorem m_X7_isStandard : eg_M yX7_isStandard cX7_isStandard 2 (some .boolean) 1 := ⟨tw_781, tw_4, by decide +kernel, by decide +kernel, by decide +kernel⟩
theorem k_X7_isStandard : Cond.instanceMethod yX7_isStandard ∈ eg_T ∧ Cond.selects yX7_isStandard.cls yX7_isStandard yX7_isStandard ∈ eg_T := ⟨tw_780, tp_X7_isStandard⟩
theorem m_X7_meetsNow : eg_M yX7_meetsNow cX7_meetsNow 3 (some .boolean) 2 := ⟨tw_785, tw_4, by decide +kernel, by decide +kernel, by decide +kernel⟩
theorem k_X7_meetsNow : Cond.instanceMethod yX7_meetsNow ∈ eg_T ∧ Cond.selects yX7_meetsNow.cls yX7_meetsNow yX7_meetsNow ∈ eg_T := ⟨tw_784, tp_X7_meetsNow⟩
theorem m_X7_meets : eg_M yX7_meets cX7_meets 5 (some .boolean) 4 := ⟨tw_789, tw_4, by decide +kernel, by decide +kernel, by decide +kernel⟩
theorem k_X7_meets : Cond.instanceMethod yX7_meets ∈ eg_T ∧ Cond.selects yX7_meets.cls yX7_meets yX7_meets ∈ eg_T := ⟨tw_788, tp_X7_meets⟩
theorem m_X7_click : eg_M yX7_click cX7_click 10 none 4 := ⟨tw_793, tw_4, by decide +kernel, by decide +kernel, by decide +kernel⟩
theorem k_X7_click : Cond.instanceMethod yX7_click ∈ eg_T ∧ Cond.selects yX7_click.cls yX7_click yX7_click ∈ eg_T := ⟨tw_792, tp_X7_click⟩
theorem m_X7_hard : eg_M yX7_hard cX7_hard 4 (some .int) 3 := ⟨tw_797, tw_4, by decide +kernel, by decide +kernel, by decide +kernel⟩
theorem k_X7_hard : Cond.instanceMethod yX7_hard ∈ eg_T ∧ Cond.selects yX7_hard.cls yX7_hard yX7_hard ∈ eg_T := ⟨tw_796, tp_X7_hard⟩
theorem m_X7_all : eg_M yX7_all cX7_all 3 (some .int) 0 := ⟨tw_802, tw_4, by decide +kernel, by decide +kernel, by decide +kernel⟩
theorem k_X7_all : Cond.instanceMethod yX7_all ∈ eg_T ∧ Cond.selects yX7_all.cls yX7_all yX7_all ∈ eg_T := ⟨tw_801, tp_X7_all⟩
theorem m_X7_first : eg_M yX7_first cX7_first 3 (some .int) 0 := ⟨tw_806, tw_4, by decide +kernel, by decide +kernel, by decide +kernel⟩
theorem k_X7_first : Cond.instanceMethod yX7_first ∈ eg_T ∧ Cond.selects yX7_first.cls yX7_first yX7_first ∈ eg_T := ⟨tw_805, tp_X7_first⟩
theorem m_X7_rule : eg_M yX7_rule cX7_rule 3 (some .int) 2 := ⟨tw_810, tw_4, by decide +kernel, by decide +kernel, by decide +kernel⟩
theorem k_X7_rule : Cond.instanceMethod yX7_rule ∈ eg_T ∧ Cond.selects yX7_rule.cls yX7_rule yX7_rule ∈ eg_T := ⟨tw_809, tp_X7_rule⟩
theorem m_X7_last : eg_M yX7_last cX7_last 3 (some .int) 0 := ⟨tw_814, tw_4, by decide +kernel, by decide +kernel, by decide +kernel⟩
theorem k_X7_last : Cond.instanceMethod yX7_last ∈ eg_T ∧ Cond.selects yX7_last.cls yX7_last yX7_last ∈ eg_T := ⟨tw_813, tp_X7_last⟩
theorem m_X7_louder : eg_M yX7_louder cX7_louder 5 (some .int) 1 := ⟨tw_818, tw_4, by decide +kernel, by decide +kernel, by decide +kernel⟩
theorem k_X7_louder : Cond.instanceMethod yX7_louder ∈ eg_T ∧ Cond.selects yX7_louder.cls yX7_louder yX7_louder ∈ eg_T := ⟨tw_817, tp_X7_louder⟩
theorem m_X7_revoke : eg_M yX7_revoke cX7_revoke 3 (some .int) 1 := ⟨tw_822, tw_4, by decide +kernel, by decide +kernel, by decide +kernel⟩
theorem k_X7_revoke : Cond.instanceMethod yX7_revoke ∈ eg_T ∧ Cond.selects yX7_revoke.cls yX7_revoke yX7_revoke ∈ eg_T := ⟨tw_820, tw_821⟩
theorem m_X7_passDays : eg_M yX7_passDays cX7_passDays 3 (some .int) 1 := ⟨tw_826, tw_4, by decide +kernel, by decide +kernel, by decide +kernel⟩
theorem k_X7_passDays : Cond.instanceMethod yX7_passDays ∈ eg_T ∧ Cond.selects yX7_passDays.cls yX7_passDays yX7_passDays ∈ eg_T := ⟨tw_824, tw_825⟩
theorem m_X7_certified : eg_M yX7_certified cX7_certified 3 (some .int) 0 := ⟨tw_831, tw_4, by decide +kernel, by decide +kernel, by decide +kernel⟩
theorem k_X7_certified : Cond.instanceMethod yX7_certified ∈ eg_T ∧ Cond.selects yX7_certified.cls yX7_certified yX7_certified ∈ eg_T := ⟨tw_830, tp_X7_certified⟩
theorem m_X7_surfacesOf : eg_M yX7_surfacesOf cX7_surfacesOf 2 (some .int) 1 := ⟨tw_835, tw_4, by decide +kernel, by decide +kernel, by decide +kernel⟩
theorem k_X7_surfacesOf : Cond.instanceMethod yX7_surfacesOf ∈ eg_T ∧ Cond.selects yX7_surfacesOf.cls yX7_surfacesOf yX7_surfacesOf ∈ eg_T := ⟨tw_833, tw_834⟩
theorem m_X7_distanceOf : eg_M yX7_distanceOf cX7_distanceOf 3 (some .int) 2 := ⟨tw_839, tw_4, by decide +kernel, by decide +kernel, by decide +kernel⟩
theorem k_X7_distanceOf : Cond.instanceMethod yX7_distanceOf ∈ eg_T ∧ Cond.selects yX7_distanceOf.cls yX7_distanceOf yX7_distanceOf ∈ eg_T := ⟨tw_837, tw_838⟩
theorem m_X7_hardnessOf : eg_M yX7_hardnessOf cX7_hardnessOf 3 (some .int) 2 := ⟨tw_843, tw_4, by decide +kernel, by decide +kernel, by decide +kernel⟩
theorem k_X7_hardnessOf : Cond.instanceMethod yX7_hardnessOf ∈ eg_T ∧ Cond.selects yX7_hardnessOf.cls yX7_hardnessOf yX7_hardnessOf ∈ eg_T := ⟨tw_841, tw_842⟩
theorem m_X7_dampingOf : eg_M yX7_dampingOf cX7_dampingOf 2 (some .int) 1 := ⟨tw_847, tw_4, by decide +kernel, by decide +kernel, by decide +kernel⟩
theorem k_X7_dampingOf : Cond.instanceMethod yX7_dampingOf ∈ eg_T ∧ Cond.selects yX7_dampingOf.cls yX7_dampingOf yX7_dampingOf ∈ eg_T := ⟨tw_845, tw_846⟩
theorem m_X7_dustOf : eg_M yX7_dustOf cX7_dustOf 2 (some .int) 1 := ⟨tw_851, tw_4, by decide +kernel, by decide +kernel, by decide +kernel⟩
theorem k_X7_dustOf : Cond.instanceMethod yX7_dustOf ∈ eg_T ∧ Cond.selects yX7_dustOf.cls yX7_dustOf yX7_dustOf ∈ eg_T := ⟨tw_849, tw_850⟩
theorem m_X7_echoes : eg_M yX7_echoes cX7_echoes 3 (some .int) 2 := ⟨tw_855, tw_4, by decide +kernel, by decide +kernel, by decide +kernel⟩
theorem k_X7_echoes : Cond.instanceMethod yX7_echoes ∈ eg_T ∧ Cond.selects yX7_echoes.cls yX7_echoes yX7_echoes ∈ eg_T := ⟨tw_853, tw_854⟩
theorem m_X7_isClick : eg_M yX7_isClick cX7_isClick 4 (some .boolean) 3 := ⟨tw_859, tw_4, by decide +kernel, by decide +kernel, by decide +kernel⟩
theorem k_X7_isClick : Cond.instanceMethod yX7_isClick ∈ eg_T ∧ Cond.selects yX7_isClick.cls yX7_isClick yX7_isClick ∈ eg_T := ⟨tw_858, tp_X7_isClick⟩
theorem m_X7_clickNow : eg_M yX7_clickNow cX7_clickNow 3 none 2 := ⟨tw_863, tw_4, by decide +kernel, by decide +kernel, by decide +kernel⟩
theorem k_X7_clickNow : Cond.instanceMethod yX7_clickNow ∈ eg_T ∧ Cond.selects yX7_clickNow.cls yX7_clickNow yX7_clickNow ∈ eg_T := ⟨tw_862, tp_X7_clickNow⟩
theorem m_X7_loudEchoes : eg_M yX7_loudEchoes cX7_loudEchoes 4 (some .int) 3 := ⟨tw_867, tw_4, by decide +kernel, by decide +kernel, by decide +kernel⟩
theorem k_X7_loudEchoes : Cond.instanceMethod yX7_loudEchoes ∈ eg_T ∧ Cond.selects yX7_loudEchoes.cls yX7_loudEchoes yX7_loudEchoes ∈ eg_T := ⟨tw_865, tw_866⟩
theorem m_X7_firstEcho : eg_M yX7_firstEcho cX7_firstEcho 3 (some .int) 2 := ⟨tw_871, tw_4, by decide +kernel, by decide +kernel, by decide +kernel⟩
theorem k_X7_firstEcho : Cond.instanceMethod yX7_firstEcho ∈ eg_T ∧ Cond.selects yX7_firstEcho.cls yX7_firstEcho yX7_firstEcho ∈ eg_T := ⟨tw_869, tw_870⟩
theorem m_X7_lastEcho : eg_M yX7_lastEcho cX7_lastEcho 3 (some .int) 2 := ⟨tw_875, tw_4, by decide +kernel, by decide +kernel, by decide +kernel⟩
theorem k_X7_lastEcho : Cond.instanceMethod yX7_lastEcho ∈ eg_T ∧ Cond.selects yX7_lastEcho.cls yX7_lastEcho yX7_lastEcho ∈ eg_T := ⟨tw_873, tw_874⟩
theorem m_X7_loudnessAt : eg_M yX7_loudnessAt cX7_loudnessAt 4 (some .int) 3 := ⟨tw_879, tw_4, by decide +kernel, by decide +kernel, by decide +kernel⟩
theorem k_X7_loudnessAt : Cond.instanceMethod yX7_loudnessAt ∈ eg_T ∧ Cond.selects yX7_loudnessAt.cls yX7_loudnessAt yX7_loudnessAt ∈ eg_T := ⟨tw_877, tw_878⟩
theorem m_X7_at : eg_M yX7_at cX7_at 5 (some .int) 1 := ⟨tw_883, tw_4, by decide +kernel, by decide +kernel, by decide +kernel⟩
theorem k_X7_at : Cond.instanceMethod yX7_at ∈ eg_T ∧ Cond.selects yX7_at.cls yX7_at yX7_at ∈ eg_T := ⟨tw_882, tp_X7_at⟩
theorem m_X7_loudestMoment : eg_M yX7_loudestMoment cX7_loudestMoment 3 (some .int) 2 := ⟨tw_887, tw_4, by decide +kernel, by decide +kernel, by decide +kernel⟩
theorem k_X7_loudestMoment : Cond.instanceMethod yX7_loudestMoment ∈ eg_T ∧ Cond.selects yX7_loudestMoment.cls yX7_loudestMoment yX7_loudestMoment ∈ eg_T := ⟨tw_885, tw_886⟩
theorem m_X7_loudest : eg_M yX7_loudest cX7_loudest 7 (some .int) 0 := ⟨tw_891, tw_4, by decide +kernel, by decide +kernel, by decide +kernel⟩
theorem k_X7_loudest : Cond.instanceMethod yX7_loudest ∈ eg_T ∧ Cond.selects yX7_loudest.cls yX7_loudest yX7_loudest ∈ eg_T := ⟨tw_890, tp_X7_loudest⟩
theorem m_X7_meets_ : eg_M yX7_meets_ cX7_meets_ 3 (some .boolean) 2 := ⟨tw_895, tw_4, by decide +kernel, by decide +kernel, by decide +kernel⟩
theorem k_X7_meets_ : Cond.instanceMethod yX7_meets_ ∈ eg_T ∧ Cond.selects yX7_meets_.cls yX7_meets_ yX7_meets_ ∈ eg_T := ⟨tw_893, tw_894⟩
theorem m_X7_hallsMeeting : eg_M yX7_hallsMeeting cX7_hallsMeeting 4 (some .int) 1 := ⟨tw_899, tw_4, by decide +kernel, by decide +kernel, by decide +kernel⟩
theorem k_X7_hallsMeeting : Cond.instanceMethod yX7_hallsMeeting ∈ eg_T ∧ Cond.selects yX7_hallsMeeting.cls yX7_hallsMeeting yX7_hallsMeeting ∈ eg_T := ⟨tw_897, tw_898⟩
theorem m_X7_isCertified : eg_M yX7_isCertified cX7_isCertified 2 (some .boolean) 1 := ⟨tw_903, tw_4, by decide +kernel, by decide +kernel, by decide +kernel⟩
theorem k_X7_isCertified : Cond.instanceMethod yX7_isCertified ∈ eg_T ∧ Cond.selects yX7_isCertified.cls yX7_isCertified yX7_isCertified ∈ eg_T := ⟨tw_901, tw_902⟩
theorem m_X7_failed : eg_M yX7_failed cX7_failed 2 (some .boolean) 1 := ⟨tw_907, tw_4, by decide +kernel, by decide +kernel, by decide +kernel⟩
theorem k_X7_failed : Cond.instanceMethod yX7_failed ∈ eg_T ∧ Cond.selects yX7_failed.cls yX7_failed yX7_failed ∈ eg_T := ⟨tw_906, tp_X7_failed⟩
theorem m_X7_certifiedBy : eg_M yX7_certifiedBy cX7_certifiedBy 2 (some .int) 1 := ⟨tw_911, tw_4, by decide +kernel, by decide +kernel, by decide +kernel⟩
theorem k_X7_certifiedBy : Cond.instanceMethod yX7_certifiedBy ∈ eg_T ∧ Cond.selects yX7_certifiedBy.cls yX7_certifiedBy yX7_certifiedBy ∈ eg_T := ⟨tw_909, tw_910⟩
theorem m_X7_daysLeft : eg_M yX7_daysLeft cX7_daysLeft 2 (some .int) 1 := ⟨tw_915, tw_4, by decide +kernel, by decide +kernel, by decide +kernel⟩
theorem k_X7_daysLeft : Cond.instanceMethod yX7_daysLeft ∈ eg_T ∧ Cond.selects yX7_daysLeft.cls yX7_daysLeft yX7_daysLeft ∈ eg_T := ⟨tw_913, tw_914⟩
theorem m_X7_halls : eg_M yX7_halls cX7_halls 1 (some .int) 0 := ⟨tw_919, tw_4, by decide +kernel, by decide +kernel, by decide +kernel⟩
theorem k_X7_halls : Cond.instanceMethod yX7_halls ∈ eg_T ∧ Cond.selects yX7_halls.cls yX7_halls yX7_halls ∈ eg_T := ⟨tw_917, tw_918⟩
theorem m_X7_standards : eg_M yX7_standards cX7_standards 1 (some .int) 0 := ⟨tw_923, tw_4, by decide +kernel, by decide +kernel, by decide +kernel⟩
theorem k_X7_standards : Cond.instanceMethod yX7_standards ∈ eg_T ∧ Cond.selects yX7_standards.cls yX7_standards yX7_standards ∈ eg_T := ⟨tw_921, tw_922⟩
theorem m_X7_day : eg_M yX7_day cX7_day 1 (some .int) 0 := ⟨tw_927, tw_4, by decide +kernel, by decide +kernel, by decide +kernel⟩
theorem k_X7_day : Cond.instanceMethod yX7_day ∈ eg_T ∧ Cond.selects yX7_day.cls yX7_day yX7_day ∈ eg_T := ⟨tw_925, tw_926⟩
theorem m_X7_inspections : eg_M yX7_inspections cX7_inspections 1 (some .int) 0 := ⟨tw_931, tw_4, by decide +kernel, by decide +kernel, by decide +kernel⟩
theorem k_X7_inspections : Cond.instanceMethod yX7_inspections ∈ eg_T ∧ Cond.selects yX7_inspections.cls yX7_inspections yX7_inspections ∈ eg_T := ⟨tw_929, tw_930⟩
theorem m_X7_certifiedHalls : eg_M yX7_certifiedHalls cX7_certifiedHalls 1 (some .int) 0 := ⟨tw_935, tw_4, by decide +kernel, by decide +kernel, by decide +kernel⟩
theorem k_X7_certifiedHalls : Cond.instanceMethod yX7_certifiedHalls ∈ eg_T ∧ Cond.selects yX7_certifiedHalls.cls yX7_certifiedHalls yX7_certifiedHalls ∈ eg_T := ⟨tw_933, tw_934⟩
theorem m_X7_meetsWithDamping : eg_M yX7_meetsWithDamping cX7_meetsWithDamping 4 (some .boolean) 3 := ⟨tw_939, tw_4, by decide +kernel, by decide +kernel, by decide +kernel⟩
theorem k_X7_meetsWithDamping : Cond.instanceMethod yX7_meetsWithDamping ∈ eg_T ∧ Cond.selects yX7_meetsWithDamping.cls yX7_meetsWithDamping yX7_meetsWithDamping ∈ eg_T := ⟨tw_937, tw_938⟩
theorem m_X7_leastDamping : eg_M yX7_leastDamping cX7_leastDamping 3 (some .int) 2 := ⟨tw_943, tw_4, by decide +kernel, by decide +kernel, by decide +kernel⟩
theorem k_X7_leastDamping : Cond.instanceMethod yX7_leastDamping ∈ eg_T ∧ Cond.selects yX7_leastDamping.cls yX7_leastDamping yX7_leastDamping ∈ eg_T := ⟨tw_941, tw_942⟩
theorem m_X7_least : eg_M yX7_least cX7_least 4 (some .int) 2 := ⟨tw_947, tw_4, by decide +kernel, by decide +kernel, by decide +kernel⟩
theorem k_X7_least : Cond.instanceMethod yX7_least ∈ eg_T ∧ Cond.selects yX7_least.cls yX7_least yX7_least ∈ eg_T := ⟨tw_946, tp_X7_least⟩
theorem m_X7_daysUntilMet : eg_M yX7_daysUntilMet cX7_daysUntilMet 4 (some .int) 2 := ⟨tw_951, tw_4, by decide +kernel, by decide +kernel, by decide +kernel⟩
theorem k_X7_daysUntilMet : Cond.instanceMethod yX7_daysUntilMet ∈ eg_T ∧ Cond.selects yX7_daysUntilMet.cls yX7_daysUntilMet yX7_daysUntilMet ∈ eg_T := ⟨tw_949, tw_950⟩
theorem m_X7_easiestHall : eg_M yX7_easiestHall cX7_easiestHall 6 (some .int) 1 := ⟨tw_955, tw_4, by decide +kernel, by decide +kernel, by decide +kernel⟩
theorem k_X7_easiestHall : Cond.instanceMethod yX7_easiestHall ∈ eg_T ∧ Cond.selects yX7_easiestHall.cls yX7_easiestHall yX7_easiestHall ∈ eg_T := ⟨tw_953, tw_954⟩
theorem m_X7_meanDamping : eg_M yX7_meanDamping cX7_meanDamping 3 (some .double) 0 := ⟨tw_959, tw_4, by decide +kernel, by decide +kernel, by decide +kernel⟩
theorem k_X7_meanDamping : Cond.instanceMethod yX7_meanDamping ∈ eg_T ∧ Cond.selects yX7_meanDamping.cls yX7_meanDamping yX7_meanDamping ∈ eg_T := ⟨tw_957, tw_958⟩
theorem m_X7_digest : eg_M yX7_digest cX7_digest 10 (some .long) 0 := ⟨tw_963, tw_4, by decide +kernel, by decide +kernel, by decide +kernel⟩
theorem k_X7_digest : Cond.instanceMethod yX7_digest ∈ eg_T ∧ Cond.selects yX7_digest.cls yX7_digest yX7_digest ∈ eg_T := ⟨tw_961, tw_962⟩
end
section
theorem dX0_init_0 : decode cX0_init 0 = .ok (.aload_n 0, 1) := by decide +kernel
theorem dX0_init_1 : decode cX0_init 1 = .ok (.invokespecial 3, 3) := by decide +kernel
theorem dX0_init_4 : decode cX0_init 4 = .ok (.aload_n 0, 1) := by decide +kernel
theorem dX0_init_5 : decode cX0_init 5 = .ok (.bipush 6, 2) := by decide +kernel
theorem dX0_init_7 : decode cX0_init 7 = .ok (.anewarray 9, 3) := by decide +kernel
theorem dX0_init_10 : decode cX0_init 10 = .ok (.putfield 11, 3) := by decide +kernel
theorem dX0_init_13 : decode cX0_init 13 = .ok (.aload_n 0, 1) := by decide +kernel
theorem dX0_init_14 : decode cX0_init 14 = .ok (.iconst (-1), 1) := by decide +kernel
theorem dX0_init_15 : decode cX0_init 15 = .ok (.putfield 17, 3) := by decide +kernel
theorem dX0_init_18 : decode cX0_init 18 = .ok (.aload_n 0, 1) := by decide +kernel
theorem dX0_init_19 : decode cX0_init 19 = .ok (.iload_n 1, 1) := by decide +kernel
theorem dX0_init_20 : decode cX0_init 20 = .ok (.putfield 21, 3) := by decide +kernel
theorem dX0_init_23 : decode cX0_init 23 = .ok (.return_, 1) := by decide +kernel
theorem dX0_isFull_0 : decode cX0_isFull 0 = .ok (.aload_n 0, 1) := by decide +kernel
theorem dX0_isFull_1 : decode cX0_isFull 1 = .ok (.getfield 24, 3) := by decide +kernel
theorem dX0_isFull_4 : decode cX0_isFull 4 = .ok (.aload_n 0, 1) := by decide +kernel
theorem dX0_isFull_5 : decode cX0_isFull 5 = .ok (.getfield 11, 3) := by decide +kernel
theorem dX0_isFull_8 : decode cX0_isFull 8 = .ok (.arraylength, 1) := by decide +kernel
theorem dX0_isFull_9 : decode cX0_isFull 9 = .ok (.if_icmp .lt 7, 3) := by decide +kernel
theorem dX0_isFull_12 : decode cX0_isFull 12 = .ok (.iconst 1, 1) := by decide +kernel
theorem dX0_isFull_13 : decode cX0_isFull 13 = .ok (.goto 4, 3) := by decide +kernel
theorem dX0_isFull_16 : decode cX0_isFull 16 = .ok (.iconst 0, 1) := by decide +kernel
theorem dX0_isFull_17 : decode cX0_isFull 17 = .ok (.ireturn, 1) := by decide +kernel
theorem dX0_build_0 : decode cX0_build 0 = .ok (.aload_n 0, 1) := by decide +kernel
theorem dX0_build_1 : decode cX0_build 1 = .ok (.getfield 24, 3) := by decide +kernel
theorem dX0_build_4 : decode cX0_build 4 = .ok (.istore_n 2, 1) := by decide +kernel
theorem dX0_build_5 : decode cX0_build 5 = .ok (.iload_n 2, 1) := by decide +kernel
theorem dX0_build_6 : decode cX0_build 6 = .ok (.ifCond .lt 29, 3) := by decide +kernel
theorem dX0_build_9 : decode cX0_build 9 = .ok (.iload_n 2, 1) := by decide +kernel
theorem dX0_build_10 : decode cX0_build 10 = .ok (.aload_n 0, 1) := by decide +kernel
theorem dX0_build_11 : decode cX0_build 11 = .ok (.getfield 11, 3) := by decide +kernel
theorem dX0_build_14 : decode cX0_build 14 = .ok (.arraylength, 1) := by decide +kernel
theorem dX0_build_15 : decode cX0_build 15 = .ok (.if_icmp .ge 20, 3) := by decide +kernel
theorem dX0_build_18 : decode cX0_build 18 = .ok (.aload_n 0, 1) := by decide +kernel
theorem dX0_build_19 : decode cX0_build 19 = .ok (.getfield 11, 3) := by decide +kernel
theorem dX0_build_22 : decode cX0_build 22 = .ok (.iload_n 2, 1) := by decide +kernel
theorem dX0_build_23 : decode cX0_build 23 = .ok (.aload_n 1, 1) := by decide +kernel
theorem dX0_build_24 : decode cX0_build 24 = .ok (.aastore, 1) := by decide +kernel
theorem dX0_build_25 : decode cX0_build 25 = .ok (.aload_n 0, 1) := by decide +kernel
theorem dX0_build_26 : decode cX0_build 26 = .ok (.dup, 1) := by decide +kernel
theorem dX0_build_27 : decode cX0_build 27 = .ok (.getfield 24, 3) := by decide +kernel
theorem dX0_build_30 : decode cX0_build 30 = .ok (.iconst 1, 1) := by decide +kernel
theorem dX0_build_31 : decode cX0_build 31 = .ok (.iadd, 1) := by decide +kernel
theorem dX0_build_32 : decode cX0_build 32 = .ok (.putfield 24, 3) := by decide +kernel
theorem dX0_build_35 : decode cX0_build 35 = .ok (.iload_n 2, 1) := by decide +kernel
theorem dX0_build_36 : decode cX0_build 36 = .ok (.ireturn, 1) := by decide +kernel
theorem dX0_hasCertificate_0 : decode cX0_hasCertificate 0 = .ok (.aload_n 0, 1) := by decide +kernel
theorem dX0_hasCertificate_1 : decode cX0_hasCertificate 1 = .ok (.getfield 17, 3) := by decide +kernel
theorem dX0_hasCertificate_4 : decode cX0_hasCertificate 4 = .ok (.iconst (-1), 1) := by decide +kernel
theorem dX0_hasCertificate_5 : decode cX0_hasCertificate 5 = .ok (.if_icmp .eq 7, 3) := by decide +kernel
theorem dX0_hasCertificate_8 : decode cX0_hasCertificate 8 = .ok (.iconst 1, 1) := by decide +kernel
theorem dX0_hasCertificate_9 : decode cX0_hasCertificate 9 = .ok (.goto 4, 3) := by decide +kernel
theorem dX0_hasCertificate_12 : decode cX0_hasCertificate 12 = .ok (.iconst 0, 1) := by decide +kernel
theorem dX0_hasCertificate_13 : decode cX0_hasCertificate 13 = .ok (.ireturn, 1) := by decide +kernel
theorem dX0_takeCertificate_0 : decode cX0_takeCertificate 0 = .ok (.aload_n 0, 1) := by decide +kernel
theorem dX0_takeCertificate_1 : decode cX0_takeCertificate 1 = .ok (.iload_n 1, 1) := by decide +kernel
theorem dX0_takeCertificate_2 : decode cX0_takeCertificate 2 = .ok (.putfield 17, 3) := by decide +kernel
theorem dX0_takeCertificate_5 : decode cX0_takeCertificate 5 = .ok (.aload_n 0, 1) := by decide +kernel
theorem dX0_takeCertificate_6 : decode cX0_takeCertificate 6 = .ok (.iload_n 2, 1) := by decide +kernel
theorem dX0_takeCertificate_7 : decode cX0_takeCertificate 7 = .ok (.putfield 27, 3) := by decide +kernel
theorem dX0_takeCertificate_10 : decode cX0_takeCertificate 10 = .ok (.return_, 1) := by decide +kernel
theorem dX0_loseCertificate_0 : decode cX0_loseCertificate 0 = .ok (.aload_n 0, 1) := by decide +kernel
theorem dX0_loseCertificate_1 : decode cX0_loseCertificate 1 = .ok (.iconst (-1), 1) := by decide +kernel
theorem dX0_loseCertificate_2 : decode cX0_loseCertificate 2 = .ok (.putfield 17, 3) := by decide +kernel
theorem dX0_loseCertificate_5 : decode cX0_loseCertificate 5 = .ok (.aload_n 0, 1) := by decide +kernel
theorem dX0_loseCertificate_6 : decode cX0_loseCertificate 6 = .ok (.iconst 0, 1) := by decide +kernel
theorem dX0_loseCertificate_7 : decode cX0_loseCertificate 7 = .ok (.putfield 27, 3) := by decide +kernel
theorem dX0_loseCertificate_10 : decode cX0_loseCertificate 10 = .ok (.return_, 1) := by decide +kernel
theorem dX0_dustBehind_0 : decode cX0_dustBehind 0 = .ok (.bipush 100, 2) := by decide +kernel
theorem dX0_dustBehind_2 : decode cX0_dustBehind 2 = .ok (.aload_n 0, 1) := by decide +kernel
theorem dX0_dustBehind_3 : decode cX0_dustBehind 3 = .ok (.getfield 30, 3) := by decide +kernel
theorem dX0_dustBehind_6 : decode cX0_dustBehind 6 = .ok (.iload_n 1, 1) := by decide +kernel
theorem dX0_dustBehind_7 : decode cX0_dustBehind 7 = .ok (.iadd, 1) := by decide +kernel
theorem dX0_dustBehind_8 : decode cX0_dustBehind 8 = .ok (.invokestatic 33, 3) := by decide +kernel
theorem dX0_dustBehind_11 : decode cX0_dustBehind 11 = .ok (.ireturn, 1) := by decide +kernel
theorem dX0_growOlder_0 : decode cX0_growOlder 0 = .ok (.aload_n 0, 1) := by decide +kernel
theorem dX0_growOlder_1 : decode cX0_growOlder 1 = .ok (.aload_n 0, 1) := by decide +kernel
theorem dX0_growOlder_2 : decode cX0_growOlder 2 = .ok (.iload_n 1, 1) := by decide +kernel
theorem dX0_growOlder_3 : decode cX0_growOlder 3 = .ok (.invokevirtual 39, 3) := by decide +kernel
theorem dX0_growOlder_6 : decode cX0_growOlder 6 = .ok (.putfield 30, 3) := by decide +kernel
theorem dX0_growOlder_9 : decode cX0_growOlder 9 = .ok (.aload_n 0, 1) := by decide +kernel
theorem dX0_growOlder_10 : decode cX0_growOlder 10 = .ok (.getfield 27, 3) := by decide +kernel
theorem dX0_growOlder_13 : decode cX0_growOlder 13 = .ok (.iload_n 1, 1) := by decide +kernel
theorem dX0_growOlder_14 : decode cX0_growOlder 14 = .ok (.if_icmp .le 16, 3) := by decide +kernel
theorem dX0_growOlder_17 : decode cX0_growOlder 17 = .ok (.aload_n 0, 1) := by decide +kernel
theorem dX0_growOlder_18 : decode cX0_growOlder 18 = .ok (.dup, 1) := by decide +kernel
theorem dX0_growOlder_19 : decode cX0_growOlder 19 = .ok (.getfield 27, 3) := by decide +kernel
theorem dX0_growOlder_22 : decode cX0_growOlder 22 = .ok (.iload_n 1, 1) := by decide +kernel
theorem dX0_growOlder_23 : decode cX0_growOlder 23 = .ok (.isub, 1) := by decide +kernel
theorem dX0_growOlder_24 : decode cX0_growOlder 24 = .ok (.putfield 27, 3) := by decide +kernel
theorem dX0_growOlder_27 : decode cX0_growOlder 27 = .ok (.goto 7, 3) := by decide +kernel
theorem dX0_growOlder_30 : decode cX0_growOlder 30 = .ok (.aload_n 0, 1) := by decide +kernel
theorem dX0_growOlder_31 : decode cX0_growOlder 31 = .ok (.invokevirtual 43, 3) := by decide +kernel
theorem dX0_growOlder_34 : decode cX0_growOlder 34 = .ok (.return_, 1) := by decide +kernel
theorem dX0_throwBack_0 : decode cX0_throwBack 0 = .ok (.aload_n 0, 1) := by decide +kernel
theorem dX0_throwBack_1 : decode cX0_throwBack 1 = .ok (.getfield 11, 3) := by decide +kernel
theorem dX0_throwBack_4 : decode cX0_throwBack 4 = .ok (.astore 5, 2) := by decide +kernel
theorem dX0_throwBack_6 : decode cX0_throwBack 6 = .ok (.aload 5, 2) := by decide +kernel
theorem dX0_throwBack_8 : decode cX0_throwBack 8 = .ok (.arraylength, 1) := by decide +kernel
theorem dX0_throwBack_9 : decode cX0_throwBack 9 = .ok (.istore 6, 2) := by decide +kernel
theorem dX0_throwBack_11 : decode cX0_throwBack 11 = .ok (.iconst 0, 1) := by decide +kernel
theorem dX0_throwBack_12 : decode cX0_throwBack 12 = .ok (.istore 7, 2) := by decide +kernel
theorem dX0_throwBack_14 : decode cX0_throwBack 14 = .ok (.iload 7, 2) := by decide +kernel
theorem dX0_throwBack_16 : decode cX0_throwBack 16 = .ok (.iload 6, 2) := by decide +kernel
theorem dX0_throwBack_18 : decode cX0_throwBack 18 = .ok (.if_icmp .ge 31, 3) := by decide +kernel
theorem dX0_throwBack_21 : decode cX0_throwBack 21 = .ok (.aload 5, 2) := by decide +kernel
theorem dX0_throwBack_23 : decode cX0_throwBack 23 = .ok (.iload 7, 2) := by decide +kernel
theorem dX0_throwBack_25 : decode cX0_throwBack 25 = .ok (.aaload, 1) := by decide +kernel
theorem dX0_throwBack_26 : decode cX0_throwBack 26 = .ok (.astore 8, 2) := by decide +kernel
theorem dX0_throwBack_28 : decode cX0_throwBack 28 = .ok (.aload 8, 2) := by decide +kernel
theorem dX0_throwBack_30 : decode cX0_throwBack 30 = .ok (.ifnull 13, 3) := by decide +kernel
theorem dX0_throwBack_33 : decode cX0_throwBack 33 = .ok (.aload 8, 2) := by decide +kernel
theorem dX0_throwBack_35 : decode cX0_throwBack 35 = .ok (.iload_n 1, 1) := by decide +kernel
theorem dX0_throwBack_36 : decode cX0_throwBack 36 = .ok (.iload_n 2, 1) := by decide +kernel
theorem dX0_throwBack_37 : decode cX0_throwBack 37 = .ok (.iload_n 3, 1) := by decide +kernel
theorem dX0_throwBack_38 : decode cX0_throwBack 38 = .ok (.aload 4, 2) := by decide +kernel
theorem dX0_throwBack_40 : decode cX0_throwBack 40 = .ok (.invokevirtual 46, 3) := by decide +kernel
theorem dX0_throwBack_43 : decode cX0_throwBack 43 = .ok (.iinc 7 1, 3) := by decide +kernel
theorem dX0_throwBack_46 : decode cX0_throwBack 46 = .ok (.goto (-32), 3) := by decide +kernel
theorem dX0_throwBack_49 : decode cX0_throwBack 49 = .ok (.return_, 1) := by decide +kernel
theorem dX2_init_0 : decode cX2_init 0 = .ok (.aload_n 0, 1) := by decide +kernel
theorem dX2_init_1 : decode cX2_init 1 = .ok (.invokespecial 3, 3) := by decide +kernel
theorem dX2_init_4 : decode cX2_init 4 = .ok (.aload_n 0, 1) := by decide +kernel
theorem dX2_init_5 : decode cX2_init 5 = .ok (.sipush 501, 3) := by decide +kernel
theorem dX2_init_8 : decode cX2_init 8 = .ok (.newarray .int, 2) := by decide +kernel
theorem dX2_init_10 : decode cX2_init 10 = .ok (.putfield 9, 3) := by decide +kernel
theorem dX2_init_13 : decode cX2_init 13 = .ok (.return_, 1) := by decide +kernel
theorem dX2_begin_0 : decode cX2_begin 0 = .ok (.aload_n 0, 1) := by decide +kernel
theorem dX2_begin_1 : decode cX2_begin 1 = .ok (.getfield 9, 3) := by decide +kernel
theorem dX2_begin_4 : decode cX2_begin 4 = .ok (.iconst 0, 1) := by decide +kernel
theorem dX2_begin_5 : decode cX2_begin 5 = .ok (.invokestatic 15, 3) := by decide +kernel
theorem dX2_begin_8 : decode cX2_begin 8 = .ok (.return_, 1) := by decide +kernel
theorem dX2_hear_0 : decode cX2_hear 0 = .ok (.iload_n 1, 1) := by decide +kernel
theorem dX2_hear_1 : decode cX2_hear 1 = .ok (.bipush 6, 2) := by decide +kernel
theorem dX2_hear_3 : decode cX2_hear 3 = .ok (.idiv, 1) := by decide +kernel
theorem dX2_hear_4 : decode cX2_hear 4 = .ok (.istore_n 3, 1) := by decide +kernel
theorem dX2_hear_5 : decode cX2_hear 5 = .ok (.iload_n 3, 1) := by decide +kernel
theorem dX2_hear_6 : decode cX2_hear 6 = .ok (.ifCond .lt 22, 3) := by decide +kernel
theorem dX2_hear_9 : decode cX2_hear 9 = .ok (.iload_n 3, 1) := by decide +kernel
theorem dX2_hear_10 : decode cX2_hear 10 = .ok (.aload_n 0, 1) := by decide +kernel
theorem dX2_hear_11 : decode cX2_hear 11 = .ok (.getfield 9, 3) := by decide +kernel
theorem dX2_hear_14 : decode cX2_hear 14 = .ok (.arraylength, 1) := by decide +kernel
theorem dX2_hear_15 : decode cX2_hear 15 = .ok (.if_icmp .ge 13, 3) := by decide +kernel
theorem dX2_hear_18 : decode cX2_hear 18 = .ok (.aload_n 0, 1) := by decide +kernel
theorem dX2_hear_19 : decode cX2_hear 19 = .ok (.getfield 9, 3) := by decide +kernel
theorem dX2_hear_22 : decode cX2_hear 22 = .ok (.iload_n 3, 1) := by decide +kernel
theorem dX2_hear_23 : decode cX2_hear 23 = .ok (.dup2, 1) := by decide +kernel
theorem dX2_hear_24 : decode cX2_hear 24 = .ok (.iaload, 1) := by decide +kernel
theorem dX2_hear_25 : decode cX2_hear 25 = .ok (.iload_n 2, 1) := by decide +kernel
theorem dX2_hear_26 : decode cX2_hear 26 = .ok (.iadd, 1) := by decide +kernel
theorem dX2_hear_27 : decode cX2_hear 27 = .ok (.iastore, 1) := by decide +kernel
theorem dX2_hear_28 : decode cX2_hear 28 = .ok (.return_, 1) := by decide +kernel
theorem dX2_addedAt_0 : decode cX2_addedAt 0 = .ok (.iload_n 1, 1) := by decide +kernel
theorem dX2_addedAt_1 : decode cX2_addedAt 1 = .ok (.bipush 6, 2) := by decide +kernel
theorem dX2_addedAt_3 : decode cX2_addedAt 3 = .ok (.idiv, 1) := by decide +kernel
theorem dX2_addedAt_4 : decode cX2_addedAt 4 = .ok (.istore_n 2, 1) := by decide +kernel
theorem dX2_addedAt_5 : decode cX2_addedAt 5 = .ok (.iload_n 1, 1) := by decide +kernel
theorem dX2_addedAt_6 : decode cX2_addedAt 6 = .ok (.bipush 6, 2) := by decide +kernel
theorem dX2_addedAt_8 : decode cX2_addedAt 8 = .ok (.irem, 1) := by decide +kernel
theorem dX2_addedAt_9 : decode cX2_addedAt 9 = .ok (.ifCond .ne 20, 3) := by decide +kernel
theorem dX2_addedAt_12 : decode cX2_addedAt 12 = .ok (.iload_n 2, 1) := by decide +kernel
theorem dX2_addedAt_13 : decode cX2_addedAt 13 = .ok (.ifCond .lt 16, 3) := by decide +kernel
theorem dX2_addedAt_16 : decode cX2_addedAt 16 = .ok (.iload_n 2, 1) := by decide +kernel
theorem dX2_addedAt_17 : decode cX2_addedAt 17 = .ok (.aload_n 0, 1) := by decide +kernel
theorem dX2_addedAt_18 : decode cX2_addedAt 18 = .ok (.getfield 9, 3) := by decide +kernel
theorem dX2_addedAt_21 : decode cX2_addedAt 21 = .ok (.arraylength, 1) := by decide +kernel
theorem dX2_addedAt_22 : decode cX2_addedAt 22 = .ok (.if_icmp .ge 7, 3) := by decide +kernel
theorem dX2_addedAt_25 : decode cX2_addedAt 25 = .ok (.iconst 1, 1) := by decide +kernel
theorem dX2_addedAt_26 : decode cX2_addedAt 26 = .ok (.goto 4, 3) := by decide +kernel
theorem dX2_addedAt_29 : decode cX2_addedAt 29 = .ok (.iconst 0, 1) := by decide +kernel
theorem dX2_addedAt_30 : decode cX2_addedAt 30 = .ok (.istore_n 3, 1) := by decide +kernel
theorem dX2_addedAt_31 : decode cX2_addedAt 31 = .ok (.iload_n 3, 1) := by decide +kernel
theorem dX2_addedAt_32 : decode cX2_addedAt 32 = .ok (.ifCond .eq 12, 3) := by decide +kernel
theorem dX2_addedAt_35 : decode cX2_addedAt 35 = .ok (.aload_n 0, 1) := by decide +kernel
theorem dX2_addedAt_36 : decode cX2_addedAt 36 = .ok (.getfield 9, 3) := by decide +kernel
theorem dX2_addedAt_39 : decode cX2_addedAt 39 = .ok (.iload_n 2, 1) := by decide +kernel
theorem dX2_addedAt_40 : decode cX2_addedAt 40 = .ok (.iaload, 1) := by decide +kernel
theorem dX2_addedAt_41 : decode cX2_addedAt 41 = .ok (.goto 4, 3) := by decide +kernel
theorem dX2_addedAt_44 : decode cX2_addedAt 44 = .ok (.iconst 0, 1) := by decide +kernel
theorem dX2_addedAt_45 : decode cX2_addedAt 45 = .ok (.ireturn, 1) := by decide +kernel
theorem dX2_momentOfMost_0 : decode cX2_momentOfMost 0 = .ok (.iconst 0, 1) := by decide +kernel
theorem dX2_momentOfMost_1 : decode cX2_momentOfMost 1 = .ok (.istore_n 1, 1) := by decide +kernel
theorem dX2_momentOfMost_2 : decode cX2_momentOfMost 2 = .ok (.iconst (-1), 1) := by decide +kernel
theorem dX2_momentOfMost_3 : decode cX2_momentOfMost 3 = .ok (.istore_n 2, 1) := by decide +kernel
theorem dX2_momentOfMost_4 : decode cX2_momentOfMost 4 = .ok (.iconst 0, 1) := by decide +kernel
theorem dX2_momentOfMost_5 : decode cX2_momentOfMost 5 = .ok (.istore_n 3, 1) := by decide +kernel
theorem dX2_momentOfMost_6 : decode cX2_momentOfMost 6 = .ok (.iload_n 3, 1) := by decide +kernel
theorem dX2_momentOfMost_7 : decode cX2_momentOfMost 7 = .ok (.aload_n 0, 1) := by decide +kernel
theorem dX2_momentOfMost_8 : decode cX2_momentOfMost 8 = .ok (.getfield 9, 3) := by decide +kernel
theorem dX2_momentOfMost_11 : decode cX2_momentOfMost 11 = .ok (.arraylength, 1) := by decide +kernel
theorem dX2_momentOfMost_12 : decode cX2_momentOfMost 12 = .ok (.if_icmp .ge 31, 3) := by decide +kernel
theorem dX2_momentOfMost_15 : decode cX2_momentOfMost 15 = .ok (.aload_n 0, 1) := by decide +kernel
theorem dX2_momentOfMost_16 : decode cX2_momentOfMost 16 = .ok (.getfield 9, 3) := by decide +kernel
theorem dX2_momentOfMost_19 : decode cX2_momentOfMost 19 = .ok (.iload_n 3, 1) := by decide +kernel
theorem dX2_momentOfMost_20 : decode cX2_momentOfMost 20 = .ok (.iaload, 1) := by decide +kernel
theorem dX2_momentOfMost_21 : decode cX2_momentOfMost 21 = .ok (.iload_n 1, 1) := by decide +kernel
theorem dX2_momentOfMost_22 : decode cX2_momentOfMost 22 = .ok (.if_icmp .le 15, 3) := by decide +kernel
theorem dX2_momentOfMost_25 : decode cX2_momentOfMost 25 = .ok (.aload_n 0, 1) := by decide +kernel
theorem dX2_momentOfMost_26 : decode cX2_momentOfMost 26 = .ok (.getfield 9, 3) := by decide +kernel
theorem dX2_momentOfMost_29 : decode cX2_momentOfMost 29 = .ok (.iload_n 3, 1) := by decide +kernel
theorem dX2_momentOfMost_30 : decode cX2_momentOfMost 30 = .ok (.iaload, 1) := by decide +kernel
theorem dX2_momentOfMost_31 : decode cX2_momentOfMost 31 = .ok (.istore_n 1, 1) := by decide +kernel
theorem dX2_momentOfMost_32 : decode cX2_momentOfMost 32 = .ok (.iload_n 3, 1) := by decide +kernel
theorem dX2_momentOfMost_33 : decode cX2_momentOfMost 33 = .ok (.bipush 6, 2) := by decide +kernel
theorem dX2_momentOfMost_35 : decode cX2_momentOfMost 35 = .ok (.imul, 1) := by decide +kernel
theorem dX2_momentOfMost_36 : decode cX2_momentOfMost 36 = .ok (.istore_n 2, 1) := by decide +kernel
theorem dX2_momentOfMost_37 : decode cX2_momentOfMost 37 = .ok (.iinc 3 1, 3) := by decide +kernel
theorem dX2_momentOfMost_40 : decode cX2_momentOfMost 40 = .ok (.goto (-34), 3) := by decide +kernel
theorem dX2_momentOfMost_43 : decode cX2_momentOfMost 43 = .ok (.iload_n 2, 1) := by decide +kernel
theorem dX2_momentOfMost_44 : decode cX2_momentOfMost 44 = .ok (.ireturn, 1) := by decide +kernel
theorem dX3_init_0 : decode cX3_init 0 = .ok (.aload_n 0, 1) := by decide +kernel
theorem dX3_init_1 : decode cX3_init 1 = .ok (.invokespecial 1, 3) := by decide +kernel
theorem dX3_init_4 : decode cX3_init 4 = .ok (.aload_n 0, 1) := by decide +kernel
theorem dX3_init_5 : decode cX3_init 5 = .ok (.iload_n 1, 1) := by decide +kernel
theorem dX3_init_6 : decode cX3_init 6 = .ok (.putfield 7, 3) := by decide +kernel
theorem dX3_init_9 : decode cX3_init 9 = .ok (.aload_n 0, 1) := by decide +kernel
theorem dX3_init_10 : decode cX3_init 10 = .ok (.iload_n 2, 1) := by decide +kernel
theorem dX3_init_11 : decode cX3_init 11 = .ok (.putfield 13, 3) := by decide +kernel
theorem dX3_init_14 : decode cX3_init 14 = .ok (.aload_n 0, 1) := by decide +kernel
theorem dX3_init_15 : decode cX3_init 15 = .ok (.iload_n 3, 1) := by decide +kernel
theorem dX3_init_16 : decode cX3_init 16 = .ok (.putfield 16, 3) := by decide +kernel
theorem dX3_init_19 : decode cX3_init 19 = .ok (.aload_n 0, 1) := by decide +kernel
theorem dX3_init_20 : decode cX3_init 20 = .ok (.iload 4, 2) := by decide +kernel
theorem dX3_init_22 : decode cX3_init 22 = .ok (.putfield 19, 3) := by decide +kernel
theorem dX3_init_25 : decode cX3_init 25 = .ok (.aload_n 0, 1) := by decide +kernel
theorem dX3_init_26 : decode cX3_init 26 = .ok (.iload 5, 2) := by decide +kernel
theorem dX3_init_28 : decode cX3_init 28 = .ok (.putfield 22, 3) := by decide +kernel
theorem dX3_init_31 : decode cX3_init 31 = .ok (.return_, 1) := by decide +kernel
theorem dX3_allows_0 : decode cX3_allows 0 = .ok (.aload_n 1, 1) := by decide +kernel
theorem dX3_allows_1 : decode cX3_allows 1 = .ok (.getfield 25, 3) := by decide +kernel
theorem dX3_allows_4 : decode cX3_allows 4 = .ok (.ifCond .ne 5, 3) := by decide +kernel
theorem dX3_allows_7 : decode cX3_allows 7 = .ok (.iconst 1, 1) := by decide +kernel
theorem dX3_allows_8 : decode cX3_allows 8 = .ok (.ireturn, 1) := by decide +kernel
theorem dX3_allows_9 : decode cX3_allows 9 = .ok (.aload_n 1, 1) := by decide +kernel
theorem dX3_allows_10 : decode cX3_allows 10 = .ok (.getfield 30, 3) := by decide +kernel
theorem dX3_allows_13 : decode cX3_allows 13 = .ok (.aload_n 0, 1) := by decide +kernel
theorem dX3_allows_14 : decode cX3_allows 14 = .ok (.getfield 7, 3) := by decide +kernel
theorem dX3_allows_17 : decode cX3_allows 17 = .ok (.if_icmp .lt 29, 3) := by decide +kernel
theorem dX3_allows_20 : decode cX3_allows 20 = .ok (.aload_n 1, 1) := by decide +kernel
theorem dX3_allows_21 : decode cX3_allows 21 = .ok (.getfield 33, 3) := by decide +kernel
theorem dX3_allows_24 : decode cX3_allows 24 = .ok (.aload_n 0, 1) := by decide +kernel
theorem dX3_allows_25 : decode cX3_allows 25 = .ok (.getfield 19, 3) := by decide +kernel
theorem dX3_allows_28 : decode cX3_allows 28 = .ok (.if_icmp .gt 18, 3) := by decide +kernel
theorem dX3_allows_31 : decode cX3_allows 31 = .ok (.aload_n 1, 1) := by decide +kernel
theorem dX3_allows_32 : decode cX3_allows 32 = .ok (.getfield 36, 3) := by decide +kernel
theorem dX3_allows_35 : decode cX3_allows 35 = .ok (.aload_n 0, 1) := by decide +kernel
theorem dX3_allows_36 : decode cX3_allows 36 = .ok (.getfield 16, 3) := by decide +kernel
theorem dX3_allows_39 : decode cX3_allows 39 = .ok (.if_icmp .gt 7, 3) := by decide +kernel
theorem dX3_allows_42 : decode cX3_allows 42 = .ok (.iconst 1, 1) := by decide +kernel
theorem dX3_allows_43 : decode cX3_allows 43 = .ok (.goto 4, 3) := by decide +kernel
theorem dX3_allows_46 : decode cX3_allows 46 = .ok (.iconst 0, 1) := by decide +kernel
theorem dX3_allows_47 : decode cX3_allows 47 = .ok (.ireturn, 1) := by decide +kernel
theorem dX4_init_0 : decode cX4_init 0 = .ok (.aload_n 0, 1) := by decide +kernel
theorem dX4_init_1 : decode cX4_init 1 = .ok (.invokespecial 3, 3) := by decide +kernel
theorem dX4_init_4 : decode cX4_init 4 = .ok (.aload_n 0, 1) := by decide +kernel
theorem dX4_init_5 : decode cX4_init 5 = .ok (.iload_n 1, 1) := by decide +kernel
theorem dX4_init_6 : decode cX4_init 6 = .ok (.putfield 9, 3) := by decide +kernel
theorem dX4_init_9 : decode cX4_init 9 = .ok (.aload_n 0, 1) := by decide +kernel
theorem dX4_init_10 : decode cX4_init 10 = .ok (.iload_n 2, 1) := by decide +kernel
theorem dX4_init_11 : decode cX4_init 11 = .ok (.putfield 15, 3) := by decide +kernel
theorem dX4_init_14 : decode cX4_init 14 = .ok (.return_, 1) := by decide +kernel
theorem dX4_hardnessUnder_0 : decode cX4_hardnessUnder 0 = .ok (.iconst 0, 1) := by decide +kernel
theorem dX4_hardnessUnder_1 : decode cX4_hardnessUnder 1 = .ok (.aload_n 0, 1) := by decide +kernel
theorem dX4_hardnessUnder_2 : decode cX4_hardnessUnder 2 = .ok (.getfield 15, 3) := by decide +kernel
theorem dX4_hardnessUnder_5 : decode cX4_hardnessUnder 5 = .ok (.iload_n 1, 1) := by decide +kernel
theorem dX4_hardnessUnder_6 : decode cX4_hardnessUnder 6 = .ok (.iconst 5, 1) := by decide +kernel
theorem dX4_hardnessUnder_7 : decode cX4_hardnessUnder 7 = .ok (.idiv, 1) := by decide +kernel
theorem dX4_hardnessUnder_8 : decode cX4_hardnessUnder 8 = .ok (.isub, 1) := by decide +kernel
theorem dX4_hardnessUnder_9 : decode cX4_hardnessUnder 9 = .ok (.invokestatic 18, 3) := by decide +kernel
theorem dX4_hardnessUnder_12 : decode cX4_hardnessUnder 12 = .ok (.ireturn, 1) := by decide +kernel
theorem dX4_throwRow_0 : decode cX4_throwRow 0 = .ok (.aload_n 0, 1) := by decide +kernel
theorem dX4_throwRow_1 : decode cX4_throwRow 1 = .ok (.iload_n 3, 1) := by decide +kernel
theorem dX4_throwRow_2 : decode cX4_throwRow 2 = .ok (.invokevirtual 24, 3) := by decide +kernel
theorem dX4_throwRow_5 : decode cX4_throwRow 5 = .ok (.istore 5, 2) := by decide +kernel
theorem dX4_throwRow_7 : decode cX4_throwRow 7 = .ok (.iload_n 1, 1) := by decide +kernel
theorem dX4_throwRow_8 : decode cX4_throwRow 8 = .ok (.istore 6, 2) := by decide +kernel
theorem dX4_throwRow_10 : decode cX4_throwRow 10 = .ok (.iconst 1, 1) := by decide +kernel
theorem dX4_throwRow_11 : decode cX4_throwRow 11 = .ok (.istore 7, 2) := by decide +kernel
theorem dX4_throwRow_13 : decode cX4_throwRow 13 = .ok (.iload 7, 2) := by decide +kernel
theorem dX4_throwRow_15 : decode cX4_throwRow 15 = .ok (.sipush 500, 3) := by decide +kernel
theorem dX4_throwRow_18 : decode cX4_throwRow 18 = .ok (.if_icmp .gt 64, 3) := by decide +kernel
theorem dX4_throwRow_21 : decode cX4_throwRow 21 = .ok (.iload 7, 2) := by decide +kernel
theorem dX4_throwRow_23 : decode cX4_throwRow 23 = .ok (.bipush 6, 2) := by decide +kernel
theorem dX4_throwRow_25 : decode cX4_throwRow 25 = .ok (.imul, 1) := by decide +kernel
theorem dX4_throwRow_26 : decode cX4_throwRow 26 = .ok (.aload_n 0, 1) := by decide +kernel
theorem dX4_throwRow_27 : decode cX4_throwRow 27 = .ok (.getfield 9, 3) := by decide +kernel
theorem dX4_throwRow_30 : decode cX4_throwRow 30 = .ok (.imul, 1) := by decide +kernel
theorem dX4_throwRow_31 : decode cX4_throwRow 31 = .ok (.istore 8, 2) := by decide +kernel
theorem dX4_throwRow_33 : decode cX4_throwRow 33 = .ok (.iload 6, 2) := by decide +kernel
theorem dX4_throwRow_35 : decode cX4_throwRow 35 = .ok (.iload 5, 2) := by decide +kernel
theorem dX4_throwRow_37 : decode cX4_throwRow 37 = .ok (.imul, 1) := by decide +kernel
theorem dX4_throwRow_38 : decode cX4_throwRow 38 = .ok (.bipush 100, 2) := by decide +kernel
theorem dX4_throwRow_40 : decode cX4_throwRow 40 = .ok (.idiv, 1) := by decide +kernel
theorem dX4_throwRow_41 : decode cX4_throwRow 41 = .ok (.bipush 100, 2) := by decide +kernel
theorem dX4_throwRow_43 : decode cX4_throwRow 43 = .ok (.iload_n 2, 1) := by decide +kernel
theorem dX4_throwRow_44 : decode cX4_throwRow 44 = .ok (.isub, 1) := by decide +kernel
theorem dX4_throwRow_45 : decode cX4_throwRow 45 = .ok (.imul, 1) := by decide +kernel
theorem dX4_throwRow_46 : decode cX4_throwRow 46 = .ok (.bipush 100, 2) := by decide +kernel
theorem dX4_throwRow_48 : decode cX4_throwRow 48 = .ok (.idiv, 1) := by decide +kernel
theorem dX4_throwRow_49 : decode cX4_throwRow 49 = .ok (.istore 6, 2) := by decide +kernel
theorem dX4_throwRow_51 : decode cX4_throwRow 51 = .ok (.iload 6, 2) := by decide +kernel
theorem dX4_throwRow_53 : decode cX4_throwRow 53 = .ok (.ifCond .le 11, 3) := by decide +kernel
theorem dX4_throwRow_56 : decode cX4_throwRow 56 = .ok (.iload 8, 2) := by decide +kernel
theorem dX4_throwRow_58 : decode cX4_throwRow 58 = .ok (.sipush 3000, 3) := by decide +kernel
theorem dX4_throwRow_61 : decode cX4_throwRow 61 = .ok (.if_icmp .le 4, 3) := by decide +kernel
theorem dX4_throwRow_64 : decode cX4_throwRow 64 = .ok (.return_, 1) := by decide +kernel
theorem dX4_throwRow_65 : decode cX4_throwRow 65 = .ok (.aload 4, 2) := by decide +kernel
theorem dX4_throwRow_67 : decode cX4_throwRow 67 = .ok (.iload 8, 2) := by decide +kernel
theorem dX4_throwRow_69 : decode cX4_throwRow 69 = .ok (.iload 6, 2) := by decide +kernel
theorem dX4_throwRow_71 : decode cX4_throwRow 71 = .ok (.invokeinterface 28 3, 5) := by decide +kernel
theorem dX4_throwRow_76 : decode cX4_throwRow 76 = .ok (.iinc 7 1, 3) := by decide +kernel
theorem dX4_throwRow_79 : decode cX4_throwRow 79 = .ok (.goto (-66), 3) := by decide +kernel
theorem dX4_throwRow_82 : decode cX4_throwRow 82 = .ok (.return_, 1) := by decide +kernel
theorem dX5_init_0 : decode cX5_init 0 = .ok (.aload_n 0, 1) := by decide +kernel
theorem dX5_init_1 : decode cX5_init 1 = .ok (.invokespecial 3, 3) := by decide +kernel
theorem dX5_init_4 : decode cX5_init 4 = .ok (.return_, 1) := by decide +kernel
theorem dX5_begin_0 : decode cX5_begin 0 = .ok (.aload_n 0, 1) := by decide +kernel
theorem dX5_begin_1 : decode cX5_begin 1 = .ok (.iload_n 1, 1) := by decide +kernel
theorem dX5_begin_2 : decode cX5_begin 2 = .ok (.putfield 9, 3) := by decide +kernel
theorem dX5_begin_5 : decode cX5_begin 5 = .ok (.aload_n 0, 1) := by decide +kernel
theorem dX5_begin_6 : decode cX5_begin 6 = .ok (.iconst 0, 1) := by decide +kernel
theorem dX5_begin_7 : decode cX5_begin 7 = .ok (.putfield 15, 3) := by decide +kernel
theorem dX5_begin_10 : decode cX5_begin 10 = .ok (.aload_n 0, 1) := by decide +kernel
theorem dX5_begin_11 : decode cX5_begin 11 = .ok (.iconst 0, 1) := by decide +kernel
theorem dX5_begin_12 : decode cX5_begin 12 = .ok (.putfield 18, 3) := by decide +kernel
theorem dX5_begin_15 : decode cX5_begin 15 = .ok (.aload_n 0, 1) := by decide +kernel
theorem dX5_begin_16 : decode cX5_begin 16 = .ok (.iconst (-1), 1) := by decide +kernel
theorem dX5_begin_17 : decode cX5_begin 17 = .ok (.putfield 21, 3) := by decide +kernel
theorem dX5_begin_20 : decode cX5_begin 20 = .ok (.aload_n 0, 1) := by decide +kernel
theorem dX5_begin_21 : decode cX5_begin 21 = .ok (.iconst (-1), 1) := by decide +kernel
theorem dX5_begin_22 : decode cX5_begin 22 = .ok (.putfield 24, 3) := by decide +kernel
theorem dX5_begin_25 : decode cX5_begin 25 = .ok (.return_, 1) := by decide +kernel
theorem dX5_hear_0 : decode cX5_hear 0 = .ok (.aload_n 0, 1) := by decide +kernel
theorem dX5_hear_1 : decode cX5_hear 1 = .ok (.dup, 1) := by decide +kernel
theorem dX5_hear_2 : decode cX5_hear 2 = .ok (.getfield 15, 3) := by decide +kernel
theorem dX5_hear_5 : decode cX5_hear 5 = .ok (.iconst 1, 1) := by decide +kernel
theorem dX5_hear_6 : decode cX5_hear 6 = .ok (.iadd, 1) := by decide +kernel
theorem dX5_hear_7 : decode cX5_hear 7 = .ok (.putfield 15, 3) := by decide +kernel
theorem dX5_hear_10 : decode cX5_hear 10 = .ok (.iload_n 2, 1) := by decide +kernel
theorem dX5_hear_11 : decode cX5_hear 11 = .ok (.aload_n 0, 1) := by decide +kernel
theorem dX5_hear_12 : decode cX5_hear 12 = .ok (.getfield 9, 3) := by decide +kernel
theorem dX5_hear_15 : decode cX5_hear 15 = .ok (.if_icmp .lt 13, 3) := by decide +kernel
theorem dX5_hear_18 : decode cX5_hear 18 = .ok (.aload_n 0, 1) := by decide +kernel
theorem dX5_hear_19 : decode cX5_hear 19 = .ok (.dup, 1) := by decide +kernel
theorem dX5_hear_20 : decode cX5_hear 20 = .ok (.getfield 18, 3) := by decide +kernel
theorem dX5_hear_23 : decode cX5_hear 23 = .ok (.iconst 1, 1) := by decide +kernel
theorem dX5_hear_24 : decode cX5_hear 24 = .ok (.iadd, 1) := by decide +kernel
theorem dX5_hear_25 : decode cX5_hear 25 = .ok (.putfield 18, 3) := by decide +kernel
theorem dX5_hear_28 : decode cX5_hear 28 = .ok (.aload_n 0, 1) := by decide +kernel
theorem dX5_hear_29 : decode cX5_hear 29 = .ok (.getfield 21, 3) := by decide +kernel
theorem dX5_hear_32 : decode cX5_hear 32 = .ok (.iconst (-1), 1) := by decide +kernel
theorem dX5_hear_33 : decode cX5_hear 33 = .ok (.if_icmp .eq 11, 3) := by decide +kernel
theorem dX5_hear_36 : decode cX5_hear 36 = .ok (.iload_n 1, 1) := by decide +kernel
theorem dX5_hear_37 : decode cX5_hear 37 = .ok (.aload_n 0, 1) := by decide +kernel
theorem dX5_hear_38 : decode cX5_hear 38 = .ok (.getfield 21, 3) := by decide +kernel
theorem dX5_hear_41 : decode cX5_hear 41 = .ok (.if_icmp .ge 8, 3) := by decide +kernel
theorem dX5_hear_44 : decode cX5_hear 44 = .ok (.aload_n 0, 1) := by decide +kernel
theorem dX5_hear_45 : decode cX5_hear 45 = .ok (.iload_n 1, 1) := by decide +kernel
theorem dX5_hear_46 : decode cX5_hear 46 = .ok (.putfield 21, 3) := by decide +kernel
theorem dX5_hear_49 : decode cX5_hear 49 = .ok (.iload_n 1, 1) := by decide +kernel
theorem dX5_hear_50 : decode cX5_hear 50 = .ok (.aload_n 0, 1) := by decide +kernel
theorem dX5_hear_51 : decode cX5_hear 51 = .ok (.getfield 24, 3) := by decide +kernel
theorem dX5_hear_54 : decode cX5_hear 54 = .ok (.if_icmp .le 8, 3) := by decide +kernel
theorem dX5_hear_57 : decode cX5_hear 57 = .ok (.aload_n 0, 1) := by decide +kernel
theorem dX5_hear_58 : decode cX5_hear 58 = .ok (.iload_n 1, 1) := by decide +kernel
theorem dX5_hear_59 : decode cX5_hear 59 = .ok (.putfield 24, 3) := by decide +kernel
theorem dX5_hear_62 : decode cX5_hear 62 = .ok (.return_, 1) := by decide +kernel
theorem dX6_init_0 : decode cX6_init 0 = .ok (.aload_n 0, 1) := by decide +kernel
theorem dX6_init_1 : decode cX6_init 1 = .ok (.invokespecial 3, 3) := by decide +kernel
theorem dX6_init_4 : decode cX6_init 4 = .ok (.aload_n 0, 1) := by decide +kernel
theorem dX6_init_5 : decode cX6_init 5 = .ok (.bipush 8, 2) := by decide +kernel
theorem dX6_init_7 : decode cX6_init 7 = .ok (.anewarray 9, 3) := by decide +kernel
theorem dX6_init_10 : decode cX6_init 10 = .ok (.putfield 11, 3) := by decide +kernel
theorem dX6_init_13 : decode cX6_init 13 = .ok (.aload_n 0, 1) := by decide +kernel
theorem dX6_init_14 : decode cX6_init 14 = .ok (.iconst 5, 1) := by decide +kernel
theorem dX6_init_15 : decode cX6_init 15 = .ok (.anewarray 15, 3) := by decide +kernel
theorem dX6_init_18 : decode cX6_init 18 = .ok (.putfield 17, 3) := by decide +kernel
theorem dX6_init_21 : decode cX6_init 21 = .ok (.aload_n 0, 1) := by decide +kernel
theorem dX6_init_22 : decode cX6_init 22 = .ok (.new 21, 3) := by decide +kernel
theorem dX6_init_25 : decode cX6_init 25 = .ok (.dup, 1) := by decide +kernel
theorem dX6_init_26 : decode cX6_init 26 = .ok (.invokespecial 23, 3) := by decide +kernel
theorem dX6_init_29 : decode cX6_init 29 = .ok (.putfield 24, 3) := by decide +kernel
theorem dX6_init_32 : decode cX6_init 32 = .ok (.aload_n 0, 1) := by decide +kernel
theorem dX6_init_33 : decode cX6_init 33 = .ok (.new 28, 3) := by decide +kernel
theorem dX6_init_36 : decode cX6_init 36 = .ok (.dup, 1) := by decide +kernel
theorem dX6_init_37 : decode cX6_init 37 = .ok (.invokespecial 30, 3) := by decide +kernel
theorem dX6_init_40 : decode cX6_init 40 = .ok (.putfield 31, 3) := by decide +kernel
theorem dX6_init_43 : decode cX6_init 43 = .ok (.return_, 1) := by decide +kernel
theorem dX6_addHall_0 : decode cX6_addHall 0 = .ok (.iload_n 1, 1) := by decide +kernel
theorem dX6_addHall_1 : decode cX6_addHall 1 = .ok (.invokestatic 35, 3) := by decide +kernel
theorem dX6_addHall_4 : decode cX6_addHall 4 = .ok (.aload_n 0, 1) := by decide +kernel
theorem dX6_addHall_5 : decode cX6_addHall 5 = .ok (.getfield 39, 3) := by decide +kernel
theorem dX6_addHall_8 : decode cX6_addHall 8 = .ok (.aload_n 0, 1) := by decide +kernel
theorem dX6_addHall_9 : decode cX6_addHall 9 = .ok (.getfield 11, 3) := by decide +kernel
theorem dX6_addHall_12 : decode cX6_addHall 12 = .ok (.arraylength, 1) := by decide +kernel
theorem dX6_addHall_13 : decode cX6_addHall 13 = .ok (.if_icmp .lt 13, 3) := by decide +kernel
theorem dX6_addHall_16 : decode cX6_addHall 16 = .ok (.new 43, 3) := by decide +kernel
theorem dX6_addHall_19 : decode cX6_addHall 19 = .ok (.dup, 1) := by decide +kernel
theorem dX6_addHall_20 : decode cX6_addHall 20 = .ok (.ldc 45, 2) := by decide +kernel
theorem dX6_addHall_22 : decode cX6_addHall 22 = .ok (.invokespecial 47, 3) := by decide +kernel
theorem dX6_addHall_25 : decode cX6_addHall 25 = .ok (.athrow, 1) := by decide +kernel
theorem dX6_addHall_26 : decode cX6_addHall 26 = .ok (.aload_n 0, 1) := by decide +kernel
theorem dX6_addHall_27 : decode cX6_addHall 27 = .ok (.getfield 39, 3) := by decide +kernel
theorem dX6_addHall_30 : decode cX6_addHall 30 = .ok (.istore_n 2, 1) := by decide +kernel
theorem dX6_addHall_31 : decode cX6_addHall 31 = .ok (.aload_n 0, 1) := by decide +kernel
theorem dX6_addHall_32 : decode cX6_addHall 32 = .ok (.getfield 11, 3) := by decide +kernel
theorem dX6_addHall_35 : decode cX6_addHall 35 = .ok (.iload_n 2, 1) := by decide +kernel
theorem dX6_addHall_36 : decode cX6_addHall 36 = .ok (.new 9, 3) := by decide +kernel
theorem dX6_addHall_39 : decode cX6_addHall 39 = .ok (.dup, 1) := by decide +kernel
theorem dX6_addHall_40 : decode cX6_addHall 40 = .ok (.iload_n 1, 1) := by decide +kernel
theorem dX6_addHall_41 : decode cX6_addHall 41 = .ok (.invokespecial 50, 3) := by decide +kernel
theorem dX6_addHall_44 : decode cX6_addHall 44 = .ok (.aastore, 1) := by decide +kernel
theorem dX6_addHall_45 : decode cX6_addHall 45 = .ok (.aload_n 0, 1) := by decide +kernel
theorem dX6_addHall_46 : decode cX6_addHall 46 = .ok (.dup, 1) := by decide +kernel
theorem dX6_addHall_47 : decode cX6_addHall 47 = .ok (.getfield 39, 3) := by decide +kernel
theorem dX6_addHall_50 : decode cX6_addHall 50 = .ok (.iconst 1, 1) := by decide +kernel
theorem dX6_addHall_51 : decode cX6_addHall 51 = .ok (.iadd, 1) := by decide +kernel
theorem dX6_addHall_52 : decode cX6_addHall 52 = .ok (.putfield 39, 3) := by decide +kernel
theorem dX6_addHall_55 : decode cX6_addHall 55 = .ok (.iload_n 2, 1) := by decide +kernel
theorem dX6_addHall_56 : decode cX6_addHall 56 = .ok (.ireturn, 1) := by decide +kernel
theorem dX6_addSurface_0 : decode cX6_addSurface 0 = .ok (.aload_n 0, 1) := by decide +kernel
theorem dX6_addSurface_1 : decode cX6_addSurface 1 = .ok (.iload_n 1, 1) := by decide +kernel
theorem dX6_addSurface_2 : decode cX6_addSurface 2 = .ok (.invokevirtual 52, 3) := by decide +kernel
theorem dX6_addSurface_5 : decode cX6_addSurface 5 = .ok (.astore 4, 2) := by decide +kernel
theorem dX6_addSurface_7 : decode cX6_addSurface 7 = .ok (.iload_n 2, 1) := by decide +kernel
theorem dX6_addSurface_8 : decode cX6_addSurface 8 = .ok (.invokestatic 56, 3) := by decide +kernel
theorem dX6_addSurface_11 : decode cX6_addSurface 11 = .ok (.iload_n 3, 1) := by decide +kernel
theorem dX6_addSurface_12 : decode cX6_addSurface 12 = .ok (.iconst 0, 1) := by decide +kernel
theorem dX6_addSurface_13 : decode cX6_addSurface 13 = .ok (.bipush 99, 2) := by decide +kernel
theorem dX6_addSurface_15 : decode cX6_addSurface 15 = .ok (.invokestatic 59, 3) := by decide +kernel
theorem dX6_addSurface_18 : decode cX6_addSurface 18 = .ok (.ifCond .ne 13, 3) := by decide +kernel
theorem dX6_addSurface_21 : decode cX6_addSurface 21 = .ok (.new 63, 3) := by decide +kernel
theorem dX6_addSurface_24 : decode cX6_addSurface 24 = .ok (.dup, 1) := by decide +kernel
theorem dX6_addSurface_25 : decode cX6_addSurface 25 = .ok (.ldc 65, 2) := by decide +kernel
theorem dX6_addSurface_27 : decode cX6_addSurface 27 = .ok (.invokespecial 67, 3) := by decide +kernel
theorem dX6_addSurface_30 : decode cX6_addSurface 30 = .ok (.athrow, 1) := by decide +kernel
theorem dX6_addSurface_31 : decode cX6_addSurface 31 = .ok (.aload 4, 2) := by decide +kernel
theorem dX6_addSurface_33 : decode cX6_addSurface 33 = .ok (.invokevirtual 68, 3) := by decide +kernel
theorem dX6_addSurface_36 : decode cX6_addSurface 36 = .ok (.ifCond .eq 13, 3) := by decide +kernel
theorem dX6_addSurface_39 : decode cX6_addSurface 39 = .ok (.new 43, 3) := by decide +kernel
theorem dX6_addSurface_42 : decode cX6_addSurface 42 = .ok (.dup, 1) := by decide +kernel
theorem dX6_addSurface_43 : decode cX6_addSurface 43 = .ok (.ldc 72, 2) := by decide +kernel
theorem dX6_addSurface_45 : decode cX6_addSurface 45 = .ok (.invokespecial 47, 3) := by decide +kernel
theorem dX6_addSurface_48 : decode cX6_addSurface 48 = .ok (.athrow, 1) := by decide +kernel
theorem dX6_addSurface_49 : decode cX6_addSurface 49 = .ok (.aload 4, 2) := by decide +kernel
theorem dX6_addSurface_51 : decode cX6_addSurface 51 = .ok (.invokevirtual 74, 3) := by decide +kernel
theorem dX6_addSurface_54 : decode cX6_addSurface 54 = .ok (.aload 4, 2) := by decide +kernel
theorem dX6_addSurface_56 : decode cX6_addSurface 56 = .ok (.new 77, 3) := by decide +kernel
theorem dX6_addSurface_59 : decode cX6_addSurface 59 = .ok (.dup, 1) := by decide +kernel
theorem dX6_addSurface_60 : decode cX6_addSurface 60 = .ok (.iload_n 2, 1) := by decide +kernel
theorem dX6_addSurface_61 : decode cX6_addSurface 61 = .ok (.iload_n 3, 1) := by decide +kernel
theorem dX6_addSurface_62 : decode cX6_addSurface 62 = .ok (.invokespecial 79, 3) := by decide +kernel
theorem dX6_addSurface_65 : decode cX6_addSurface 65 = .ok (.invokevirtual 82, 3) := by decide +kernel
theorem dX6_addSurface_68 : decode cX6_addSurface 68 = .ok (.ireturn, 1) := by decide +kernel
theorem dX6_moveSurface_0 : decode cX6_moveSurface 0 = .ok (.aload_n 0, 1) := by decide +kernel
theorem dX6_moveSurface_1 : decode cX6_moveSurface 1 = .ok (.iload_n 1, 1) := by decide +kernel
theorem dX6_moveSurface_2 : decode cX6_moveSurface 2 = .ok (.invokevirtual 52, 3) := by decide +kernel
theorem dX6_moveSurface_5 : decode cX6_moveSurface 5 = .ok (.astore 4, 2) := by decide +kernel
theorem dX6_moveSurface_7 : decode cX6_moveSurface 7 = .ok (.aload 4, 2) := by decide +kernel
theorem dX6_moveSurface_9 : decode cX6_moveSurface 9 = .ok (.iload_n 2, 1) := by decide +kernel
theorem dX6_moveSurface_10 : decode cX6_moveSurface 10 = .ok (.invokestatic 86, 3) := by decide +kernel
theorem dX6_moveSurface_13 : decode cX6_moveSurface 13 = .ok (.astore 5, 2) := by decide +kernel
theorem dX6_moveSurface_15 : decode cX6_moveSurface 15 = .ok (.iload_n 3, 1) := by decide +kernel
theorem dX6_moveSurface_16 : decode cX6_moveSurface 16 = .ok (.invokestatic 56, 3) := by decide +kernel
theorem dX6_moveSurface_19 : decode cX6_moveSurface 19 = .ok (.aload 5, 2) := by decide +kernel
theorem dX6_moveSurface_21 : decode cX6_moveSurface 21 = .ok (.getfield 90, 3) := by decide +kernel
theorem dX6_moveSurface_24 : decode cX6_moveSurface 24 = .ok (.istore 6, 2) := by decide +kernel
theorem dX6_moveSurface_26 : decode cX6_moveSurface 26 = .ok (.aload 5, 2) := by decide +kernel
theorem dX6_moveSurface_28 : decode cX6_moveSurface 28 = .ok (.iload_n 3, 1) := by decide +kernel
theorem dX6_moveSurface_29 : decode cX6_moveSurface 29 = .ok (.putfield 90, 3) := by decide +kernel
theorem dX6_moveSurface_32 : decode cX6_moveSurface 32 = .ok (.aload 4, 2) := by decide +kernel
theorem dX6_moveSurface_34 : decode cX6_moveSurface 34 = .ok (.invokevirtual 74, 3) := by decide +kernel
theorem dX6_moveSurface_37 : decode cX6_moveSurface 37 = .ok (.iload 6, 2) := by decide +kernel
theorem dX6_moveSurface_39 : decode cX6_moveSurface 39 = .ok (.ireturn, 1) := by decide +kernel
theorem dX6_setDamping_0 : decode cX6_setDamping 0 = .ok (.aload_n 0, 1) := by decide +kernel
theorem dX6_setDamping_1 : decode cX6_setDamping 1 = .ok (.iload_n 1, 1) := by decide +kernel
theorem dX6_setDamping_2 : decode cX6_setDamping 2 = .ok (.invokevirtual 52, 3) := by decide +kernel
theorem dX6_setDamping_5 : decode cX6_setDamping 5 = .ok (.astore_n 3, 1) := by decide +kernel
theorem dX6_setDamping_6 : decode cX6_setDamping 6 = .ok (.iload_n 2, 1) := by decide +kernel
theorem dX6_setDamping_7 : decode cX6_setDamping 7 = .ok (.invokestatic 35, 3) := by decide +kernel
theorem dX6_setDamping_10 : decode cX6_setDamping 10 = .ok (.aload_n 3, 1) := by decide +kernel
theorem dX6_setDamping_11 : decode cX6_setDamping 11 = .ok (.getfield 93, 3) := by decide +kernel
theorem dX6_setDamping_14 : decode cX6_setDamping 14 = .ok (.istore 4, 2) := by decide +kernel
theorem dX6_setDamping_16 : decode cX6_setDamping 16 = .ok (.aload_n 3, 1) := by decide +kernel
theorem dX6_setDamping_17 : decode cX6_setDamping 17 = .ok (.iload_n 2, 1) := by decide +kernel
theorem dX6_setDamping_18 : decode cX6_setDamping 18 = .ok (.putfield 93, 3) := by decide +kernel
theorem dX6_setDamping_21 : decode cX6_setDamping 21 = .ok (.aload_n 3, 1) := by decide +kernel
theorem dX6_setDamping_22 : decode cX6_setDamping 22 = .ok (.invokevirtual 74, 3) := by decide +kernel
theorem dX6_setDamping_25 : decode cX6_setDamping 25 = .ok (.iload 4, 2) := by decide +kernel
theorem dX6_setDamping_27 : decode cX6_setDamping 27 = .ok (.ireturn, 1) := by decide +kernel
theorem dX6_clean_0 : decode cX6_clean 0 = .ok (.aload_n 0, 1) := by decide +kernel
theorem dX6_clean_1 : decode cX6_clean 1 = .ok (.iload_n 1, 1) := by decide +kernel
theorem dX6_clean_2 : decode cX6_clean 2 = .ok (.invokevirtual 52, 3) := by decide +kernel
theorem dX6_clean_5 : decode cX6_clean 5 = .ok (.astore_n 2, 1) := by decide +kernel
theorem dX6_clean_6 : decode cX6_clean 6 = .ok (.aload_n 2, 1) := by decide +kernel
theorem dX6_clean_7 : decode cX6_clean 7 = .ok (.getfield 96, 3) := by decide +kernel
theorem dX6_clean_10 : decode cX6_clean 10 = .ok (.istore_n 3, 1) := by decide +kernel
theorem dX6_clean_11 : decode cX6_clean 11 = .ok (.aload_n 2, 1) := by decide +kernel
theorem dX6_clean_12 : decode cX6_clean 12 = .ok (.iconst 0, 1) := by decide +kernel
theorem dX6_clean_13 : decode cX6_clean 13 = .ok (.putfield 96, 3) := by decide +kernel
theorem dX6_clean_16 : decode cX6_clean 16 = .ok (.iload_n 3, 1) := by decide +kernel
theorem dX6_clean_17 : decode cX6_clean 17 = .ok (.ireturn, 1) := by decide +kernel
theorem dX6_addStandard_0 : decode cX6_addStandard 0 = .ok (.iload_n 1, 1) := by decide +kernel
theorem dX6_addStandard_1 : decode cX6_addStandard 1 = .ok (.iconst 0, 1) := by decide +kernel
theorem dX6_addStandard_2 : decode cX6_addStandard 2 = .ok (.sipush 500, 3) := by decide +kernel
theorem dX6_addStandard_5 : decode cX6_addStandard 5 = .ok (.invokestatic 59, 3) := by decide +kernel
theorem dX6_addStandard_8 : decode cX6_addStandard 8 = .ok (.ifCond .eq 51, 3) := by decide +kernel
theorem dX6_addStandard_11 : decode cX6_addStandard 11 = .ok (.iload_n 2, 1) := by decide +kernel
theorem dX6_addStandard_12 : decode cX6_addStandard 12 = .ok (.iconst 1, 1) := by decide +kernel
theorem dX6_addStandard_13 : decode cX6_addStandard 13 = .ok (.sipush 1000, 3) := by decide +kernel
theorem dX6_addStandard_16 : decode cX6_addStandard 16 = .ok (.invokestatic 59, 3) := by decide +kernel
theorem dX6_addStandard_19 : decode cX6_addStandard 19 = .ok (.ifCond .eq 40, 3) := by decide +kernel
theorem dX6_addStandard_22 : decode cX6_addStandard 22 = .ok (.iload_n 3, 1) := by decide +kernel
theorem dX6_addStandard_23 : decode cX6_addStandard 23 = .ok (.iconst 0, 1) := by decide +kernel
theorem dX6_addStandard_24 : decode cX6_addStandard 24 = .ok (.bipush 99, 2) := by decide +kernel
theorem dX6_addStandard_26 : decode cX6_addStandard 26 = .ok (.invokestatic 59, 3) := by decide +kernel
theorem dX6_addStandard_29 : decode cX6_addStandard 29 = .ok (.ifCond .eq 30, 3) := by decide +kernel
theorem dX6_addStandard_32 : decode cX6_addStandard 32 = .ok (.iload 4, 2) := by decide +kernel
theorem dX6_addStandard_34 : decode cX6_addStandard 34 = .ok (.iconst 0, 1) := by decide +kernel
theorem dX6_addStandard_35 : decode cX6_addStandard 35 = .ok (.sipush 3000, 3) := by decide +kernel
theorem dX6_addStandard_38 : decode cX6_addStandard 38 = .ok (.invokestatic 59, 3) := by decide +kernel
theorem dX6_addStandard_41 : decode cX6_addStandard 41 = .ok (.ifCond .eq 18, 3) := by decide +kernel
theorem dX6_addStandard_44 : decode cX6_addStandard 44 = .ok (.iload 5, 2) := by decide +kernel
theorem dX6_addStandard_46 : decode cX6_addStandard 46 = .ok (.iconst 1, 1) := by decide +kernel
theorem dX6_addStandard_47 : decode cX6_addStandard 47 = .ok (.bipush 100, 2) := by decide +kernel
theorem dX6_addStandard_49 : decode cX6_addStandard 49 = .ok (.invokestatic 59, 3) := by decide +kernel
theorem dX6_addStandard_52 : decode cX6_addStandard 52 = .ok (.ifCond .eq 7, 3) := by decide +kernel
theorem dX6_addStandard_55 : decode cX6_addStandard 55 = .ok (.iconst 1, 1) := by decide +kernel
theorem dX6_addStandard_56 : decode cX6_addStandard 56 = .ok (.goto 4, 3) := by decide +kernel
theorem dX6_addStandard_59 : decode cX6_addStandard 59 = .ok (.iconst 0, 1) := by decide +kernel
theorem dX6_addStandard_60 : decode cX6_addStandard 60 = .ok (.istore 6, 2) := by decide +kernel
theorem dX6_addStandard_62 : decode cX6_addStandard 62 = .ok (.iload 6, 2) := by decide +kernel
theorem dX6_addStandard_64 : decode cX6_addStandard 64 = .ok (.ifCond .ne 13, 3) := by decide +kernel
theorem dX6_addStandard_67 : decode cX6_addStandard 67 = .ok (.new 63, 3) := by decide +kernel
theorem dX6_addStandard_70 : decode cX6_addStandard 70 = .ok (.dup, 1) := by decide +kernel
theorem dX6_addStandard_71 : decode cX6_addStandard 71 = .ok (.ldc 99, 2) := by decide +kernel
theorem dX6_addStandard_73 : decode cX6_addStandard 73 = .ok (.invokespecial 67, 3) := by decide +kernel
theorem dX6_addStandard_76 : decode cX6_addStandard 76 = .ok (.athrow, 1) := by decide +kernel
theorem dX6_addStandard_77 : decode cX6_addStandard 77 = .ok (.aload_n 0, 1) := by decide +kernel
theorem dX6_addStandard_78 : decode cX6_addStandard 78 = .ok (.getfield 101, 3) := by decide +kernel
theorem dX6_addStandard_81 : decode cX6_addStandard 81 = .ok (.aload_n 0, 1) := by decide +kernel
theorem dX6_addStandard_82 : decode cX6_addStandard 82 = .ok (.getfield 17, 3) := by decide +kernel
theorem dX6_addStandard_85 : decode cX6_addStandard 85 = .ok (.arraylength, 1) := by decide +kernel
theorem dX6_addStandard_86 : decode cX6_addStandard 86 = .ok (.if_icmp .lt 13, 3) := by decide +kernel
theorem dX6_addStandard_89 : decode cX6_addStandard 89 = .ok (.new 43, 3) := by decide +kernel
theorem dX6_addStandard_92 : decode cX6_addStandard 92 = .ok (.dup, 1) := by decide +kernel
theorem dX6_addStandard_93 : decode cX6_addStandard 93 = .ok (.ldc 104, 2) := by decide +kernel
theorem dX6_addStandard_95 : decode cX6_addStandard 95 = .ok (.invokespecial 47, 3) := by decide +kernel
theorem dX6_addStandard_98 : decode cX6_addStandard 98 = .ok (.athrow, 1) := by decide +kernel
theorem dX6_addStandard_99 : decode cX6_addStandard 99 = .ok (.aload_n 0, 1) := by decide +kernel
theorem dX6_addStandard_100 : decode cX6_addStandard 100 = .ok (.getfield 101, 3) := by decide +kernel
theorem dX6_addStandard_103 : decode cX6_addStandard 103 = .ok (.istore 7, 2) := by decide +kernel
theorem dX6_addStandard_105 : decode cX6_addStandard 105 = .ok (.aload_n 0, 1) := by decide +kernel
theorem dX6_addStandard_106 : decode cX6_addStandard 106 = .ok (.getfield 17, 3) := by decide +kernel
theorem dX6_addStandard_109 : decode cX6_addStandard 109 = .ok (.iload 7, 2) := by decide +kernel
theorem dX6_addStandard_111 : decode cX6_addStandard 111 = .ok (.new 15, 3) := by decide +kernel
theorem dX6_addStandard_114 : decode cX6_addStandard 114 = .ok (.dup, 1) := by decide +kernel
theorem dX6_addStandard_115 : decode cX6_addStandard 115 = .ok (.iload_n 1, 1) := by decide +kernel
theorem dX6_addStandard_116 : decode cX6_addStandard 116 = .ok (.iload_n 2, 1) := by decide +kernel
theorem dX6_addStandard_117 : decode cX6_addStandard 117 = .ok (.iload_n 3, 1) := by decide +kernel
theorem dX6_addStandard_118 : decode cX6_addStandard 118 = .ok (.iload 4, 2) := by decide +kernel
theorem dX6_addStandard_120 : decode cX6_addStandard 120 = .ok (.iload 5, 2) := by decide +kernel
theorem dX6_addStandard_122 : decode cX6_addStandard 122 = .ok (.invokespecial 106, 3) := by decide +kernel
theorem dX6_addStandard_125 : decode cX6_addStandard 125 = .ok (.aastore, 1) := by decide +kernel
theorem dX6_addStandard_126 : decode cX6_addStandard 126 = .ok (.aload_n 0, 1) := by decide +kernel
theorem dX6_addStandard_127 : decode cX6_addStandard 127 = .ok (.dup, 1) := by decide +kernel
theorem dX6_addStandard_128 : decode cX6_addStandard 128 = .ok (.getfield 101, 3) := by decide +kernel
theorem dX6_addStandard_131 : decode cX6_addStandard 131 = .ok (.iconst 1, 1) := by decide +kernel
theorem dX6_addStandard_132 : decode cX6_addStandard 132 = .ok (.iadd, 1) := by decide +kernel
theorem dX6_addStandard_133 : decode cX6_addStandard 133 = .ok (.putfield 101, 3) := by decide +kernel
theorem dX6_addStandard_136 : decode cX6_addStandard 136 = .ok (.iload 7, 2) := by decide +kernel
theorem dX6_addStandard_138 : decode cX6_addStandard 138 = .ok (.ireturn, 1) := by decide +kernel
theorem dX6_inspect_0 : decode cX6_inspect 0 = .ok (.aload_n 0, 1) := by decide +kernel
theorem dX6_inspect_1 : decode cX6_inspect 1 = .ok (.iload_n 1, 1) := by decide +kernel
theorem dX6_inspect_2 : decode cX6_inspect 2 = .ok (.invokevirtual 52, 3) := by decide +kernel
theorem dX6_inspect_5 : decode cX6_inspect 5 = .ok (.astore_n 3, 1) := by decide +kernel
theorem dX6_inspect_6 : decode cX6_inspect 6 = .ok (.aload_n 0, 1) := by decide +kernel
theorem dX6_inspect_7 : decode cX6_inspect 7 = .ok (.iload_n 2, 1) := by decide +kernel
theorem dX6_inspect_8 : decode cX6_inspect 8 = .ok (.invokevirtual 109, 3) := by decide +kernel
theorem dX6_inspect_11 : decode cX6_inspect 11 = .ok (.astore 4, 2) := by decide +kernel
theorem dX6_inspect_13 : decode cX6_inspect 13 = .ok (.aload_n 0, 1) := by decide +kernel
theorem dX6_inspect_14 : decode cX6_inspect 14 = .ok (.dup, 1) := by decide +kernel
theorem dX6_inspect_15 : decode cX6_inspect 15 = .ok (.getfield 113, 3) := by decide +kernel
theorem dX6_inspect_18 : decode cX6_inspect 18 = .ok (.iconst 1, 1) := by decide +kernel
theorem dX6_inspect_19 : decode cX6_inspect 19 = .ok (.iadd, 1) := by decide +kernel
theorem dX6_inspect_20 : decode cX6_inspect 20 = .ok (.putfield 113, 3) := by decide +kernel
theorem dX6_inspect_23 : decode cX6_inspect 23 = .ok (.aload_n 0, 1) := by decide +kernel
theorem dX6_inspect_24 : decode cX6_inspect 24 = .ok (.aload_n 3, 1) := by decide +kernel
theorem dX6_inspect_25 : decode cX6_inspect 25 = .ok (.aload 4, 2) := by decide +kernel
theorem dX6_inspect_27 : decode cX6_inspect 27 = .ok (.invokevirtual 116, 3) := by decide +kernel
theorem dX6_inspect_30 : decode cX6_inspect 30 = .ok (.istore 5, 2) := by decide +kernel
theorem dX6_inspect_32 : decode cX6_inspect 32 = .ok (.iload 5, 2) := by decide +kernel
theorem dX6_inspect_34 : decode cX6_inspect 34 = .ok (.ifCond .eq 16, 3) := by decide +kernel
theorem dX6_inspect_37 : decode cX6_inspect 37 = .ok (.aload_n 3, 1) := by decide +kernel
theorem dX6_inspect_38 : decode cX6_inspect 38 = .ok (.iload_n 2, 1) := by decide +kernel
theorem dX6_inspect_39 : decode cX6_inspect 39 = .ok (.aload 4, 2) := by decide +kernel
theorem dX6_inspect_41 : decode cX6_inspect 41 = .ok (.getfield 120, 3) := by decide +kernel
theorem dX6_inspect_44 : decode cX6_inspect 44 = .ok (.invokevirtual 123, 3) := by decide +kernel
theorem dX6_inspect_47 : decode cX6_inspect 47 = .ok (.goto 15, 3) := by decide +kernel
theorem dX6_inspect_50 : decode cX6_inspect 50 = .ok (.aload_n 3, 1) := by decide +kernel
theorem dX6_inspect_51 : decode cX6_inspect 51 = .ok (.getfield 126, 3) := by decide +kernel
theorem dX6_inspect_54 : decode cX6_inspect 54 = .ok (.iload_n 2, 1) := by decide +kernel
theorem dX6_inspect_55 : decode cX6_inspect 55 = .ok (.if_icmp .ne 7, 3) := by decide +kernel
theorem dX6_inspect_58 : decode cX6_inspect 58 = .ok (.aload_n 3, 1) := by decide +kernel
theorem dX6_inspect_59 : decode cX6_inspect 59 = .ok (.invokevirtual 74, 3) := by decide +kernel
theorem dX6_inspect_62 : decode cX6_inspect 62 = .ok (.iload 5, 2) := by decide +kernel
theorem dX6_inspect_64 : decode cX6_inspect 64 = .ok (.ireturn, 1) := by decide +kernel
theorem dX6_revoke_0 : decode cX6_revoke 0 = .ok (.aload_n 0, 1) := by decide +kernel
theorem dX6_revoke_1 : decode cX6_revoke 1 = .ok (.iload_n 1, 1) := by decide +kernel
theorem dX6_revoke_2 : decode cX6_revoke 2 = .ok (.invokevirtual 52, 3) := by decide +kernel
theorem dX6_revoke_5 : decode cX6_revoke 5 = .ok (.astore_n 2, 1) := by decide +kernel
theorem dX6_revoke_6 : decode cX6_revoke 6 = .ok (.aload_n 2, 1) := by decide +kernel
theorem dX6_revoke_7 : decode cX6_revoke 7 = .ok (.invokestatic 129, 3) := by decide +kernel
theorem dX6_revoke_10 : decode cX6_revoke 10 = .ok (.aload_n 2, 1) := by decide +kernel
theorem dX6_revoke_11 : decode cX6_revoke 11 = .ok (.getfield 133, 3) := by decide +kernel
theorem dX6_revoke_14 : decode cX6_revoke 14 = .ok (.istore_n 3, 1) := by decide +kernel
theorem dX6_revoke_15 : decode cX6_revoke 15 = .ok (.aload_n 2, 1) := by decide +kernel
theorem dX6_revoke_16 : decode cX6_revoke 16 = .ok (.invokevirtual 74, 3) := by decide +kernel
theorem dX6_revoke_19 : decode cX6_revoke 19 = .ok (.iload_n 3, 1) := by decide +kernel
theorem dX6_revoke_20 : decode cX6_revoke 20 = .ok (.ireturn, 1) := by decide +kernel
theorem dX6_passDays_0 : decode cX6_passDays 0 = .ok (.iload_n 1, 1) := by decide +kernel
theorem dX6_passDays_1 : decode cX6_passDays 1 = .ok (.iconst 1, 1) := by decide +kernel
theorem dX6_passDays_2 : decode cX6_passDays 2 = .ok (.bipush 100, 2) := by decide +kernel
theorem dX6_passDays_4 : decode cX6_passDays 4 = .ok (.invokestatic 59, 3) := by decide +kernel
theorem dX6_passDays_7 : decode cX6_passDays 7 = .ok (.ifCond .ne 13, 3) := by decide +kernel
theorem dX6_passDays_10 : decode cX6_passDays 10 = .ok (.new 63, 3) := by decide +kernel
theorem dX6_passDays_13 : decode cX6_passDays 13 = .ok (.dup, 1) := by decide +kernel
theorem dX6_passDays_14 : decode cX6_passDays 14 = .ok (.ldc 136, 2) := by decide +kernel
theorem dX6_passDays_16 : decode cX6_passDays 16 = .ok (.invokespecial 67, 3) := by decide +kernel
theorem dX6_passDays_19 : decode cX6_passDays 19 = .ok (.athrow, 1) := by decide +kernel
theorem dX6_passDays_20 : decode cX6_passDays 20 = .ok (.aload_n 0, 1) := by decide +kernel
theorem dX6_passDays_21 : decode cX6_passDays 21 = .ok (.getfield 11, 3) := by decide +kernel
theorem dX6_passDays_24 : decode cX6_passDays 24 = .ok (.astore_n 2, 1) := by decide +kernel
theorem dX6_passDays_25 : decode cX6_passDays 25 = .ok (.aload_n 2, 1) := by decide +kernel
theorem dX6_passDays_26 : decode cX6_passDays 26 = .ok (.arraylength, 1) := by decide +kernel
theorem dX6_passDays_27 : decode cX6_passDays 27 = .ok (.istore_n 3, 1) := by decide +kernel
theorem dX6_passDays_28 : decode cX6_passDays 28 = .ok (.iconst 0, 1) := by decide +kernel
theorem dX6_passDays_29 : decode cX6_passDays 29 = .ok (.istore 4, 2) := by decide +kernel
theorem dX6_passDays_31 : decode cX6_passDays 31 = .ok (.iload 4, 2) := by decide +kernel
theorem dX6_passDays_33 : decode cX6_passDays 33 = .ok (.iload_n 3, 1) := by decide +kernel
theorem dX6_passDays_34 : decode cX6_passDays 34 = .ok (.if_icmp .ge 26, 3) := by decide +kernel
theorem dX6_passDays_37 : decode cX6_passDays 37 = .ok (.aload_n 2, 1) := by decide +kernel
theorem dX6_passDays_38 : decode cX6_passDays 38 = .ok (.iload 4, 2) := by decide +kernel
theorem dX6_passDays_40 : decode cX6_passDays 40 = .ok (.aaload, 1) := by decide +kernel
theorem dX6_passDays_41 : decode cX6_passDays 41 = .ok (.astore 5, 2) := by decide +kernel
theorem dX6_passDays_43 : decode cX6_passDays 43 = .ok (.aload 5, 2) := by decide +kernel
theorem dX6_passDays_45 : decode cX6_passDays 45 = .ok (.ifnull 9, 3) := by decide +kernel
theorem dX6_passDays_48 : decode cX6_passDays 48 = .ok (.aload 5, 2) := by decide +kernel
theorem dX6_passDays_50 : decode cX6_passDays 50 = .ok (.iload_n 1, 1) := by decide +kernel
theorem dX6_passDays_51 : decode cX6_passDays 51 = .ok (.invokevirtual 138, 3) := by decide +kernel
theorem dX6_passDays_54 : decode cX6_passDays 54 = .ok (.iinc 4 1, 3) := by decide +kernel
theorem dX6_passDays_57 : decode cX6_passDays 57 = .ok (.goto (-26), 3) := by decide +kernel
theorem dX6_passDays_60 : decode cX6_passDays 60 = .ok (.aload_n 0, 1) := by decide +kernel
theorem dX6_passDays_61 : decode cX6_passDays 61 = .ok (.dup, 1) := by decide +kernel
theorem dX6_passDays_62 : decode cX6_passDays 62 = .ok (.getfield 141, 3) := by decide +kernel
theorem dX6_passDays_65 : decode cX6_passDays 65 = .ok (.iload_n 1, 1) := by decide +kernel
theorem dX6_passDays_66 : decode cX6_passDays 66 = .ok (.iadd, 1) := by decide +kernel
theorem dX6_passDays_67 : decode cX6_passDays 67 = .ok (.putfield 141, 3) := by decide +kernel
theorem dX6_passDays_70 : decode cX6_passDays 70 = .ok (.aload_n 0, 1) := by decide +kernel
theorem dX6_passDays_71 : decode cX6_passDays 71 = .ok (.invokevirtual 144, 3) := by decide +kernel
theorem dX6_passDays_74 : decode cX6_passDays 74 = .ok (.ireturn, 1) := by decide +kernel
theorem dX6_surfacesOf_0 : decode cX6_surfacesOf 0 = .ok (.aload_n 0, 1) := by decide +kernel
theorem dX6_surfacesOf_1 : decode cX6_surfacesOf 1 = .ok (.iload_n 1, 1) := by decide +kernel
theorem dX6_surfacesOf_2 : decode cX6_surfacesOf 2 = .ok (.invokevirtual 52, 3) := by decide +kernel
theorem dX6_surfacesOf_5 : decode cX6_surfacesOf 5 = .ok (.getfield 148, 3) := by decide +kernel
theorem dX6_surfacesOf_8 : decode cX6_surfacesOf 8 = .ok (.ireturn, 1) := by decide +kernel
theorem dX6_distanceOf_0 : decode cX6_distanceOf 0 = .ok (.aload_n 0, 1) := by decide +kernel
theorem dX6_distanceOf_1 : decode cX6_distanceOf 1 = .ok (.iload_n 1, 1) := by decide +kernel
theorem dX6_distanceOf_2 : decode cX6_distanceOf 2 = .ok (.invokevirtual 52, 3) := by decide +kernel
theorem dX6_distanceOf_5 : decode cX6_distanceOf 5 = .ok (.iload_n 2, 1) := by decide +kernel
theorem dX6_distanceOf_6 : decode cX6_distanceOf 6 = .ok (.invokestatic 86, 3) := by decide +kernel
theorem dX6_distanceOf_9 : decode cX6_distanceOf 9 = .ok (.getfield 90, 3) := by decide +kernel
theorem dX6_distanceOf_12 : decode cX6_distanceOf 12 = .ok (.ireturn, 1) := by decide +kernel
theorem dX6_hardnessOf_0 : decode cX6_hardnessOf 0 = .ok (.aload_n 0, 1) := by decide +kernel
theorem dX6_hardnessOf_1 : decode cX6_hardnessOf 1 = .ok (.iload_n 1, 1) := by decide +kernel
theorem dX6_hardnessOf_2 : decode cX6_hardnessOf 2 = .ok (.invokevirtual 52, 3) := by decide +kernel
theorem dX6_hardnessOf_5 : decode cX6_hardnessOf 5 = .ok (.astore_n 3, 1) := by decide +kernel
theorem dX6_hardnessOf_6 : decode cX6_hardnessOf 6 = .ok (.aload_n 3, 1) := by decide +kernel
theorem dX6_hardnessOf_7 : decode cX6_hardnessOf 7 = .ok (.iload_n 2, 1) := by decide +kernel
theorem dX6_hardnessOf_8 : decode cX6_hardnessOf 8 = .ok (.invokestatic 86, 3) := by decide +kernel
theorem dX6_hardnessOf_11 : decode cX6_hardnessOf 11 = .ok (.aload_n 3, 1) := by decide +kernel
theorem dX6_hardnessOf_12 : decode cX6_hardnessOf 12 = .ok (.getfield 96, 3) := by decide +kernel
theorem dX6_hardnessOf_15 : decode cX6_hardnessOf 15 = .ok (.invokevirtual 151, 3) := by decide +kernel
theorem dX6_hardnessOf_18 : decode cX6_hardnessOf 18 = .ok (.ireturn, 1) := by decide +kernel
theorem dX6_dampingOf_0 : decode cX6_dampingOf 0 = .ok (.aload_n 0, 1) := by decide +kernel
theorem dX6_dampingOf_1 : decode cX6_dampingOf 1 = .ok (.iload_n 1, 1) := by decide +kernel
theorem dX6_dampingOf_2 : decode cX6_dampingOf 2 = .ok (.invokevirtual 52, 3) := by decide +kernel
theorem dX6_dampingOf_5 : decode cX6_dampingOf 5 = .ok (.getfield 93, 3) := by decide +kernel
theorem dX6_dampingOf_8 : decode cX6_dampingOf 8 = .ok (.ireturn, 1) := by decide +kernel
theorem dX6_dustOf_0 : decode cX6_dustOf 0 = .ok (.aload_n 0, 1) := by decide +kernel
theorem dX6_dustOf_1 : decode cX6_dustOf 1 = .ok (.iload_n 1, 1) := by decide +kernel
theorem dX6_dustOf_2 : decode cX6_dustOf 2 = .ok (.invokevirtual 52, 3) := by decide +kernel
theorem dX6_dustOf_5 : decode cX6_dustOf 5 = .ok (.getfield 96, 3) := by decide +kernel
theorem dX6_dustOf_8 : decode cX6_dustOf 8 = .ok (.ireturn, 1) := by decide +kernel
theorem dX6_echoes_0 : decode cX6_echoes 0 = .ok (.aload_n 0, 1) := by decide +kernel
theorem dX6_echoes_1 : decode cX6_echoes 1 = .ok (.iload_n 1, 1) := by decide +kernel
theorem dX6_echoes_2 : decode cX6_echoes 2 = .ok (.iload_n 2, 1) := by decide +kernel
theorem dX6_echoes_3 : decode cX6_echoes 3 = .ok (.invokevirtual 155, 3) := by decide +kernel
theorem dX6_echoes_6 : decode cX6_echoes 6 = .ok (.getfield 159, 3) := by decide +kernel
theorem dX6_echoes_9 : decode cX6_echoes 9 = .ok (.ireturn, 1) := by decide +kernel
theorem dX6_loudEchoes_0 : decode cX6_loudEchoes 0 = .ok (.aload_n 0, 1) := by decide +kernel
theorem dX6_loudEchoes_1 : decode cX6_loudEchoes 1 = .ok (.iload_n 1, 1) := by decide +kernel
theorem dX6_loudEchoes_2 : decode cX6_loudEchoes 2 = .ok (.invokevirtual 52, 3) := by decide +kernel
theorem dX6_loudEchoes_5 : decode cX6_loudEchoes 5 = .ok (.astore 4, 2) := by decide +kernel
theorem dX6_loudEchoes_7 : decode cX6_loudEchoes 7 = .ok (.iload_n 2, 1) := by decide +kernel
theorem dX6_loudEchoes_8 : decode cX6_loudEchoes 8 = .ok (.invokestatic 162, 3) := by decide +kernel
theorem dX6_loudEchoes_11 : decode cX6_loudEchoes 11 = .ok (.iload_n 3, 1) := by decide +kernel
theorem dX6_loudEchoes_12 : decode cX6_loudEchoes 12 = .ok (.invokestatic 162, 3) := by decide +kernel
theorem dX6_loudEchoes_15 : decode cX6_loudEchoes 15 = .ok (.aload_n 0, 1) := by decide +kernel
theorem dX6_loudEchoes_16 : decode cX6_loudEchoes 16 = .ok (.aload 4, 2) := by decide +kernel
theorem dX6_loudEchoes_18 : decode cX6_loudEchoes 18 = .ok (.iload_n 2, 1) := by decide +kernel
theorem dX6_loudEchoes_19 : decode cX6_loudEchoes 19 = .ok (.iload_n 3, 1) := by decide +kernel
theorem dX6_loudEchoes_20 : decode cX6_loudEchoes 20 = .ok (.invokevirtual 165, 3) := by decide +kernel
theorem dX6_loudEchoes_23 : decode cX6_loudEchoes 23 = .ok (.getfield 169, 3) := by decide +kernel
theorem dX6_loudEchoes_26 : decode cX6_loudEchoes 26 = .ok (.ireturn, 1) := by decide +kernel
theorem dX6_firstEcho_0 : decode cX6_firstEcho 0 = .ok (.aload_n 0, 1) := by decide +kernel
theorem dX6_firstEcho_1 : decode cX6_firstEcho 1 = .ok (.iload_n 1, 1) := by decide +kernel
theorem dX6_firstEcho_2 : decode cX6_firstEcho 2 = .ok (.iload_n 2, 1) := by decide +kernel
theorem dX6_firstEcho_3 : decode cX6_firstEcho 3 = .ok (.invokevirtual 155, 3) := by decide +kernel
theorem dX6_firstEcho_6 : decode cX6_firstEcho 6 = .ok (.getfield 172, 3) := by decide +kernel
theorem dX6_firstEcho_9 : decode cX6_firstEcho 9 = .ok (.ireturn, 1) := by decide +kernel
theorem dX6_lastEcho_0 : decode cX6_lastEcho 0 = .ok (.aload_n 0, 1) := by decide +kernel
theorem dX6_lastEcho_1 : decode cX6_lastEcho 1 = .ok (.iload_n 1, 1) := by decide +kernel
theorem dX6_lastEcho_2 : decode cX6_lastEcho 2 = .ok (.iload_n 2, 1) := by decide +kernel
theorem dX6_lastEcho_3 : decode cX6_lastEcho 3 = .ok (.invokevirtual 155, 3) := by decide +kernel
theorem dX6_lastEcho_6 : decode cX6_lastEcho 6 = .ok (.getfield 175, 3) := by decide +kernel
theorem dX6_lastEcho_9 : decode cX6_lastEcho 9 = .ok (.ireturn, 1) := by decide +kernel
theorem dX6_loudnessAt_0 : decode cX6_loudnessAt 0 = .ok (.aload_n 0, 1) := by decide +kernel
theorem dX6_loudnessAt_1 : decode cX6_loudnessAt 1 = .ok (.iload_n 1, 1) := by decide +kernel
theorem dX6_loudnessAt_2 : decode cX6_loudnessAt 2 = .ok (.invokevirtual 52, 3) := by decide +kernel
theorem dX6_loudnessAt_5 : decode cX6_loudnessAt 5 = .ok (.astore 4, 2) := by decide +kernel
theorem dX6_loudnessAt_7 : decode cX6_loudnessAt 7 = .ok (.iload_n 2, 1) := by decide +kernel
theorem dX6_loudnessAt_8 : decode cX6_loudnessAt 8 = .ok (.invokestatic 162, 3) := by decide +kernel
theorem dX6_loudnessAt_11 : decode cX6_loudnessAt 11 = .ok (.iload_n 3, 1) := by decide +kernel
theorem dX6_loudnessAt_12 : decode cX6_loudnessAt 12 = .ok (.iconst 0, 1) := by decide +kernel
theorem dX6_loudnessAt_13 : decode cX6_loudnessAt 13 = .ok (.sipush 3000, 3) := by decide +kernel
theorem dX6_loudnessAt_16 : decode cX6_loudnessAt 16 = .ok (.invokestatic 59, 3) := by decide +kernel
theorem dX6_loudnessAt_19 : decode cX6_loudnessAt 19 = .ok (.ifCond .ne 13, 3) := by decide +kernel
theorem dX6_loudnessAt_22 : decode cX6_loudnessAt 22 = .ok (.new 63, 3) := by decide +kernel
theorem dX6_loudnessAt_25 : decode cX6_loudnessAt 25 = .ok (.dup, 1) := by decide +kernel
theorem dX6_loudnessAt_26 : decode cX6_loudnessAt 26 = .ok (.ldc 178, 2) := by decide +kernel
theorem dX6_loudnessAt_28 : decode cX6_loudnessAt 28 = .ok (.invokespecial 67, 3) := by decide +kernel
theorem dX6_loudnessAt_31 : decode cX6_loudnessAt 31 = .ok (.athrow, 1) := by decide +kernel
theorem dX6_loudnessAt_32 : decode cX6_loudnessAt 32 = .ok (.aload_n 0, 1) := by decide +kernel
theorem dX6_loudnessAt_33 : decode cX6_loudnessAt 33 = .ok (.aload 4, 2) := by decide +kernel
theorem dX6_loudnessAt_35 : decode cX6_loudnessAt 35 = .ok (.iload_n 2, 1) := by decide +kernel
theorem dX6_loudnessAt_36 : decode cX6_loudnessAt 36 = .ok (.invokevirtual 180, 3) := by decide +kernel
theorem dX6_loudnessAt_39 : decode cX6_loudnessAt 39 = .ok (.iload_n 3, 1) := by decide +kernel
theorem dX6_loudnessAt_40 : decode cX6_loudnessAt 40 = .ok (.invokevirtual 184, 3) := by decide +kernel
theorem dX6_loudnessAt_43 : decode cX6_loudnessAt 43 = .ok (.ireturn, 1) := by decide +kernel
theorem dX6_loudestMoment_0 : decode cX6_loudestMoment 0 = .ok (.aload_n 0, 1) := by decide +kernel
theorem dX6_loudestMoment_1 : decode cX6_loudestMoment 1 = .ok (.iload_n 1, 1) := by decide +kernel
theorem dX6_loudestMoment_2 : decode cX6_loudestMoment 2 = .ok (.invokevirtual 52, 3) := by decide +kernel
theorem dX6_loudestMoment_5 : decode cX6_loudestMoment 5 = .ok (.astore_n 3, 1) := by decide +kernel
theorem dX6_loudestMoment_6 : decode cX6_loudestMoment 6 = .ok (.iload_n 2, 1) := by decide +kernel
theorem dX6_loudestMoment_7 : decode cX6_loudestMoment 7 = .ok (.invokestatic 162, 3) := by decide +kernel
theorem dX6_loudestMoment_10 : decode cX6_loudestMoment 10 = .ok (.aload_n 0, 1) := by decide +kernel
theorem dX6_loudestMoment_11 : decode cX6_loudestMoment 11 = .ok (.aload_n 3, 1) := by decide +kernel
theorem dX6_loudestMoment_12 : decode cX6_loudestMoment 12 = .ok (.iload_n 2, 1) := by decide +kernel
theorem dX6_loudestMoment_13 : decode cX6_loudestMoment 13 = .ok (.invokevirtual 180, 3) := by decide +kernel
theorem dX6_loudestMoment_16 : decode cX6_loudestMoment 16 = .ok (.invokevirtual 187, 3) := by decide +kernel
theorem dX6_loudestMoment_19 : decode cX6_loudestMoment 19 = .ok (.ireturn, 1) := by decide +kernel
theorem dX6_meets_0 : decode cX6_meets 0 = .ok (.aload_n 0, 1) := by decide +kernel
theorem dX6_meets_1 : decode cX6_meets 1 = .ok (.iload_n 1, 1) := by decide +kernel
theorem dX6_meets_2 : decode cX6_meets 2 = .ok (.invokevirtual 52, 3) := by decide +kernel
theorem dX6_meets_5 : decode cX6_meets 5 = .ok (.astore_n 3, 1) := by decide +kernel
theorem dX6_meets_6 : decode cX6_meets 6 = .ok (.aload_n 0, 1) := by decide +kernel
theorem dX6_meets_7 : decode cX6_meets 7 = .ok (.aload_n 3, 1) := by decide +kernel
theorem dX6_meets_8 : decode cX6_meets 8 = .ok (.aload_n 0, 1) := by decide +kernel
theorem dX6_meets_9 : decode cX6_meets 9 = .ok (.iload_n 2, 1) := by decide +kernel
theorem dX6_meets_10 : decode cX6_meets 10 = .ok (.invokevirtual 109, 3) := by decide +kernel
theorem dX6_meets_13 : decode cX6_meets 13 = .ok (.invokevirtual 116, 3) := by decide +kernel
theorem dX6_meets_16 : decode cX6_meets 16 = .ok (.ireturn, 1) := by decide +kernel
theorem dX6_hallsMeeting_0 : decode cX6_hallsMeeting 0 = .ok (.aload_n 0, 1) := by decide +kernel
theorem dX6_hallsMeeting_1 : decode cX6_hallsMeeting 1 = .ok (.iload_n 1, 1) := by decide +kernel
theorem dX6_hallsMeeting_2 : decode cX6_hallsMeeting 2 = .ok (.invokevirtual 109, 3) := by decide +kernel
theorem dX6_hallsMeeting_5 : decode cX6_hallsMeeting 5 = .ok (.astore_n 2, 1) := by decide +kernel
theorem dX6_hallsMeeting_6 : decode cX6_hallsMeeting 6 = .ok (.iconst 0, 1) := by decide +kernel
theorem dX6_hallsMeeting_7 : decode cX6_hallsMeeting 7 = .ok (.istore_n 3, 1) := by decide +kernel
theorem dX6_hallsMeeting_8 : decode cX6_hallsMeeting 8 = .ok (.aload_n 0, 1) := by decide +kernel
theorem dX6_hallsMeeting_9 : decode cX6_hallsMeeting 9 = .ok (.getfield 11, 3) := by decide +kernel
theorem dX6_hallsMeeting_12 : decode cX6_hallsMeeting 12 = .ok (.astore 4, 2) := by decide +kernel
theorem dX6_hallsMeeting_14 : decode cX6_hallsMeeting 14 = .ok (.aload 4, 2) := by decide +kernel
theorem dX6_hallsMeeting_16 : decode cX6_hallsMeeting 16 = .ok (.arraylength, 1) := by decide +kernel
theorem dX6_hallsMeeting_17 : decode cX6_hallsMeeting 17 = .ok (.istore 5, 2) := by decide +kernel
theorem dX6_hallsMeeting_19 : decode cX6_hallsMeeting 19 = .ok (.iconst 0, 1) := by decide +kernel
theorem dX6_hallsMeeting_20 : decode cX6_hallsMeeting 20 = .ok (.istore 6, 2) := by decide +kernel
theorem dX6_hallsMeeting_22 : decode cX6_hallsMeeting 22 = .ok (.iload 6, 2) := by decide +kernel
theorem dX6_hallsMeeting_24 : decode cX6_hallsMeeting 24 = .ok (.iload 5, 2) := by decide +kernel
theorem dX6_hallsMeeting_26 : decode cX6_hallsMeeting 26 = .ok (.if_icmp .ge 34, 3) := by decide +kernel
theorem dX6_hallsMeeting_29 : decode cX6_hallsMeeting 29 = .ok (.aload 4, 2) := by decide +kernel
theorem dX6_hallsMeeting_31 : decode cX6_hallsMeeting 31 = .ok (.iload 6, 2) := by decide +kernel
theorem dX6_hallsMeeting_33 : decode cX6_hallsMeeting 33 = .ok (.aaload, 1) := by decide +kernel
theorem dX6_hallsMeeting_34 : decode cX6_hallsMeeting 34 = .ok (.astore 7, 2) := by decide +kernel
theorem dX6_hallsMeeting_36 : decode cX6_hallsMeeting 36 = .ok (.aload 7, 2) := by decide +kernel
theorem dX6_hallsMeeting_38 : decode cX6_hallsMeeting 38 = .ok (.ifnull 16, 3) := by decide +kernel
theorem dX6_hallsMeeting_41 : decode cX6_hallsMeeting 41 = .ok (.aload_n 0, 1) := by decide +kernel
theorem dX6_hallsMeeting_42 : decode cX6_hallsMeeting 42 = .ok (.aload 7, 2) := by decide +kernel
theorem dX6_hallsMeeting_44 : decode cX6_hallsMeeting 44 = .ok (.aload_n 2, 1) := by decide +kernel
theorem dX6_hallsMeeting_45 : decode cX6_hallsMeeting 45 = .ok (.invokevirtual 116, 3) := by decide +kernel
theorem dX6_hallsMeeting_48 : decode cX6_hallsMeeting 48 = .ok (.ifCond .eq 6, 3) := by decide +kernel
theorem dX6_hallsMeeting_51 : decode cX6_hallsMeeting 51 = .ok (.iinc 3 1, 3) := by decide +kernel
theorem dX6_hallsMeeting_54 : decode cX6_hallsMeeting 54 = .ok (.iinc 6 1, 3) := by decide +kernel
theorem dX6_hallsMeeting_57 : decode cX6_hallsMeeting 57 = .ok (.goto (-35), 3) := by decide +kernel
theorem dX6_hallsMeeting_60 : decode cX6_hallsMeeting 60 = .ok (.iload_n 3, 1) := by decide +kernel
theorem dX6_hallsMeeting_61 : decode cX6_hallsMeeting 61 = .ok (.ireturn, 1) := by decide +kernel
theorem dX6_isCertified_0 : decode cX6_isCertified 0 = .ok (.aload_n 0, 1) := by decide +kernel
theorem dX6_isCertified_1 : decode cX6_isCertified 1 = .ok (.iload_n 1, 1) := by decide +kernel
theorem dX6_isCertified_2 : decode cX6_isCertified 2 = .ok (.invokevirtual 52, 3) := by decide +kernel
theorem dX6_isCertified_5 : decode cX6_isCertified 5 = .ok (.invokevirtual 190, 3) := by decide +kernel
theorem dX6_isCertified_8 : decode cX6_isCertified 8 = .ok (.ireturn, 1) := by decide +kernel
theorem dX6_certifiedBy_0 : decode cX6_certifiedBy 0 = .ok (.aload_n 0, 1) := by decide +kernel
theorem dX6_certifiedBy_1 : decode cX6_certifiedBy 1 = .ok (.iload_n 1, 1) := by decide +kernel
theorem dX6_certifiedBy_2 : decode cX6_certifiedBy 2 = .ok (.invokevirtual 52, 3) := by decide +kernel
theorem dX6_certifiedBy_5 : decode cX6_certifiedBy 5 = .ok (.astore_n 2, 1) := by decide +kernel
theorem dX6_certifiedBy_6 : decode cX6_certifiedBy 6 = .ok (.aload_n 2, 1) := by decide +kernel
theorem dX6_certifiedBy_7 : decode cX6_certifiedBy 7 = .ok (.invokestatic 129, 3) := by decide +kernel
theorem dX6_certifiedBy_10 : decode cX6_certifiedBy 10 = .ok (.aload_n 2, 1) := by decide +kernel
theorem dX6_certifiedBy_11 : decode cX6_certifiedBy 11 = .ok (.getfield 126, 3) := by decide +kernel
theorem dX6_certifiedBy_14 : decode cX6_certifiedBy 14 = .ok (.ireturn, 1) := by decide +kernel
theorem dX6_daysLeft_0 : decode cX6_daysLeft 0 = .ok (.aload_n 0, 1) := by decide +kernel
theorem dX6_daysLeft_1 : decode cX6_daysLeft 1 = .ok (.iload_n 1, 1) := by decide +kernel
theorem dX6_daysLeft_2 : decode cX6_daysLeft 2 = .ok (.invokevirtual 52, 3) := by decide +kernel
theorem dX6_daysLeft_5 : decode cX6_daysLeft 5 = .ok (.getfield 133, 3) := by decide +kernel
theorem dX6_daysLeft_8 : decode cX6_daysLeft 8 = .ok (.ireturn, 1) := by decide +kernel
theorem dX6_halls_0 : decode cX6_halls 0 = .ok (.aload_n 0, 1) := by decide +kernel
theorem dX6_halls_1 : decode cX6_halls 1 = .ok (.getfield 39, 3) := by decide +kernel
theorem dX6_halls_4 : decode cX6_halls 4 = .ok (.ireturn, 1) := by decide +kernel
theorem dX6_standards_0 : decode cX6_standards 0 = .ok (.aload_n 0, 1) := by decide +kernel
theorem dX6_standards_1 : decode cX6_standards 1 = .ok (.getfield 101, 3) := by decide +kernel
theorem dX6_standards_4 : decode cX6_standards 4 = .ok (.ireturn, 1) := by decide +kernel
theorem dX6_day_0 : decode cX6_day 0 = .ok (.aload_n 0, 1) := by decide +kernel
theorem dX6_day_1 : decode cX6_day 1 = .ok (.getfield 141, 3) := by decide +kernel
theorem dX6_day_4 : decode cX6_day 4 = .ok (.ireturn, 1) := by decide +kernel
theorem dX6_inspections_0 : decode cX6_inspections 0 = .ok (.aload_n 0, 1) := by decide +kernel
theorem dX6_inspections_1 : decode cX6_inspections 1 = .ok (.getfield 113, 3) := by decide +kernel
theorem dX6_inspections_4 : decode cX6_inspections 4 = .ok (.ireturn, 1) := by decide +kernel
theorem dX6_certifiedHalls_0 : decode cX6_certifiedHalls 0 = .ok (.aload_n 0, 1) := by decide +kernel
theorem dX6_certifiedHalls_1 : decode cX6_certifiedHalls 1 = .ok (.invokevirtual 144, 3) := by decide +kernel
theorem dX6_certifiedHalls_4 : decode cX6_certifiedHalls 4 = .ok (.ireturn, 1) := by decide +kernel
theorem dX6_meetsWithDamping_0 : decode cX6_meetsWithDamping 0 = .ok (.aload_n 0, 1) := by decide +kernel
theorem dX6_meetsWithDamping_1 : decode cX6_meetsWithDamping 1 = .ok (.iload_n 1, 1) := by decide +kernel
theorem dX6_meetsWithDamping_2 : decode cX6_meetsWithDamping 2 = .ok (.invokevirtual 52, 3) := by decide +kernel
theorem dX6_meetsWithDamping_5 : decode cX6_meetsWithDamping 5 = .ok (.astore 4, 2) := by decide +kernel
theorem dX6_meetsWithDamping_7 : decode cX6_meetsWithDamping 7 = .ok (.aload_n 0, 1) := by decide +kernel
theorem dX6_meetsWithDamping_8 : decode cX6_meetsWithDamping 8 = .ok (.iload_n 2, 1) := by decide +kernel
theorem dX6_meetsWithDamping_9 : decode cX6_meetsWithDamping 9 = .ok (.invokevirtual 109, 3) := by decide +kernel
theorem dX6_meetsWithDamping_12 : decode cX6_meetsWithDamping 12 = .ok (.astore 5, 2) := by decide +kernel
theorem dX6_meetsWithDamping_14 : decode cX6_meetsWithDamping 14 = .ok (.iload_n 3, 1) := by decide +kernel
theorem dX6_meetsWithDamping_15 : decode cX6_meetsWithDamping 15 = .ok (.invokestatic 35, 3) := by decide +kernel
theorem dX6_meetsWithDamping_18 : decode cX6_meetsWithDamping 18 = .ok (.aload_n 0, 1) := by decide +kernel
theorem dX6_meetsWithDamping_19 : decode cX6_meetsWithDamping 19 = .ok (.aload 4, 2) := by decide +kernel
theorem dX6_meetsWithDamping_21 : decode cX6_meetsWithDamping 21 = .ok (.aload 5, 2) := by decide +kernel
theorem dX6_meetsWithDamping_23 : decode cX6_meetsWithDamping 23 = .ok (.iload_n 3, 1) := by decide +kernel
theorem dX6_meetsWithDamping_24 : decode cX6_meetsWithDamping 24 = .ok (.aload 4, 2) := by decide +kernel
theorem dX6_meetsWithDamping_26 : decode cX6_meetsWithDamping 26 = .ok (.getfield 96, 3) := by decide +kernel
theorem dX6_meetsWithDamping_29 : decode cX6_meetsWithDamping 29 = .ok (.invokevirtual 193, 3) := by decide +kernel
theorem dX6_meetsWithDamping_32 : decode cX6_meetsWithDamping 32 = .ok (.ireturn, 1) := by decide +kernel
theorem dX6_leastDamping_0 : decode cX6_leastDamping 0 = .ok (.aload_n 0, 1) := by decide +kernel
theorem dX6_leastDamping_1 : decode cX6_leastDamping 1 = .ok (.iload_n 1, 1) := by decide +kernel
theorem dX6_leastDamping_2 : decode cX6_leastDamping 2 = .ok (.invokevirtual 52, 3) := by decide +kernel
theorem dX6_leastDamping_5 : decode cX6_leastDamping 5 = .ok (.astore_n 3, 1) := by decide +kernel
theorem dX6_leastDamping_6 : decode cX6_leastDamping 6 = .ok (.aload_n 0, 1) := by decide +kernel
theorem dX6_leastDamping_7 : decode cX6_leastDamping 7 = .ok (.iload_n 2, 1) := by decide +kernel
theorem dX6_leastDamping_8 : decode cX6_leastDamping 8 = .ok (.invokevirtual 109, 3) := by decide +kernel
theorem dX6_leastDamping_11 : decode cX6_leastDamping 11 = .ok (.astore 4, 2) := by decide +kernel
theorem dX6_leastDamping_13 : decode cX6_leastDamping 13 = .ok (.iconst 0, 1) := by decide +kernel
theorem dX6_leastDamping_14 : decode cX6_leastDamping 14 = .ok (.istore 5, 2) := by decide +kernel
theorem dX6_leastDamping_16 : decode cX6_leastDamping 16 = .ok (.iload 5, 2) := by decide +kernel
theorem dX6_leastDamping_18 : decode cX6_leastDamping 18 = .ok (.bipush 90, 2) := by decide +kernel
theorem dX6_leastDamping_20 : decode cX6_leastDamping 20 = .ok (.if_icmp .gt 28, 3) := by decide +kernel
theorem dX6_leastDamping_23 : decode cX6_leastDamping 23 = .ok (.aload_n 0, 1) := by decide +kernel
theorem dX6_leastDamping_24 : decode cX6_leastDamping 24 = .ok (.aload_n 3, 1) := by decide +kernel
theorem dX6_leastDamping_25 : decode cX6_leastDamping 25 = .ok (.aload 4, 2) := by decide +kernel
theorem dX6_leastDamping_27 : decode cX6_leastDamping 27 = .ok (.iload 5, 2) := by decide +kernel
theorem dX6_leastDamping_29 : decode cX6_leastDamping 29 = .ok (.aload_n 3, 1) := by decide +kernel
theorem dX6_leastDamping_30 : decode cX6_leastDamping 30 = .ok (.getfield 96, 3) := by decide +kernel
theorem dX6_leastDamping_33 : decode cX6_leastDamping 33 = .ok (.invokevirtual 193, 3) := by decide +kernel
theorem dX6_leastDamping_36 : decode cX6_leastDamping 36 = .ok (.ifCond .eq 6, 3) := by decide +kernel
theorem dX6_leastDamping_39 : decode cX6_leastDamping 39 = .ok (.iload 5, 2) := by decide +kernel
theorem dX6_leastDamping_41 : decode cX6_leastDamping 41 = .ok (.ireturn, 1) := by decide +kernel
theorem dX6_leastDamping_42 : decode cX6_leastDamping 42 = .ok (.iinc 5 1, 3) := by decide +kernel
theorem dX6_leastDamping_45 : decode cX6_leastDamping 45 = .ok (.goto (-29), 3) := by decide +kernel
theorem dX6_leastDamping_48 : decode cX6_leastDamping 48 = .ok (.iconst (-1), 1) := by decide +kernel
theorem dX6_leastDamping_49 : decode cX6_leastDamping 49 = .ok (.ireturn, 1) := by decide +kernel
theorem dX6_daysUntilMet_0 : decode cX6_daysUntilMet 0 = .ok (.aload_n 0, 1) := by decide +kernel
theorem dX6_daysUntilMet_1 : decode cX6_daysUntilMet 1 = .ok (.iload_n 1, 1) := by decide +kernel
theorem dX6_daysUntilMet_2 : decode cX6_daysUntilMet 2 = .ok (.invokevirtual 52, 3) := by decide +kernel
theorem dX6_daysUntilMet_5 : decode cX6_daysUntilMet 5 = .ok (.astore_n 3, 1) := by decide +kernel
theorem dX6_daysUntilMet_6 : decode cX6_daysUntilMet 6 = .ok (.aload_n 0, 1) := by decide +kernel
theorem dX6_daysUntilMet_7 : decode cX6_daysUntilMet 7 = .ok (.iload_n 2, 1) := by decide +kernel
theorem dX6_daysUntilMet_8 : decode cX6_daysUntilMet 8 = .ok (.invokevirtual 109, 3) := by decide +kernel
theorem dX6_daysUntilMet_11 : decode cX6_daysUntilMet 11 = .ok (.astore 4, 2) := by decide +kernel
theorem dX6_daysUntilMet_13 : decode cX6_daysUntilMet 13 = .ok (.iconst 0, 1) := by decide +kernel
theorem dX6_daysUntilMet_14 : decode cX6_daysUntilMet 14 = .ok (.istore 5, 2) := by decide +kernel
theorem dX6_daysUntilMet_16 : decode cX6_daysUntilMet 16 = .ok (.iload 5, 2) := by decide +kernel
theorem dX6_daysUntilMet_18 : decode cX6_daysUntilMet 18 = .ok (.bipush 100, 2) := by decide +kernel
theorem dX6_daysUntilMet_20 : decode cX6_daysUntilMet 20 = .ok (.if_icmp .gt 32, 3) := by decide +kernel
theorem dX6_daysUntilMet_23 : decode cX6_daysUntilMet 23 = .ok (.aload_n 0, 1) := by decide +kernel
theorem dX6_daysUntilMet_24 : decode cX6_daysUntilMet 24 = .ok (.aload_n 3, 1) := by decide +kernel
theorem dX6_daysUntilMet_25 : decode cX6_daysUntilMet 25 = .ok (.aload 4, 2) := by decide +kernel
theorem dX6_daysUntilMet_27 : decode cX6_daysUntilMet 27 = .ok (.aload_n 3, 1) := by decide +kernel
theorem dX6_daysUntilMet_28 : decode cX6_daysUntilMet 28 = .ok (.getfield 93, 3) := by decide +kernel
theorem dX6_daysUntilMet_31 : decode cX6_daysUntilMet 31 = .ok (.aload_n 3, 1) := by decide +kernel
theorem dX6_daysUntilMet_32 : decode cX6_daysUntilMet 32 = .ok (.iload 5, 2) := by decide +kernel
theorem dX6_daysUntilMet_34 : decode cX6_daysUntilMet 34 = .ok (.invokevirtual 197, 3) := by decide +kernel
theorem dX6_daysUntilMet_37 : decode cX6_daysUntilMet 37 = .ok (.invokevirtual 193, 3) := by decide +kernel
theorem dX6_daysUntilMet_40 : decode cX6_daysUntilMet 40 = .ok (.ifCond .eq 6, 3) := by decide +kernel
theorem dX6_daysUntilMet_43 : decode cX6_daysUntilMet 43 = .ok (.iload 5, 2) := by decide +kernel
theorem dX6_daysUntilMet_45 : decode cX6_daysUntilMet 45 = .ok (.ireturn, 1) := by decide +kernel
theorem dX6_daysUntilMet_46 : decode cX6_daysUntilMet 46 = .ok (.iinc 5 1, 3) := by decide +kernel
theorem dX6_daysUntilMet_49 : decode cX6_daysUntilMet 49 = .ok (.goto (-33), 3) := by decide +kernel
theorem dX6_daysUntilMet_52 : decode cX6_daysUntilMet 52 = .ok (.iconst (-1), 1) := by decide +kernel
theorem dX6_daysUntilMet_53 : decode cX6_daysUntilMet 53 = .ok (.ireturn, 1) := by decide +kernel
theorem dX6_easiestHall_0 : decode cX6_easiestHall 0 = .ok (.aload_n 0, 1) := by decide +kernel
theorem dX6_easiestHall_1 : decode cX6_easiestHall 1 = .ok (.iload_n 1, 1) := by decide +kernel
theorem dX6_easiestHall_2 : decode cX6_easiestHall 2 = .ok (.invokevirtual 109, 3) := by decide +kernel
theorem dX6_easiestHall_5 : decode cX6_easiestHall 5 = .ok (.astore_n 2, 1) := by decide +kernel
theorem dX6_easiestHall_6 : decode cX6_easiestHall 6 = .ok (.iconst 0, 1) := by decide +kernel
theorem dX6_easiestHall_7 : decode cX6_easiestHall 7 = .ok (.istore_n 3, 1) := by decide +kernel
theorem dX6_easiestHall_8 : decode cX6_easiestHall 8 = .ok (.iload_n 3, 1) := by decide +kernel
theorem dX6_easiestHall_9 : decode cX6_easiestHall 9 = .ok (.bipush 90, 2) := by decide +kernel
theorem dX6_easiestHall_11 : decode cX6_easiestHall 11 = .ok (.if_icmp .gt 61, 3) := by decide +kernel
theorem dX6_easiestHall_14 : decode cX6_easiestHall 14 = .ok (.iconst 0, 1) := by decide +kernel
theorem dX6_easiestHall_15 : decode cX6_easiestHall 15 = .ok (.istore 4, 2) := by decide +kernel
theorem dX6_easiestHall_17 : decode cX6_easiestHall 17 = .ok (.iload 4, 2) := by decide +kernel
theorem dX6_easiestHall_19 : decode cX6_easiestHall 19 = .ok (.aload_n 0, 1) := by decide +kernel
theorem dX6_easiestHall_20 : decode cX6_easiestHall 20 = .ok (.getfield 11, 3) := by decide +kernel
theorem dX6_easiestHall_23 : decode cX6_easiestHall 23 = .ok (.arraylength, 1) := by decide +kernel
theorem dX6_easiestHall_24 : decode cX6_easiestHall 24 = .ok (.if_icmp .ge 42, 3) := by decide +kernel
theorem dX6_easiestHall_27 : decode cX6_easiestHall 27 = .ok (.aload_n 0, 1) := by decide +kernel
theorem dX6_easiestHall_28 : decode cX6_easiestHall 28 = .ok (.getfield 11, 3) := by decide +kernel
theorem dX6_easiestHall_31 : decode cX6_easiestHall 31 = .ok (.iload 4, 2) := by decide +kernel
theorem dX6_easiestHall_33 : decode cX6_easiestHall 33 = .ok (.aaload, 1) := by decide +kernel
theorem dX6_easiestHall_34 : decode cX6_easiestHall 34 = .ok (.astore 5, 2) := by decide +kernel
theorem dX6_easiestHall_36 : decode cX6_easiestHall 36 = .ok (.aload 5, 2) := by decide +kernel
theorem dX6_easiestHall_38 : decode cX6_easiestHall 38 = .ok (.ifnull 22, 3) := by decide +kernel
theorem dX6_easiestHall_41 : decode cX6_easiestHall 41 = .ok (.aload_n 0, 1) := by decide +kernel
theorem dX6_easiestHall_42 : decode cX6_easiestHall 42 = .ok (.aload 5, 2) := by decide +kernel
theorem dX6_easiestHall_44 : decode cX6_easiestHall 44 = .ok (.aload_n 2, 1) := by decide +kernel
theorem dX6_easiestHall_45 : decode cX6_easiestHall 45 = .ok (.iload_n 3, 1) := by decide +kernel
theorem dX6_easiestHall_46 : decode cX6_easiestHall 46 = .ok (.aload 5, 2) := by decide +kernel
theorem dX6_easiestHall_48 : decode cX6_easiestHall 48 = .ok (.getfield 96, 3) := by decide +kernel
theorem dX6_easiestHall_51 : decode cX6_easiestHall 51 = .ok (.invokevirtual 193, 3) := by decide +kernel
theorem dX6_easiestHall_54 : decode cX6_easiestHall 54 = .ok (.ifCond .eq 6, 3) := by decide +kernel
theorem dX6_easiestHall_57 : decode cX6_easiestHall 57 = .ok (.iload 4, 2) := by decide +kernel
theorem dX6_easiestHall_59 : decode cX6_easiestHall 59 = .ok (.ireturn, 1) := by decide +kernel
theorem dX6_easiestHall_60 : decode cX6_easiestHall 60 = .ok (.iinc 4 1, 3) := by decide +kernel
theorem dX6_easiestHall_63 : decode cX6_easiestHall 63 = .ok (.goto (-46), 3) := by decide +kernel
theorem dX6_easiestHall_66 : decode cX6_easiestHall 66 = .ok (.iinc 3 1, 3) := by decide +kernel
theorem dX6_easiestHall_69 : decode cX6_easiestHall 69 = .ok (.goto (-61), 3) := by decide +kernel
theorem dX6_easiestHall_72 : decode cX6_easiestHall 72 = .ok (.iconst (-1), 1) := by decide +kernel
theorem dX6_easiestHall_73 : decode cX6_easiestHall 73 = .ok (.ireturn, 1) := by decide +kernel
theorem dX6_meanDamping_0 : decode cX6_meanDamping 0 = .ok (.aload_n 0, 1) := by decide +kernel
theorem dX6_meanDamping_1 : decode cX6_meanDamping 1 = .ok (.getfield 39, 3) := by decide +kernel
theorem dX6_meanDamping_4 : decode cX6_meanDamping 4 = .ok (.ifCond .gt 5, 3) := by decide +kernel
theorem dX6_meanDamping_7 : decode cX6_meanDamping 7 = .ok (.dconst 0, 1) := by decide +kernel
theorem dX6_meanDamping_8 : decode cX6_meanDamping 8 = .ok (.dreturn, 1) := by decide +kernel
theorem dX6_meanDamping_9 : decode cX6_meanDamping 9 = .ok (.iconst 0, 1) := by decide +kernel
theorem dX6_meanDamping_10 : decode cX6_meanDamping 10 = .ok (.istore_n 1, 1) := by decide +kernel
theorem dX6_meanDamping_11 : decode cX6_meanDamping 11 = .ok (.aload_n 0, 1) := by decide +kernel
theorem dX6_meanDamping_12 : decode cX6_meanDamping 12 = .ok (.getfield 11, 3) := by decide +kernel
theorem dX6_meanDamping_15 : decode cX6_meanDamping 15 = .ok (.astore_n 2, 1) := by decide +kernel
theorem dX6_meanDamping_16 : decode cX6_meanDamping 16 = .ok (.aload_n 2, 1) := by decide +kernel
theorem dX6_meanDamping_17 : decode cX6_meanDamping 17 = .ok (.arraylength, 1) := by decide +kernel
theorem dX6_meanDamping_18 : decode cX6_meanDamping 18 = .ok (.istore_n 3, 1) := by decide +kernel
theorem dX6_meanDamping_19 : decode cX6_meanDamping 19 = .ok (.iconst 0, 1) := by decide +kernel
theorem dX6_meanDamping_20 : decode cX6_meanDamping 20 = .ok (.istore 4, 2) := by decide +kernel
theorem dX6_meanDamping_22 : decode cX6_meanDamping 22 = .ok (.iload 4, 2) := by decide +kernel
theorem dX6_meanDamping_24 : decode cX6_meanDamping 24 = .ok (.iload_n 3, 1) := by decide +kernel
theorem dX6_meanDamping_25 : decode cX6_meanDamping 25 = .ok (.if_icmp .ge 28, 3) := by decide +kernel
theorem dX6_meanDamping_28 : decode cX6_meanDamping 28 = .ok (.aload_n 2, 1) := by decide +kernel
theorem dX6_meanDamping_29 : decode cX6_meanDamping 29 = .ok (.iload 4, 2) := by decide +kernel
theorem dX6_meanDamping_31 : decode cX6_meanDamping 31 = .ok (.aaload, 1) := by decide +kernel
theorem dX6_meanDamping_32 : decode cX6_meanDamping 32 = .ok (.astore 5, 2) := by decide +kernel
theorem dX6_meanDamping_34 : decode cX6_meanDamping 34 = .ok (.aload 5, 2) := by decide +kernel
theorem dX6_meanDamping_36 : decode cX6_meanDamping 36 = .ok (.ifnull 11, 3) := by decide +kernel
theorem dX6_meanDamping_39 : decode cX6_meanDamping 39 = .ok (.iload_n 1, 1) := by decide +kernel
theorem dX6_meanDamping_40 : decode cX6_meanDamping 40 = .ok (.aload 5, 2) := by decide +kernel
theorem dX6_meanDamping_42 : decode cX6_meanDamping 42 = .ok (.getfield 93, 3) := by decide +kernel
theorem dX6_meanDamping_45 : decode cX6_meanDamping 45 = .ok (.iadd, 1) := by decide +kernel
theorem dX6_meanDamping_46 : decode cX6_meanDamping 46 = .ok (.istore_n 1, 1) := by decide +kernel
theorem dX6_meanDamping_47 : decode cX6_meanDamping 47 = .ok (.iinc 4 1, 3) := by decide +kernel
theorem dX6_meanDamping_50 : decode cX6_meanDamping 50 = .ok (.goto (-28), 3) := by decide +kernel
theorem dX6_meanDamping_53 : decode cX6_meanDamping 53 = .ok (.iload_n 1, 1) := by decide +kernel
theorem dX6_meanDamping_54 : decode cX6_meanDamping 54 = .ok (.i2d, 1) := by decide +kernel
theorem dX6_meanDamping_55 : decode cX6_meanDamping 55 = .ok (.aload_n 0, 1) := by decide +kernel
theorem dX6_meanDamping_56 : decode cX6_meanDamping 56 = .ok (.getfield 39, 3) := by decide +kernel
theorem dX6_meanDamping_59 : decode cX6_meanDamping 59 = .ok (.i2d, 1) := by decide +kernel
theorem dX6_meanDamping_60 : decode cX6_meanDamping 60 = .ok (.ddiv, 1) := by decide +kernel
theorem dX6_meanDamping_61 : decode cX6_meanDamping 61 = .ok (.dreturn, 1) := by decide +kernel
theorem dX6_digest_0 : decode cX6_digest 0 = .ok (.ldc2_w 200, 3) := by decide +kernel
theorem dX6_digest_3 : decode cX6_digest 3 = .ok (.lstore_n 1, 1) := by decide +kernel
theorem dX6_digest_4 : decode cX6_digest 4 = .ok (.lload_n 1, 1) := by decide +kernel
theorem dX6_digest_5 : decode cX6_digest 5 = .ok (.aload_n 0, 1) := by decide +kernel
theorem dX6_digest_6 : decode cX6_digest 6 = .ok (.getfield 39, 3) := by decide +kernel
theorem dX6_digest_9 : decode cX6_digest 9 = .ok (.invokestatic 202, 3) := by decide +kernel
theorem dX6_digest_12 : decode cX6_digest 12 = .ok (.lstore_n 1, 1) := by decide +kernel
theorem dX6_digest_13 : decode cX6_digest 13 = .ok (.lload_n 1, 1) := by decide +kernel
theorem dX6_digest_14 : decode cX6_digest 14 = .ok (.aload_n 0, 1) := by decide +kernel
theorem dX6_digest_15 : decode cX6_digest 15 = .ok (.getfield 101, 3) := by decide +kernel
theorem dX6_digest_18 : decode cX6_digest 18 = .ok (.invokestatic 202, 3) := by decide +kernel
theorem dX6_digest_21 : decode cX6_digest 21 = .ok (.lstore_n 1, 1) := by decide +kernel
theorem dX6_digest_22 : decode cX6_digest 22 = .ok (.lload_n 1, 1) := by decide +kernel
theorem dX6_digest_23 : decode cX6_digest 23 = .ok (.aload_n 0, 1) := by decide +kernel
theorem dX6_digest_24 : decode cX6_digest 24 = .ok (.getfield 141, 3) := by decide +kernel
theorem dX6_digest_27 : decode cX6_digest 27 = .ok (.invokestatic 202, 3) := by decide +kernel
theorem dX6_digest_30 : decode cX6_digest 30 = .ok (.lstore_n 1, 1) := by decide +kernel
theorem dX6_digest_31 : decode cX6_digest 31 = .ok (.lload_n 1, 1) := by decide +kernel
theorem dX6_digest_32 : decode cX6_digest 32 = .ok (.aload_n 0, 1) := by decide +kernel
theorem dX6_digest_33 : decode cX6_digest 33 = .ok (.getfield 113, 3) := by decide +kernel
theorem dX6_digest_36 : decode cX6_digest 36 = .ok (.invokestatic 202, 3) := by decide +kernel
theorem dX6_digest_39 : decode cX6_digest 39 = .ok (.lstore_n 1, 1) := by decide +kernel
theorem dX6_digest_40 : decode cX6_digest 40 = .ok (.lload_n 1, 1) := by decide +kernel
theorem dX6_digest_41 : decode cX6_digest 41 = .ok (.aload_n 0, 1) := by decide +kernel
theorem dX6_digest_42 : decode cX6_digest 42 = .ok (.invokevirtual 144, 3) := by decide +kernel
theorem dX6_digest_45 : decode cX6_digest 45 = .ok (.invokestatic 202, 3) := by decide +kernel
theorem dX6_digest_48 : decode cX6_digest 48 = .ok (.lstore_n 1, 1) := by decide +kernel
theorem dX6_digest_49 : decode cX6_digest 49 = .ok (.aload_n 0, 1) := by decide +kernel
theorem dX6_digest_50 : decode cX6_digest 50 = .ok (.getfield 11, 3) := by decide +kernel
theorem dX6_digest_53 : decode cX6_digest 53 = .ok (.astore_n 3, 1) := by decide +kernel
theorem dX6_digest_54 : decode cX6_digest 54 = .ok (.aload_n 3, 1) := by decide +kernel
theorem dX6_digest_55 : decode cX6_digest 55 = .ok (.arraylength, 1) := by decide +kernel
theorem dX6_digest_56 : decode cX6_digest 56 = .ok (.istore 4, 2) := by decide +kernel
theorem dX6_digest_58 : decode cX6_digest 58 = .ok (.iconst 0, 1) := by decide +kernel
theorem dX6_digest_59 : decode cX6_digest 59 = .ok (.istore 5, 2) := by decide +kernel
theorem dX6_digest_61 : decode cX6_digest 61 = .ok (.iload 5, 2) := by decide +kernel
theorem dX6_digest_63 : decode cX6_digest 63 = .ok (.iload 4, 2) := by decide +kernel
theorem dX6_digest_65 : decode cX6_digest 65 = .ok (.if_icmp .ge 27, 3) := by decide +kernel
theorem dX6_digest_68 : decode cX6_digest 68 = .ok (.aload_n 3, 1) := by decide +kernel
theorem dX6_digest_69 : decode cX6_digest 69 = .ok (.iload 5, 2) := by decide +kernel
theorem dX6_digest_71 : decode cX6_digest 71 = .ok (.aaload, 1) := by decide +kernel
theorem dX6_digest_72 : decode cX6_digest 72 = .ok (.astore 6, 2) := by decide +kernel
theorem dX6_digest_74 : decode cX6_digest 74 = .ok (.aload 6, 2) := by decide +kernel
theorem dX6_digest_76 : decode cX6_digest 76 = .ok (.ifnull 10, 3) := by decide +kernel
theorem dX6_digest_79 : decode cX6_digest 79 = .ok (.lload_n 1, 1) := by decide +kernel
theorem dX6_digest_80 : decode cX6_digest 80 = .ok (.aload 6, 2) := by decide +kernel
theorem dX6_digest_82 : decode cX6_digest 82 = .ok (.invokestatic 206, 3) := by decide +kernel
theorem dX6_digest_85 : decode cX6_digest 85 = .ok (.lstore_n 1, 1) := by decide +kernel
theorem dX6_digest_86 : decode cX6_digest 86 = .ok (.iinc 5 1, 3) := by decide +kernel
theorem dX6_digest_89 : decode cX6_digest 89 = .ok (.goto (-28), 3) := by decide +kernel
theorem dX6_digest_92 : decode cX6_digest 92 = .ok (.aload_n 0, 1) := by decide +kernel
theorem dX6_digest_93 : decode cX6_digest 93 = .ok (.getfield 11, 3) := by decide +kernel
theorem dX6_digest_96 : decode cX6_digest 96 = .ok (.astore_n 3, 1) := by decide +kernel
theorem dX6_digest_97 : decode cX6_digest 97 = .ok (.aload_n 3, 1) := by decide +kernel
theorem dX6_digest_98 : decode cX6_digest 98 = .ok (.arraylength, 1) := by decide +kernel
theorem dX6_digest_99 : decode cX6_digest 99 = .ok (.istore 4, 2) := by decide +kernel
theorem dX6_digest_101 : decode cX6_digest 101 = .ok (.iconst 0, 1) := by decide +kernel
theorem dX6_digest_102 : decode cX6_digest 102 = .ok (.istore 5, 2) := by decide +kernel
theorem dX6_digest_104 : decode cX6_digest 104 = .ok (.iload 5, 2) := by decide +kernel
theorem dX6_digest_106 : decode cX6_digest 106 = .ok (.iload 4, 2) := by decide +kernel
theorem dX6_digest_108 : decode cX6_digest 108 = .ok (.if_icmp .ge 28, 3) := by decide +kernel
theorem dX6_digest_111 : decode cX6_digest 111 = .ok (.aload_n 3, 1) := by decide +kernel
theorem dX6_digest_112 : decode cX6_digest 112 = .ok (.iload 5, 2) := by decide +kernel
theorem dX6_digest_114 : decode cX6_digest 114 = .ok (.aaload, 1) := by decide +kernel
theorem dX6_digest_115 : decode cX6_digest 115 = .ok (.astore 6, 2) := by decide +kernel
theorem dX6_digest_117 : decode cX6_digest 117 = .ok (.aload 6, 2) := by decide +kernel
theorem dX6_digest_119 : decode cX6_digest 119 = .ok (.ifnull 11, 3) := by decide +kernel
theorem dX6_digest_122 : decode cX6_digest 122 = .ok (.aload_n 0, 1) := by decide +kernel
theorem dX6_digest_123 : decode cX6_digest 123 = .ok (.lload_n 1, 1) := by decide +kernel
theorem dX6_digest_124 : decode cX6_digest 124 = .ok (.aload 6, 2) := by decide +kernel
theorem dX6_digest_126 : decode cX6_digest 126 = .ok (.invokevirtual 210, 3) := by decide +kernel
theorem dX6_digest_129 : decode cX6_digest 129 = .ok (.lstore_n 1, 1) := by decide +kernel
theorem dX6_digest_130 : decode cX6_digest 130 = .ok (.iinc 5 1, 3) := by decide +kernel
theorem dX6_digest_133 : decode cX6_digest 133 = .ok (.goto (-29), 3) := by decide +kernel
theorem dX6_digest_136 : decode cX6_digest 136 = .ok (.lload_n 1, 1) := by decide +kernel
theorem dX6_digest_137 : decode cX6_digest 137 = .ok (.lreturn, 1) := by decide +kernel
theorem dX6_mix_0 : decode cX6_mix 0 = .ok (.lload_n 0, 1) := by decide +kernel
theorem dX6_mix_1 : decode cX6_mix 1 = .ok (.ldc2_w 213, 3) := by decide +kernel
theorem dX6_mix_4 : decode cX6_mix 4 = .ok (.lmul, 1) := by decide +kernel
theorem dX6_mix_5 : decode cX6_mix 5 = .ok (.iload_n 2, 1) := by decide +kernel
theorem dX6_mix_6 : decode cX6_mix 6 = .ok (.i2l, 1) := by decide +kernel
theorem dX6_mix_7 : decode cX6_mix 7 = .ok (.ladd, 1) := by decide +kernel
theorem dX6_mix_8 : decode cX6_mix 8 = .ok (.lreturn, 1) := by decide +kernel
theorem dX6_mixHall_0 : decode cX6_mixHall 0 = .ok (.lload_n 0, 1) := by decide +kernel
theorem dX6_mixHall_1 : decode cX6_mixHall 1 = .ok (.lstore_n 3, 1) := by decide +kernel
theorem dX6_mixHall_2 : decode cX6_mixHall 2 = .ok (.lload_n 3, 1) := by decide +kernel
theorem dX6_mixHall_3 : decode cX6_mixHall 3 = .ok (.aload_n 2, 1) := by decide +kernel
theorem dX6_mixHall_4 : decode cX6_mixHall 4 = .ok (.getfield 148, 3) := by decide +kernel
theorem dX6_mixHall_7 : decode cX6_mixHall 7 = .ok (.invokestatic 202, 3) := by decide +kernel
theorem dX6_mixHall_10 : decode cX6_mixHall 10 = .ok (.lstore_n 3, 1) := by decide +kernel
theorem dX6_mixHall_11 : decode cX6_mixHall 11 = .ok (.lload_n 3, 1) := by decide +kernel
theorem dX6_mixHall_12 : decode cX6_mixHall 12 = .ok (.aload_n 2, 1) := by decide +kernel
theorem dX6_mixHall_13 : decode cX6_mixHall 13 = .ok (.getfield 93, 3) := by decide +kernel
theorem dX6_mixHall_16 : decode cX6_mixHall 16 = .ok (.invokestatic 202, 3) := by decide +kernel
theorem dX6_mixHall_19 : decode cX6_mixHall 19 = .ok (.lstore_n 3, 1) := by decide +kernel
theorem dX6_mixHall_20 : decode cX6_mixHall 20 = .ok (.lload_n 3, 1) := by decide +kernel
theorem dX6_mixHall_21 : decode cX6_mixHall 21 = .ok (.aload_n 2, 1) := by decide +kernel
theorem dX6_mixHall_22 : decode cX6_mixHall 22 = .ok (.getfield 96, 3) := by decide +kernel
theorem dX6_mixHall_25 : decode cX6_mixHall 25 = .ok (.invokestatic 202, 3) := by decide +kernel
theorem dX6_mixHall_28 : decode cX6_mixHall 28 = .ok (.lstore_n 3, 1) := by decide +kernel
theorem dX6_mixHall_29 : decode cX6_mixHall 29 = .ok (.lload_n 3, 1) := by decide +kernel
theorem dX6_mixHall_30 : decode cX6_mixHall 30 = .ok (.aload_n 2, 1) := by decide +kernel
theorem dX6_mixHall_31 : decode cX6_mixHall 31 = .ok (.getfield 126, 3) := by decide +kernel
theorem dX6_mixHall_34 : decode cX6_mixHall 34 = .ok (.invokestatic 202, 3) := by decide +kernel
theorem dX6_mixHall_37 : decode cX6_mixHall 37 = .ok (.lstore_n 3, 1) := by decide +kernel
theorem dX6_mixHall_38 : decode cX6_mixHall 38 = .ok (.lload_n 3, 1) := by decide +kernel
theorem dX6_mixHall_39 : decode cX6_mixHall 39 = .ok (.aload_n 2, 1) := by decide +kernel
theorem dX6_mixHall_40 : decode cX6_mixHall 40 = .ok (.getfield 133, 3) := by decide +kernel
theorem dX6_mixHall_43 : decode cX6_mixHall 43 = .ok (.invokestatic 202, 3) := by decide +kernel
theorem dX6_mixHall_46 : decode cX6_mixHall 46 = .ok (.lstore_n 3, 1) := by decide +kernel
theorem dX6_mixHall_47 : decode cX6_mixHall 47 = .ok (.aload_n 2, 1) := by decide +kernel
theorem dX6_mixHall_48 : decode cX6_mixHall 48 = .ok (.getfield 215, 3) := by decide +kernel
theorem dX6_mixHall_51 : decode cX6_mixHall 51 = .ok (.astore 5, 2) := by decide +kernel
theorem dX6_mixHall_53 : decode cX6_mixHall 53 = .ok (.aload 5, 2) := by decide +kernel
theorem dX6_mixHall_55 : decode cX6_mixHall 55 = .ok (.arraylength, 1) := by decide +kernel
theorem dX6_mixHall_56 : decode cX6_mixHall 56 = .ok (.istore 6, 2) := by decide +kernel
theorem dX6_mixHall_58 : decode cX6_mixHall 58 = .ok (.iconst 0, 1) := by decide +kernel
theorem dX6_mixHall_59 : decode cX6_mixHall 59 = .ok (.istore 7, 2) := by decide +kernel
theorem dX6_mixHall_61 : decode cX6_mixHall 61 = .ok (.iload 7, 2) := by decide +kernel
theorem dX6_mixHall_63 : decode cX6_mixHall 63 = .ok (.iload 6, 2) := by decide +kernel
theorem dX6_mixHall_65 : decode cX6_mixHall 65 = .ok (.if_icmp .ge 45, 3) := by decide +kernel
theorem dX6_mixHall_68 : decode cX6_mixHall 68 = .ok (.aload 5, 2) := by decide +kernel
theorem dX6_mixHall_70 : decode cX6_mixHall 70 = .ok (.iload 7, 2) := by decide +kernel
theorem dX6_mixHall_72 : decode cX6_mixHall 72 = .ok (.aaload, 1) := by decide +kernel
theorem dX6_mixHall_73 : decode cX6_mixHall 73 = .ok (.astore 8, 2) := by decide +kernel
theorem dX6_mixHall_75 : decode cX6_mixHall 75 = .ok (.aload 8, 2) := by decide +kernel
theorem dX6_mixHall_77 : decode cX6_mixHall 77 = .ok (.ifnull 27, 3) := by decide +kernel
theorem dX6_mixHall_80 : decode cX6_mixHall 80 = .ok (.lload_n 3, 1) := by decide +kernel
theorem dX6_mixHall_81 : decode cX6_mixHall 81 = .ok (.aload 8, 2) := by decide +kernel
theorem dX6_mixHall_83 : decode cX6_mixHall 83 = .ok (.getfield 90, 3) := by decide +kernel
theorem dX6_mixHall_86 : decode cX6_mixHall 86 = .ok (.invokestatic 202, 3) := by decide +kernel
theorem dX6_mixHall_89 : decode cX6_mixHall 89 = .ok (.lstore_n 3, 1) := by decide +kernel
theorem dX6_mixHall_90 : decode cX6_mixHall 90 = .ok (.lload_n 3, 1) := by decide +kernel
theorem dX6_mixHall_91 : decode cX6_mixHall 91 = .ok (.aload 8, 2) := by decide +kernel
theorem dX6_mixHall_93 : decode cX6_mixHall 93 = .ok (.aload_n 2, 1) := by decide +kernel
theorem dX6_mixHall_94 : decode cX6_mixHall 94 = .ok (.getfield 96, 3) := by decide +kernel
theorem dX6_mixHall_97 : decode cX6_mixHall 97 = .ok (.invokevirtual 151, 3) := by decide +kernel
theorem dX6_mixHall_100 : decode cX6_mixHall 100 = .ok (.invokestatic 202, 3) := by decide +kernel
theorem dX6_mixHall_103 : decode cX6_mixHall 103 = .ok (.lstore_n 3, 1) := by decide +kernel
theorem dX6_mixHall_104 : decode cX6_mixHall 104 = .ok (.iinc 7 1, 3) := by decide +kernel
theorem dX6_mixHall_107 : decode cX6_mixHall 107 = .ok (.goto (-46), 3) := by decide +kernel
theorem dX6_mixHall_110 : decode cX6_mixHall 110 = .ok (.lload_n 3, 1) := by decide +kernel
theorem dX6_mixHall_111 : decode cX6_mixHall 111 = .ok (.lreturn, 1) := by decide +kernel
theorem dX6_mixEchoes_0 : decode cX6_mixEchoes 0 = .ok (.lload_n 1, 1) := by decide +kernel
theorem dX6_mixEchoes_1 : decode cX6_mixEchoes 1 = .ok (.lstore 4, 2) := by decide +kernel
theorem dX6_mixEchoes_3 : decode cX6_mixEchoes 3 = .ok (.aload_n 0, 1) := by decide +kernel
theorem dX6_mixEchoes_4 : decode cX6_mixEchoes 4 = .ok (.aload_n 3, 1) := by decide +kernel
theorem dX6_mixEchoes_5 : decode cX6_mixEchoes 5 = .ok (.sipush 1000, 3) := by decide +kernel
theorem dX6_mixEchoes_8 : decode cX6_mixEchoes 8 = .ok (.iconst 1, 1) := by decide +kernel
theorem dX6_mixEchoes_9 : decode cX6_mixEchoes 9 = .ok (.invokevirtual 165, 3) := by decide +kernel
theorem dX6_mixEchoes_12 : decode cX6_mixEchoes 12 = .ok (.astore 6, 2) := by decide +kernel
theorem dX6_mixEchoes_14 : decode cX6_mixEchoes 14 = .ok (.lload 4, 2) := by decide +kernel
theorem dX6_mixEchoes_16 : decode cX6_mixEchoes 16 = .ok (.aload 6, 2) := by decide +kernel
theorem dX6_mixEchoes_18 : decode cX6_mixEchoes 18 = .ok (.getfield 159, 3) := by decide +kernel
theorem dX6_mixEchoes_21 : decode cX6_mixEchoes 21 = .ok (.invokestatic 202, 3) := by decide +kernel
theorem dX6_mixEchoes_24 : decode cX6_mixEchoes 24 = .ok (.lstore 4, 2) := by decide +kernel
theorem dX6_mixEchoes_26 : decode cX6_mixEchoes 26 = .ok (.lload 4, 2) := by decide +kernel
theorem dX6_mixEchoes_28 : decode cX6_mixEchoes 28 = .ok (.aload 6, 2) := by decide +kernel
theorem dX6_mixEchoes_30 : decode cX6_mixEchoes 30 = .ok (.getfield 172, 3) := by decide +kernel
theorem dX6_mixEchoes_33 : decode cX6_mixEchoes 33 = .ok (.invokestatic 202, 3) := by decide +kernel
theorem dX6_mixEchoes_36 : decode cX6_mixEchoes 36 = .ok (.lstore 4, 2) := by decide +kernel
theorem dX6_mixEchoes_38 : decode cX6_mixEchoes 38 = .ok (.lload 4, 2) := by decide +kernel
theorem dX6_mixEchoes_40 : decode cX6_mixEchoes 40 = .ok (.aload 6, 2) := by decide +kernel
theorem dX6_mixEchoes_42 : decode cX6_mixEchoes 42 = .ok (.getfield 175, 3) := by decide +kernel
theorem dX6_mixEchoes_45 : decode cX6_mixEchoes 45 = .ok (.invokestatic 202, 3) := by decide +kernel
theorem dX6_mixEchoes_48 : decode cX6_mixEchoes 48 = .ok (.lstore 4, 2) := by decide +kernel
theorem dX6_mixEchoes_50 : decode cX6_mixEchoes 50 = .ok (.lload 4, 2) := by decide +kernel
theorem dX6_mixEchoes_52 : decode cX6_mixEchoes 52 = .ok (.aload_n 0, 1) := by decide +kernel
theorem dX6_mixEchoes_53 : decode cX6_mixEchoes 53 = .ok (.aload_n 3, 1) := by decide +kernel
theorem dX6_mixEchoes_54 : decode cX6_mixEchoes 54 = .ok (.sipush 1000, 3) := by decide +kernel
theorem dX6_mixEchoes_57 : decode cX6_mixEchoes 57 = .ok (.invokevirtual 180, 3) := by decide +kernel
theorem dX6_mixEchoes_60 : decode cX6_mixEchoes 60 = .ok (.invokevirtual 187, 3) := by decide +kernel
theorem dX6_mixEchoes_63 : decode cX6_mixEchoes 63 = .ok (.invokestatic 202, 3) := by decide +kernel
theorem dX6_mixEchoes_66 : decode cX6_mixEchoes 66 = .ok (.lstore 4, 2) := by decide +kernel
theorem dX6_mixEchoes_68 : decode cX6_mixEchoes 68 = .ok (.aload_n 0, 1) := by decide +kernel
theorem dX6_mixEchoes_69 : decode cX6_mixEchoes 69 = .ok (.getfield 17, 3) := by decide +kernel
theorem dX6_mixEchoes_72 : decode cX6_mixEchoes 72 = .ok (.astore 7, 2) := by decide +kernel
theorem dX6_mixEchoes_74 : decode cX6_mixEchoes 74 = .ok (.aload 7, 2) := by decide +kernel
theorem dX6_mixEchoes_76 : decode cX6_mixEchoes 76 = .ok (.arraylength, 1) := by decide +kernel
theorem dX6_mixEchoes_77 : decode cX6_mixEchoes 77 = .ok (.istore 8, 2) := by decide +kernel
theorem dX6_mixEchoes_79 : decode cX6_mixEchoes 79 = .ok (.iconst 0, 1) := by decide +kernel
theorem dX6_mixEchoes_80 : decode cX6_mixEchoes 80 = .ok (.istore 9, 2) := by decide +kernel
theorem dX6_mixEchoes_82 : decode cX6_mixEchoes 82 = .ok (.iload 9, 2) := by decide +kernel
theorem dX6_mixEchoes_84 : decode cX6_mixEchoes 84 = .ok (.iload 8, 2) := by decide +kernel
theorem dX6_mixEchoes_86 : decode cX6_mixEchoes 86 = .ok (.if_icmp .ge 43, 3) := by decide +kernel
theorem dX6_mixEchoes_89 : decode cX6_mixEchoes 89 = .ok (.aload 7, 2) := by decide +kernel
theorem dX6_mixEchoes_91 : decode cX6_mixEchoes 91 = .ok (.iload 9, 2) := by decide +kernel
theorem dX6_mixEchoes_93 : decode cX6_mixEchoes 93 = .ok (.aaload, 1) := by decide +kernel
theorem dX6_mixEchoes_94 : decode cX6_mixEchoes 94 = .ok (.astore 10, 2) := by decide +kernel
theorem dX6_mixEchoes_96 : decode cX6_mixEchoes 96 = .ok (.aload 10, 2) := by decide +kernel
theorem dX6_mixEchoes_98 : decode cX6_mixEchoes 98 = .ok (.ifnull 25, 3) := by decide +kernel
theorem dX6_mixEchoes_101 : decode cX6_mixEchoes 101 = .ok (.lload 4, 2) := by decide +kernel
theorem dX6_mixEchoes_103 : decode cX6_mixEchoes 103 = .ok (.aload_n 0, 1) := by decide +kernel
theorem dX6_mixEchoes_104 : decode cX6_mixEchoes 104 = .ok (.aload_n 3, 1) := by decide +kernel
theorem dX6_mixEchoes_105 : decode cX6_mixEchoes 105 = .ok (.aload 10, 2) := by decide +kernel
theorem dX6_mixEchoes_107 : decode cX6_mixEchoes 107 = .ok (.invokevirtual 116, 3) := by decide +kernel
theorem dX6_mixEchoes_110 : decode cX6_mixEchoes 110 = .ok (.ifCond .eq 7, 3) := by decide +kernel
theorem dX6_mixEchoes_113 : decode cX6_mixEchoes 113 = .ok (.iconst 1, 1) := by decide +kernel
theorem dX6_mixEchoes_114 : decode cX6_mixEchoes 114 = .ok (.goto 4, 3) := by decide +kernel
theorem dX6_mixEchoes_117 : decode cX6_mixEchoes 117 = .ok (.iconst 0, 1) := by decide +kernel
theorem dX6_mixEchoes_118 : decode cX6_mixEchoes 118 = .ok (.invokestatic 202, 3) := by decide +kernel
theorem dX6_mixEchoes_121 : decode cX6_mixEchoes 121 = .ok (.lstore 4, 2) := by decide +kernel
theorem dX6_mixEchoes_123 : decode cX6_mixEchoes 123 = .ok (.iinc 9 1, 3) := by decide +kernel
theorem dX6_mixEchoes_126 : decode cX6_mixEchoes 126 = .ok (.goto (-44), 3) := by decide +kernel
theorem dX6_mixEchoes_129 : decode cX6_mixEchoes 129 = .ok (.lload 4, 2) := by decide +kernel
theorem dX6_mixEchoes_131 : decode cX6_mixEchoes 131 = .ok (.lreturn, 1) := by decide +kernel
theorem dX6_isWithin_0 : decode cX6_isWithin 0 = .ok (.iload_n 0, 1) := by decide +kernel
theorem dX6_isWithin_1 : decode cX6_isWithin 1 = .ok (.iload_n 1, 1) := by decide +kernel
theorem dX6_isWithin_2 : decode cX6_isWithin 2 = .ok (.if_icmp .lt 12, 3) := by decide +kernel
theorem dX6_isWithin_5 : decode cX6_isWithin 5 = .ok (.iload_n 0, 1) := by decide +kernel
theorem dX6_isWithin_6 : decode cX6_isWithin 6 = .ok (.iload_n 2, 1) := by decide +kernel
theorem dX6_isWithin_7 : decode cX6_isWithin 7 = .ok (.if_icmp .gt 7, 3) := by decide +kernel
theorem dX6_isWithin_10 : decode cX6_isWithin 10 = .ok (.iconst 1, 1) := by decide +kernel
theorem dX6_isWithin_11 : decode cX6_isWithin 11 = .ok (.goto 4, 3) := by decide +kernel
theorem dX6_isWithin_14 : decode cX6_isWithin 14 = .ok (.iconst 0, 1) := by decide +kernel
theorem dX6_isWithin_15 : decode cX6_isWithin 15 = .ok (.ireturn, 1) := by decide +kernel
theorem dX6_checkDamping_0 : decode cX6_checkDamping 0 = .ok (.iload_n 0, 1) := by decide +kernel
theorem dX6_checkDamping_1 : decode cX6_checkDamping 1 = .ok (.iconst 0, 1) := by decide +kernel
theorem dX6_checkDamping_2 : decode cX6_checkDamping 2 = .ok (.bipush 90, 2) := by decide +kernel
theorem dX6_checkDamping_4 : decode cX6_checkDamping 4 = .ok (.invokestatic 59, 3) := by decide +kernel
theorem dX6_checkDamping_7 : decode cX6_checkDamping 7 = .ok (.ifCond .ne 13, 3) := by decide +kernel
theorem dX6_checkDamping_10 : decode cX6_checkDamping 10 = .ok (.new 63, 3) := by decide +kernel
theorem dX6_checkDamping_13 : decode cX6_checkDamping 13 = .ok (.dup, 1) := by decide +kernel
theorem dX6_checkDamping_14 : decode cX6_checkDamping 14 = .ok (.ldc 219, 2) := by decide +kernel
theorem dX6_checkDamping_16 : decode cX6_checkDamping 16 = .ok (.invokespecial 67, 3) := by decide +kernel
theorem dX6_checkDamping_19 : decode cX6_checkDamping 19 = .ok (.athrow, 1) := by decide +kernel
theorem dX6_checkDamping_20 : decode cX6_checkDamping 20 = .ok (.return_, 1) := by decide +kernel
theorem dX6_checkDistance_0 : decode cX6_checkDistance 0 = .ok (.iload_n 0, 1) := by decide +kernel
theorem dX6_checkDistance_1 : decode cX6_checkDistance 1 = .ok (.iconst 1, 1) := by decide +kernel
theorem dX6_checkDistance_2 : decode cX6_checkDistance 2 = .ok (.bipush 60, 2) := by decide +kernel
theorem dX6_checkDistance_4 : decode cX6_checkDistance 4 = .ok (.invokestatic 59, 3) := by decide +kernel
theorem dX6_checkDistance_7 : decode cX6_checkDistance 7 = .ok (.ifCond .ne 13, 3) := by decide +kernel
theorem dX6_checkDistance_10 : decode cX6_checkDistance 10 = .ok (.new 63, 3) := by decide +kernel
theorem dX6_checkDistance_13 : decode cX6_checkDistance 13 = .ok (.dup, 1) := by decide +kernel
theorem dX6_checkDistance_14 : decode cX6_checkDistance 14 = .ok (.ldc 221, 2) := by decide +kernel
theorem dX6_checkDistance_16 : decode cX6_checkDistance 16 = .ok (.invokespecial 67, 3) := by decide +kernel
theorem dX6_checkDistance_19 : decode cX6_checkDistance 19 = .ok (.athrow, 1) := by decide +kernel
theorem dX6_checkDistance_20 : decode cX6_checkDistance 20 = .ok (.return_, 1) := by decide +kernel
theorem dX6_checkLoudness_0 : decode cX6_checkLoudness 0 = .ok (.iload_n 0, 1) := by decide +kernel
theorem dX6_checkLoudness_1 : decode cX6_checkLoudness 1 = .ok (.iconst 1, 1) := by decide +kernel
theorem dX6_checkLoudness_2 : decode cX6_checkLoudness 2 = .ok (.sipush 1000, 3) := by decide +kernel
theorem dX6_checkLoudness_5 : decode cX6_checkLoudness 5 = .ok (.invokestatic 59, 3) := by decide +kernel
theorem dX6_checkLoudness_8 : decode cX6_checkLoudness 8 = .ok (.ifCond .ne 13, 3) := by decide +kernel
theorem dX6_checkLoudness_11 : decode cX6_checkLoudness 11 = .ok (.new 63, 3) := by decide +kernel
theorem dX6_checkLoudness_14 : decode cX6_checkLoudness 14 = .ok (.dup, 1) := by decide +kernel
theorem dX6_checkLoudness_15 : decode cX6_checkLoudness 15 = .ok (.ldc 223, 2) := by decide +kernel
theorem dX6_checkLoudness_17 : decode cX6_checkLoudness 17 = .ok (.invokespecial 67, 3) := by decide +kernel
theorem dX6_checkLoudness_20 : decode cX6_checkLoudness 20 = .ok (.athrow, 1) := by decide +kernel
theorem dX6_checkLoudness_21 : decode cX6_checkLoudness 21 = .ok (.return_, 1) := by decide +kernel
theorem dX6_checkCertificate_0 : decode cX6_checkCertificate 0 = .ok (.aload_n 0, 1) := by decide +kernel
theorem dX6_checkCertificate_1 : decode cX6_checkCertificate 1 = .ok (.invokevirtual 190, 3) := by decide +kernel
theorem dX6_checkCertificate_4 : decode cX6_checkCertificate 4 = .ok (.ifCond .ne 13, 3) := by decide +kernel
theorem dX6_checkCertificate_7 : decode cX6_checkCertificate 7 = .ok (.new 43, 3) := by decide +kernel
theorem dX6_checkCertificate_10 : decode cX6_checkCertificate 10 = .ok (.dup, 1) := by decide +kernel
theorem dX6_checkCertificate_11 : decode cX6_checkCertificate 11 = .ok (.ldc 225, 2) := by decide +kernel
theorem dX6_checkCertificate_13 : decode cX6_checkCertificate 13 = .ok (.invokespecial 47, 3) := by decide +kernel
theorem dX6_checkCertificate_16 : decode cX6_checkCertificate 16 = .ok (.athrow, 1) := by decide +kernel
theorem dX6_checkCertificate_17 : decode cX6_checkCertificate 17 = .ok (.return_, 1) := by decide +kernel
theorem dX6_findHall_0 : decode cX6_findHall 0 = .ok (.iload_n 1, 1) := by decide +kernel
theorem dX6_findHall_1 : decode cX6_findHall 1 = .ok (.ifCond .lt 12, 3) := by decide +kernel
theorem dX6_findHall_4 : decode cX6_findHall 4 = .ok (.iload_n 1, 1) := by decide +kernel
theorem dX6_findHall_5 : decode cX6_findHall 5 = .ok (.aload_n 0, 1) := by decide +kernel
theorem dX6_findHall_6 : decode cX6_findHall 6 = .ok (.getfield 11, 3) := by decide +kernel
theorem dX6_findHall_9 : decode cX6_findHall 9 = .ok (.arraylength, 1) := by decide +kernel
theorem dX6_findHall_10 : decode cX6_findHall 10 = .ok (.if_icmp .lt 13, 3) := by decide +kernel
theorem dX6_findHall_13 : decode cX6_findHall 13 = .ok (.new 227, 3) := by decide +kernel
theorem dX6_findHall_16 : decode cX6_findHall 16 = .ok (.dup, 1) := by decide +kernel
theorem dX6_findHall_17 : decode cX6_findHall 17 = .ok (.ldc 229, 2) := by decide +kernel
theorem dX6_findHall_19 : decode cX6_findHall 19 = .ok (.invokespecial 231, 3) := by decide +kernel
theorem dX6_findHall_22 : decode cX6_findHall 22 = .ok (.athrow, 1) := by decide +kernel
theorem dX6_findHall_23 : decode cX6_findHall 23 = .ok (.aload_n 0, 1) := by decide +kernel
theorem dX6_findHall_24 : decode cX6_findHall 24 = .ok (.getfield 11, 3) := by decide +kernel
theorem dX6_findHall_27 : decode cX6_findHall 27 = .ok (.iload_n 1, 1) := by decide +kernel
theorem dX6_findHall_28 : decode cX6_findHall 28 = .ok (.aaload, 1) := by decide +kernel
theorem dX6_findHall_29 : decode cX6_findHall 29 = .ok (.astore_n 2, 1) := by decide +kernel
theorem dX6_findHall_30 : decode cX6_findHall 30 = .ok (.aload_n 2, 1) := by decide +kernel
theorem dX6_findHall_31 : decode cX6_findHall 31 = .ok (.ifnonnull 13, 3) := by decide +kernel
theorem dX6_findHall_34 : decode cX6_findHall 34 = .ok (.new 227, 3) := by decide +kernel
theorem dX6_findHall_37 : decode cX6_findHall 37 = .ok (.dup, 1) := by decide +kernel
theorem dX6_findHall_38 : decode cX6_findHall 38 = .ok (.ldc 232, 2) := by decide +kernel
theorem dX6_findHall_40 : decode cX6_findHall 40 = .ok (.invokespecial 231, 3) := by decide +kernel
theorem dX6_findHall_43 : decode cX6_findHall 43 = .ok (.athrow, 1) := by decide +kernel
theorem dX6_findHall_44 : decode cX6_findHall 44 = .ok (.aload_n 2, 1) := by decide +kernel
theorem dX6_findHall_45 : decode cX6_findHall 45 = .ok (.areturn, 1) := by decide +kernel
theorem dX6_findStandard_0 : decode cX6_findStandard 0 = .ok (.iload_n 1, 1) := by decide +kernel
theorem dX6_findStandard_1 : decode cX6_findStandard 1 = .ok (.ifCond .lt 12, 3) := by decide +kernel
theorem dX6_findStandard_4 : decode cX6_findStandard 4 = .ok (.iload_n 1, 1) := by decide +kernel
theorem dX6_findStandard_5 : decode cX6_findStandard 5 = .ok (.aload_n 0, 1) := by decide +kernel
theorem dX6_findStandard_6 : decode cX6_findStandard 6 = .ok (.getfield 17, 3) := by decide +kernel
theorem dX6_findStandard_9 : decode cX6_findStandard 9 = .ok (.arraylength, 1) := by decide +kernel
theorem dX6_findStandard_10 : decode cX6_findStandard 10 = .ok (.if_icmp .lt 13, 3) := by decide +kernel
theorem dX6_findStandard_13 : decode cX6_findStandard 13 = .ok (.new 227, 3) := by decide +kernel
theorem dX6_findStandard_16 : decode cX6_findStandard 16 = .ok (.dup, 1) := by decide +kernel
theorem dX6_findStandard_17 : decode cX6_findStandard 17 = .ok (.ldc 234, 2) := by decide +kernel
theorem dX6_findStandard_19 : decode cX6_findStandard 19 = .ok (.invokespecial 231, 3) := by decide +kernel
theorem dX6_findStandard_22 : decode cX6_findStandard 22 = .ok (.athrow, 1) := by decide +kernel
theorem dX6_findStandard_23 : decode cX6_findStandard 23 = .ok (.aload_n 0, 1) := by decide +kernel
theorem dX6_findStandard_24 : decode cX6_findStandard 24 = .ok (.getfield 17, 3) := by decide +kernel
theorem dX6_findStandard_27 : decode cX6_findStandard 27 = .ok (.iload_n 1, 1) := by decide +kernel
theorem dX6_findStandard_28 : decode cX6_findStandard 28 = .ok (.aaload, 1) := by decide +kernel
theorem dX6_findStandard_29 : decode cX6_findStandard 29 = .ok (.astore_n 2, 1) := by decide +kernel
theorem dX6_findStandard_30 : decode cX6_findStandard 30 = .ok (.aload_n 2, 1) := by decide +kernel
theorem dX6_findStandard_31 : decode cX6_findStandard 31 = .ok (.ifnonnull 13, 3) := by decide +kernel
theorem dX6_findStandard_34 : decode cX6_findStandard 34 = .ok (.new 227, 3) := by decide +kernel
theorem dX6_findStandard_37 : decode cX6_findStandard 37 = .ok (.dup, 1) := by decide +kernel
theorem dX6_findStandard_38 : decode cX6_findStandard 38 = .ok (.ldc 236, 2) := by decide +kernel
theorem dX6_findStandard_40 : decode cX6_findStandard 40 = .ok (.invokespecial 231, 3) := by decide +kernel
theorem dX6_findStandard_43 : decode cX6_findStandard 43 = .ok (.athrow, 1) := by decide +kernel
theorem dX6_findStandard_44 : decode cX6_findStandard 44 = .ok (.aload_n 2, 1) := by decide +kernel
theorem dX6_findStandard_45 : decode cX6_findStandard 45 = .ok (.areturn, 1) := by decide +kernel
theorem dX6_findSurface_0 : decode cX6_findSurface 0 = .ok (.iload_n 1, 1) := by decide +kernel
theorem dX6_findSurface_1 : decode cX6_findSurface 1 = .ok (.ifCond .lt 12, 3) := by decide +kernel
theorem dX6_findSurface_4 : decode cX6_findSurface 4 = .ok (.iload_n 1, 1) := by decide +kernel
theorem dX6_findSurface_5 : decode cX6_findSurface 5 = .ok (.aload_n 0, 1) := by decide +kernel
theorem dX6_findSurface_6 : decode cX6_findSurface 6 = .ok (.getfield 215, 3) := by decide +kernel
theorem dX6_findSurface_9 : decode cX6_findSurface 9 = .ok (.arraylength, 1) := by decide +kernel
theorem dX6_findSurface_10 : decode cX6_findSurface 10 = .ok (.if_icmp .lt 13, 3) := by decide +kernel
theorem dX6_findSurface_13 : decode cX6_findSurface 13 = .ok (.new 227, 3) := by decide +kernel
theorem dX6_findSurface_16 : decode cX6_findSurface 16 = .ok (.dup, 1) := by decide +kernel
theorem dX6_findSurface_17 : decode cX6_findSurface 17 = .ok (.ldc 238, 2) := by decide +kernel
theorem dX6_findSurface_19 : decode cX6_findSurface 19 = .ok (.invokespecial 231, 3) := by decide +kernel
theorem dX6_findSurface_22 : decode cX6_findSurface 22 = .ok (.athrow, 1) := by decide +kernel
theorem dX6_findSurface_23 : decode cX6_findSurface 23 = .ok (.aload_n 0, 1) := by decide +kernel
theorem dX6_findSurface_24 : decode cX6_findSurface 24 = .ok (.getfield 215, 3) := by decide +kernel
theorem dX6_findSurface_27 : decode cX6_findSurface 27 = .ok (.iload_n 1, 1) := by decide +kernel
theorem dX6_findSurface_28 : decode cX6_findSurface 28 = .ok (.aaload, 1) := by decide +kernel
theorem dX6_findSurface_29 : decode cX6_findSurface 29 = .ok (.astore_n 2, 1) := by decide +kernel
theorem dX6_findSurface_30 : decode cX6_findSurface 30 = .ok (.aload_n 2, 1) := by decide +kernel
theorem dX6_findSurface_31 : decode cX6_findSurface 31 = .ok (.ifnonnull 13, 3) := by decide +kernel
theorem dX6_findSurface_34 : decode cX6_findSurface 34 = .ok (.new 227, 3) := by decide +kernel
theorem dX6_findSurface_37 : decode cX6_findSurface 37 = .ok (.dup, 1) := by decide +kernel
theorem dX6_findSurface_38 : decode cX6_findSurface 38 = .ok (.ldc 240, 2) := by decide +kernel
theorem dX6_findSurface_40 : decode cX6_findSurface 40 = .ok (.invokespecial 231, 3) := by decide +kernel
theorem dX6_findSurface_43 : decode cX6_findSurface 43 = .ok (.athrow, 1) := by decide +kernel
theorem dX6_findSurface_44 : decode cX6_findSurface 44 = .ok (.aload_n 2, 1) := by decide +kernel
theorem dX6_findSurface_45 : decode cX6_findSurface 45 = .ok (.areturn, 1) := by decide +kernel
theorem dX6_countCertified_0 : decode cX6_countCertified 0 = .ok (.iconst 0, 1) := by decide +kernel
theorem dX6_countCertified_1 : decode cX6_countCertified 1 = .ok (.istore_n 1, 1) := by decide +kernel
theorem dX6_countCertified_2 : decode cX6_countCertified 2 = .ok (.aload_n 0, 1) := by decide +kernel
theorem dX6_countCertified_3 : decode cX6_countCertified 3 = .ok (.getfield 11, 3) := by decide +kernel
theorem dX6_countCertified_6 : decode cX6_countCertified 6 = .ok (.astore_n 2, 1) := by decide +kernel
theorem dX6_countCertified_7 : decode cX6_countCertified 7 = .ok (.aload_n 2, 1) := by decide +kernel
theorem dX6_countCertified_8 : decode cX6_countCertified 8 = .ok (.arraylength, 1) := by decide +kernel
theorem dX6_countCertified_9 : decode cX6_countCertified 9 = .ok (.istore_n 3, 1) := by decide +kernel
theorem dX6_countCertified_10 : decode cX6_countCertified 10 = .ok (.iconst 0, 1) := by decide +kernel
theorem dX6_countCertified_11 : decode cX6_countCertified 11 = .ok (.istore 4, 2) := by decide +kernel
theorem dX6_countCertified_13 : decode cX6_countCertified 13 = .ok (.iload 4, 2) := by decide +kernel
theorem dX6_countCertified_15 : decode cX6_countCertified 15 = .ok (.iload_n 3, 1) := by decide +kernel
theorem dX6_countCertified_16 : decode cX6_countCertified 16 = .ok (.if_icmp .ge 31, 3) := by decide +kernel
theorem dX6_countCertified_19 : decode cX6_countCertified 19 = .ok (.aload_n 2, 1) := by decide +kernel
theorem dX6_countCertified_20 : decode cX6_countCertified 20 = .ok (.iload 4, 2) := by decide +kernel
theorem dX6_countCertified_22 : decode cX6_countCertified 22 = .ok (.aaload, 1) := by decide +kernel
theorem dX6_countCertified_23 : decode cX6_countCertified 23 = .ok (.astore 5, 2) := by decide +kernel
theorem dX6_countCertified_25 : decode cX6_countCertified 25 = .ok (.aload 5, 2) := by decide +kernel
theorem dX6_countCertified_27 : decode cX6_countCertified 27 = .ok (.ifnull 14, 3) := by decide +kernel
theorem dX6_countCertified_30 : decode cX6_countCertified 30 = .ok (.aload 5, 2) := by decide +kernel
theorem dX6_countCertified_32 : decode cX6_countCertified 32 = .ok (.invokevirtual 190, 3) := by decide +kernel
theorem dX6_countCertified_35 : decode cX6_countCertified 35 = .ok (.ifCond .eq 6, 3) := by decide +kernel
theorem dX6_countCertified_38 : decode cX6_countCertified 38 = .ok (.iinc 1 1, 3) := by decide +kernel
theorem dX6_countCertified_41 : decode cX6_countCertified 41 = .ok (.iinc 4 1, 3) := by decide +kernel
theorem dX6_countCertified_44 : decode cX6_countCertified 44 = .ok (.goto (-31), 3) := by decide +kernel
theorem dX6_countCertified_47 : decode cX6_countCertified 47 = .ok (.iload_n 1, 1) := by decide +kernel
theorem dX6_countCertified_48 : decode cX6_countCertified 48 = .ok (.ireturn, 1) := by decide +kernel
theorem dX6_tallyOfClick_0 : decode cX6_tallyOfClick 0 = .ok (.aload_n 0, 1) := by decide +kernel
theorem dX6_tallyOfClick_1 : decode cX6_tallyOfClick 1 = .ok (.iload_n 1, 1) := by decide +kernel
theorem dX6_tallyOfClick_2 : decode cX6_tallyOfClick 2 = .ok (.invokevirtual 52, 3) := by decide +kernel
theorem dX6_tallyOfClick_5 : decode cX6_tallyOfClick 5 = .ok (.astore_n 3, 1) := by decide +kernel
theorem dX6_tallyOfClick_6 : decode cX6_tallyOfClick 6 = .ok (.iload_n 2, 1) := by decide +kernel
theorem dX6_tallyOfClick_7 : decode cX6_tallyOfClick 7 = .ok (.invokestatic 162, 3) := by decide +kernel
theorem dX6_tallyOfClick_10 : decode cX6_tallyOfClick 10 = .ok (.aload_n 0, 1) := by decide +kernel
theorem dX6_tallyOfClick_11 : decode cX6_tallyOfClick 11 = .ok (.aload_n 3, 1) := by decide +kernel
theorem dX6_tallyOfClick_12 : decode cX6_tallyOfClick 12 = .ok (.iload_n 2, 1) := by decide +kernel
theorem dX6_tallyOfClick_13 : decode cX6_tallyOfClick 13 = .ok (.iconst 1, 1) := by decide +kernel
theorem dX6_tallyOfClick_14 : decode cX6_tallyOfClick 14 = .ok (.invokevirtual 165, 3) := by decide +kernel
theorem dX6_tallyOfClick_17 : decode cX6_tallyOfClick 17 = .ok (.areturn, 1) := by decide +kernel
theorem dX6_tallyOf_0 : decode cX6_tallyOf 0 = .ok (.aload_n 0, 1) := by decide +kernel
theorem dX6_tallyOf_1 : decode cX6_tallyOf 1 = .ok (.getfield 24, 3) := by decide +kernel
theorem dX6_tallyOf_4 : decode cX6_tallyOf 4 = .ok (.iload_n 3, 1) := by decide +kernel
theorem dX6_tallyOf_5 : decode cX6_tallyOf 5 = .ok (.invokevirtual 242, 3) := by decide +kernel
theorem dX6_tallyOf_8 : decode cX6_tallyOf 8 = .ok (.aload_n 1, 1) := by decide +kernel
theorem dX6_tallyOf_9 : decode cX6_tallyOf 9 = .ok (.iload_n 2, 1) := by decide +kernel
theorem dX6_tallyOf_10 : decode cX6_tallyOf 10 = .ok (.aload_n 1, 1) := by decide +kernel
theorem dX6_tallyOf_11 : decode cX6_tallyOf 11 = .ok (.getfield 93, 3) := by decide +kernel
theorem dX6_tallyOf_14 : decode cX6_tallyOf 14 = .ok (.aload_n 1, 1) := by decide +kernel
theorem dX6_tallyOf_15 : decode cX6_tallyOf 15 = .ok (.getfield 96, 3) := by decide +kernel
theorem dX6_tallyOf_18 : decode cX6_tallyOf 18 = .ok (.aload_n 0, 1) := by decide +kernel
theorem dX6_tallyOf_19 : decode cX6_tallyOf 19 = .ok (.getfield 24, 3) := by decide +kernel
theorem dX6_tallyOf_22 : decode cX6_tallyOf 22 = .ok (.invokevirtual 245, 3) := by decide +kernel
theorem dX6_tallyOf_25 : decode cX6_tallyOf 25 = .ok (.aload_n 0, 1) := by decide +kernel
theorem dX6_tallyOf_26 : decode cX6_tallyOf 26 = .ok (.getfield 24, 3) := by decide +kernel
theorem dX6_tallyOf_29 : decode cX6_tallyOf 29 = .ok (.areturn, 1) := by decide +kernel
theorem dX6_loudnessesOf_0 : decode cX6_loudnessesOf 0 = .ok (.aload_n 0, 1) := by decide +kernel
theorem dX6_loudnessesOf_1 : decode cX6_loudnessesOf 1 = .ok (.getfield 31, 3) := by decide +kernel
theorem dX6_loudnessesOf_4 : decode cX6_loudnessesOf 4 = .ok (.invokevirtual 249, 3) := by decide +kernel
theorem dX6_loudnessesOf_7 : decode cX6_loudnessesOf 7 = .ok (.aload_n 1, 1) := by decide +kernel
theorem dX6_loudnessesOf_8 : decode cX6_loudnessesOf 8 = .ok (.iload_n 2, 1) := by decide +kernel
theorem dX6_loudnessesOf_9 : decode cX6_loudnessesOf 9 = .ok (.aload_n 1, 1) := by decide +kernel
theorem dX6_loudnessesOf_10 : decode cX6_loudnessesOf 10 = .ok (.getfield 93, 3) := by decide +kernel
theorem dX6_loudnessesOf_13 : decode cX6_loudnessesOf 13 = .ok (.aload_n 1, 1) := by decide +kernel
theorem dX6_loudnessesOf_14 : decode cX6_loudnessesOf 14 = .ok (.getfield 96, 3) := by decide +kernel
theorem dX6_loudnessesOf_17 : decode cX6_loudnessesOf 17 = .ok (.aload_n 0, 1) := by decide +kernel
theorem dX6_loudnessesOf_18 : decode cX6_loudnessesOf 18 = .ok (.getfield 31, 3) := by decide +kernel
theorem dX6_loudnessesOf_21 : decode cX6_loudnessesOf 21 = .ok (.invokevirtual 245, 3) := by decide +kernel
theorem dX6_loudnessesOf_24 : decode cX6_loudnessesOf 24 = .ok (.aload_n 0, 1) := by decide +kernel
theorem dX6_loudnessesOf_25 : decode cX6_loudnessesOf 25 = .ok (.getfield 31, 3) := by decide +kernel
theorem dX6_loudnessesOf_28 : decode cX6_loudnessesOf 28 = .ok (.areturn, 1) := by decide +kernel
theorem dX6_meetsNow_0 : decode cX6_meetsNow 0 = .ok (.aload_n 0, 1) := by decide +kernel
theorem dX6_meetsNow_1 : decode cX6_meetsNow 1 = .ok (.aload_n 1, 1) := by decide +kernel
theorem dX6_meetsNow_2 : decode cX6_meetsNow 2 = .ok (.aload_n 2, 1) := by decide +kernel
theorem dX6_meetsNow_3 : decode cX6_meetsNow 3 = .ok (.aload_n 1, 1) := by decide +kernel
theorem dX6_meetsNow_4 : decode cX6_meetsNow 4 = .ok (.getfield 93, 3) := by decide +kernel
theorem dX6_meetsNow_7 : decode cX6_meetsNow 7 = .ok (.aload_n 1, 1) := by decide +kernel
theorem dX6_meetsNow_8 : decode cX6_meetsNow 8 = .ok (.getfield 96, 3) := by decide +kernel
theorem dX6_meetsNow_11 : decode cX6_meetsNow 11 = .ok (.invokevirtual 193, 3) := by decide +kernel
theorem dX6_meetsNow_14 : decode cX6_meetsNow 14 = .ok (.ireturn, 1) := by decide +kernel
theorem dX6_wouldMeet_0 : decode cX6_wouldMeet 0 = .ok (.aload_n 0, 1) := by decide +kernel
theorem dX6_wouldMeet_1 : decode cX6_wouldMeet 1 = .ok (.getfield 24, 3) := by decide +kernel
theorem dX6_wouldMeet_4 : decode cX6_wouldMeet 4 = .ok (.aload_n 2, 1) := by decide +kernel
theorem dX6_wouldMeet_5 : decode cX6_wouldMeet 5 = .ok (.getfield 251, 3) := by decide +kernel
theorem dX6_wouldMeet_8 : decode cX6_wouldMeet 8 = .ok (.invokevirtual 242, 3) := by decide +kernel
theorem dX6_wouldMeet_11 : decode cX6_wouldMeet 11 = .ok (.aload_n 1, 1) := by decide +kernel
theorem dX6_wouldMeet_12 : decode cX6_wouldMeet 12 = .ok (.sipush 1000, 3) := by decide +kernel
theorem dX6_wouldMeet_15 : decode cX6_wouldMeet 15 = .ok (.iload_n 3, 1) := by decide +kernel
theorem dX6_wouldMeet_16 : decode cX6_wouldMeet 16 = .ok (.iload 4, 2) := by decide +kernel
theorem dX6_wouldMeet_18 : decode cX6_wouldMeet 18 = .ok (.aload_n 0, 1) := by decide +kernel
theorem dX6_wouldMeet_19 : decode cX6_wouldMeet 19 = .ok (.getfield 24, 3) := by decide +kernel
theorem dX6_wouldMeet_22 : decode cX6_wouldMeet 22 = .ok (.invokevirtual 245, 3) := by decide +kernel
theorem dX6_wouldMeet_25 : decode cX6_wouldMeet 25 = .ok (.aload_n 2, 1) := by decide +kernel
theorem dX6_wouldMeet_26 : decode cX6_wouldMeet 26 = .ok (.aload_n 0, 1) := by decide +kernel
theorem dX6_wouldMeet_27 : decode cX6_wouldMeet 27 = .ok (.getfield 24, 3) := by decide +kernel
theorem dX6_wouldMeet_30 : decode cX6_wouldMeet 30 = .ok (.invokevirtual 254, 3) := by decide +kernel
theorem dX6_wouldMeet_33 : decode cX6_wouldMeet 33 = .ok (.ireturn, 1) := by decide +kernel
theorem dJ9_max_7cf53_0 : decode cJ9_max_7cf53 0 = .ok (.iload_n 0, 1) := by decide +kernel
theorem dJ9_max_7cf53_1 : decode cJ9_max_7cf53 1 = .ok (.iload_n 1, 1) := by decide +kernel
theorem dJ9_max_7cf53_2 : decode cJ9_max_7cf53 2 = .ok (.if_icmp .lt 7, 3) := by decide +kernel
theorem dJ9_max_7cf53_5 : decode cJ9_max_7cf53 5 = .ok (.iload_n 0, 1) := by decide +kernel
theorem dJ9_max_7cf53_6 : decode cJ9_max_7cf53 6 = .ok (.goto 4, 3) := by decide +kernel
theorem dJ9_max_7cf53_9 : decode cJ9_max_7cf53 9 = .ok (.iload_n 1, 1) := by decide +kernel
theorem dJ9_max_7cf53_10 : decode cJ9_max_7cf53 10 = .ok (.ireturn, 1) := by decide +kernel
theorem dJ9_min_7cf53_0 : decode cJ9_min_7cf53 0 = .ok (.iload_n 0, 1) := by decide +kernel
theorem dJ9_min_7cf53_1 : decode cJ9_min_7cf53 1 = .ok (.iload_n 1, 1) := by decide +kernel
theorem dJ9_min_7cf53_2 : decode cJ9_min_7cf53 2 = .ok (.if_icmp .gt 7, 3) := by decide +kernel
theorem dJ9_min_7cf53_5 : decode cJ9_min_7cf53 5 = .ok (.iload_n 0, 1) := by decide +kernel
theorem dJ9_min_7cf53_6 : decode cJ9_min_7cf53 6 = .ok (.goto 4, 3) := by decide +kernel
theorem dJ9_min_7cf53_9 : decode cJ9_min_7cf53 9 = .ok (.iload_n 1, 1) := by decide +kernel
theorem dJ9_min_7cf53_10 : decode cJ9_min_7cf53 10 = .ok (.ireturn, 1) := by decide +kernel
theorem dJ7_fill_53178_0 : decode cJ7_fill_53178 0 = .ok (.iconst 0, 1) := by decide +kernel
theorem dJ7_fill_53178_1 : decode cJ7_fill_53178 1 = .ok (.istore_n 2, 1) := by decide +kernel
theorem dJ7_fill_53178_2 : decode cJ7_fill_53178 2 = .ok (.aload_n 0, 1) := by decide +kernel
theorem dJ7_fill_53178_3 : decode cJ7_fill_53178 3 = .ok (.arraylength, 1) := by decide +kernel
theorem dJ7_fill_53178_4 : decode cJ7_fill_53178 4 = .ok (.istore_n 3, 1) := by decide +kernel
theorem dJ7_fill_53178_5 : decode cJ7_fill_53178 5 = .ok (.iload_n 2, 1) := by decide +kernel
theorem dJ7_fill_53178_6 : decode cJ7_fill_53178 6 = .ok (.iload_n 3, 1) := by decide +kernel
theorem dJ7_fill_53178_7 : decode cJ7_fill_53178 7 = .ok (.if_icmp .ge 13, 3) := by decide +kernel
theorem dJ7_fill_53178_10 : decode cJ7_fill_53178 10 = .ok (.aload_n 0, 1) := by decide +kernel
theorem dJ7_fill_53178_11 : decode cJ7_fill_53178 11 = .ok (.iload_n 2, 1) := by decide +kernel
theorem dJ7_fill_53178_12 : decode cJ7_fill_53178 12 = .ok (.iload_n 1, 1) := by decide +kernel
theorem dJ7_fill_53178_13 : decode cJ7_fill_53178 13 = .ok (.iastore, 1) := by decide +kernel
theorem dJ7_fill_53178_14 : decode cJ7_fill_53178 14 = .ok (.iinc 2 1, 3) := by decide +kernel
theorem dJ7_fill_53178_17 : decode cJ7_fill_53178 17 = .ok (.goto (-12), 3) := by decide +kernel
theorem dJ7_fill_53178_20 : decode cJ7_fill_53178 20 = .ok (.return_, 1) := by decide +kernel
end
section
theorem dX7_init_0 : decode cX7_init 0 = .ok (.aload_n 0, 1) := by decide +kernel
theorem dX7_init_1 : decode cX7_init 1 = .ok (.invokespecial 1, 3) := by decide +kernel
theorem dX7_init_4 : decode cX7_init 4 = .ok (.aload_n 0, 1) := by decide +kernel
theorem dX7_init_5 : decode cX7_init 5 = .ok (.bipush 8, 2) := by decide +kernel
theorem dX7_init_7 : decode cX7_init 7 = .ok (.newarray .int, 2) := by decide +kernel
theorem dX7_init_9 : decode cX7_init 9 = .ok (.putfield 9, 3) := by decide +kernel
theorem dX7_init_12 : decode cX7_init 12 = .ok (.aload_n 0, 1) := by decide +kernel
theorem dX7_init_13 : decode cX7_init 13 = .ok (.bipush 8, 2) := by decide +kernel
theorem dX7_init_15 : decode cX7_init 15 = .ok (.newarray .int, 2) := by decide +kernel
theorem dX7_init_17 : decode cX7_init 17 = .ok (.putfield 13, 3) := by decide +kernel
theorem dX7_init_20 : decode cX7_init 20 = .ok (.aload_n 0, 1) := by decide +kernel
theorem dX7_init_21 : decode cX7_init 21 = .ok (.bipush 8, 2) := by decide +kernel
theorem dX7_init_23 : decode cX7_init 23 = .ok (.newarray .int, 2) := by decide +kernel
theorem dX7_init_25 : decode cX7_init 25 = .ok (.putfield 16, 3) := by decide +kernel
theorem dX7_init_28 : decode cX7_init 28 = .ok (.aload_n 0, 1) := by decide +kernel
theorem dX7_init_29 : decode cX7_init 29 = .ok (.bipush 8, 2) := by decide +kernel
theorem dX7_init_31 : decode cX7_init 31 = .ok (.newarray .int, 2) := by decide +kernel
theorem dX7_init_33 : decode cX7_init 33 = .ok (.putfield 19, 3) := by decide +kernel
theorem dX7_init_36 : decode cX7_init 36 = .ok (.aload_n 0, 1) := by decide +kernel
theorem dX7_init_37 : decode cX7_init 37 = .ok (.bipush 8, 2) := by decide +kernel
theorem dX7_init_39 : decode cX7_init 39 = .ok (.newarray .int, 2) := by decide +kernel
theorem dX7_init_41 : decode cX7_init 41 = .ok (.putfield 22, 3) := by decide +kernel
theorem dX7_init_44 : decode cX7_init 44 = .ok (.aload_n 0, 1) := by decide +kernel
theorem dX7_init_45 : decode cX7_init 45 = .ok (.bipush 48, 2) := by decide +kernel
theorem dX7_init_47 : decode cX7_init 47 = .ok (.newarray .int, 2) := by decide +kernel
theorem dX7_init_49 : decode cX7_init 49 = .ok (.putfield 25, 3) := by decide +kernel
theorem dX7_init_52 : decode cX7_init 52 = .ok (.aload_n 0, 1) := by decide +kernel
theorem dX7_init_53 : decode cX7_init 53 = .ok (.bipush 48, 2) := by decide +kernel
theorem dX7_init_55 : decode cX7_init 55 = .ok (.newarray .int, 2) := by decide +kernel
theorem dX7_init_57 : decode cX7_init 57 = .ok (.putfield 28, 3) := by decide +kernel
theorem dX7_init_60 : decode cX7_init 60 = .ok (.aload_n 0, 1) := by decide +kernel
theorem dX7_init_61 : decode cX7_init 61 = .ok (.bipush 25, 2) := by decide +kernel
theorem dX7_init_63 : decode cX7_init 63 = .ok (.newarray .int, 2) := by decide +kernel
theorem dX7_init_65 : decode cX7_init 65 = .ok (.putfield 31, 3) := by decide +kernel
theorem dX7_init_68 : decode cX7_init 68 = .ok (.aload_n 0, 1) := by decide +kernel
theorem dX7_init_69 : decode cX7_init 69 = .ok (.sipush 3000, 3) := by decide +kernel
theorem dX7_init_72 : decode cX7_init 72 = .ok (.newarray .int, 2) := by decide +kernel
theorem dX7_init_74 : decode cX7_init 74 = .ok (.putfield 34, 3) := by decide +kernel
theorem dX7_init_77 : decode cX7_init 77 = .ok (.aload_n 0, 1) := by decide +kernel
theorem dX7_init_78 : decode cX7_init 78 = .ok (.bipush 6, 2) := by decide +kernel
theorem dX7_init_80 : decode cX7_init 80 = .ok (.newarray .int, 2) := by decide +kernel
theorem dX7_init_82 : decode cX7_init 82 = .ok (.putfield 37, 3) := by decide +kernel
theorem dX7_init_85 : decode cX7_init 85 = .ok (.aload_n 0, 1) := by decide +kernel
theorem dX7_init_86 : decode cX7_init 86 = .ok (.bipush 6, 2) := by decide +kernel
theorem dX7_init_88 : decode cX7_init 88 = .ok (.newarray .int, 2) := by decide +kernel
theorem dX7_init_90 : decode cX7_init 90 = .ok (.putfield 40, 3) := by decide +kernel
theorem dX7_init_93 : decode cX7_init 93 = .ok (.return_, 1) := by decide +kernel
theorem dX7_thrown_0 : decode cX7_thrown 0 = .ok (.aload_n 0, 1) := by decide +kernel
theorem dX7_thrown_1 : decode cX7_thrown 1 = .ok (.getfield 43, 3) := by decide +kernel
theorem dX7_thrown_4 : decode cX7_thrown 4 = .ok (.ireturn, 1) := by decide +kernel
theorem dX7_fail_0 : decode cX7_fail 0 = .ok (.aload_n 0, 1) := by decide +kernel
theorem dX7_fail_1 : decode cX7_fail 1 = .ok (.iload_n 1, 1) := by decide +kernel
theorem dX7_fail_2 : decode cX7_fail 2 = .ok (.putfield 43, 3) := by decide +kernel
theorem dX7_fail_5 : decode cX7_fail 5 = .ok (.iconst 0, 1) := by decide +kernel
theorem dX7_fail_6 : decode cX7_fail 6 = .ok (.ireturn, 1) := by decide +kernel
theorem dX7_failed_0 : decode cX7_failed 0 = .ok (.aload_n 0, 1) := by decide +kernel
theorem dX7_failed_1 : decode cX7_failed 1 = .ok (.iload_n 1, 1) := by decide +kernel
theorem dX7_failed_2 : decode cX7_failed 2 = .ok (.putfield 43, 3) := by decide +kernel
theorem dX7_failed_5 : decode cX7_failed 5 = .ok (.iconst 0, 1) := by decide +kernel
theorem dX7_failed_6 : decode cX7_failed 6 = .ok (.ireturn, 1) := by decide +kernel
theorem dX7_isIn_0 : decode cX7_isIn 0 = .ok (.iload_n 0, 1) := by decide +kernel
theorem dX7_isIn_1 : decode cX7_isIn 1 = .ok (.iload_n 1, 1) := by decide +kernel
theorem dX7_isIn_2 : decode cX7_isIn 2 = .ok (.if_icmp .lt 12, 3) := by decide +kernel
theorem dX7_isIn_5 : decode cX7_isIn 5 = .ok (.iload_n 0, 1) := by decide +kernel
theorem dX7_isIn_6 : decode cX7_isIn 6 = .ok (.iload_n 2, 1) := by decide +kernel
theorem dX7_isIn_7 : decode cX7_isIn 7 = .ok (.if_icmp .gt 7, 3) := by decide +kernel
theorem dX7_isIn_10 : decode cX7_isIn 10 = .ok (.iconst 1, 1) := by decide +kernel
theorem dX7_isIn_11 : decode cX7_isIn 11 = .ok (.goto 4, 3) := by decide +kernel
theorem dX7_isIn_14 : decode cX7_isIn 14 = .ok (.iconst 0, 1) := by decide +kernel
theorem dX7_isIn_15 : decode cX7_isIn 15 = .ok (.ireturn, 1) := by decide +kernel
theorem dX7_isHall_0 : decode cX7_isHall 0 = .ok (.iload_n 1, 1) := by decide +kernel
theorem dX7_isHall_1 : decode cX7_isHall 1 = .ok (.iconst 0, 1) := by decide +kernel
theorem dX7_isHall_2 : decode cX7_isHall 2 = .ok (.aload_n 0, 1) := by decide +kernel
theorem dX7_isHall_3 : decode cX7_isHall 3 = .ok (.getfield 47, 3) := by decide +kernel
theorem dX7_isHall_6 : decode cX7_isHall 6 = .ok (.iconst 1, 1) := by decide +kernel
theorem dX7_isHall_7 : decode cX7_isHall 7 = .ok (.isub, 1) := by decide +kernel
theorem dX7_isHall_8 : decode cX7_isHall 8 = .ok (.invokestatic 50, 3) := by decide +kernel
theorem dX7_isHall_11 : decode cX7_isHall 11 = .ok (.ireturn, 1) := by decide +kernel
theorem dX7_isStandard_0 : decode cX7_isStandard 0 = .ok (.iload_n 1, 1) := by decide +kernel
theorem dX7_isStandard_1 : decode cX7_isStandard 1 = .ok (.iconst 0, 1) := by decide +kernel
theorem dX7_isStandard_2 : decode cX7_isStandard 2 = .ok (.aload_n 0, 1) := by decide +kernel
theorem dX7_isStandard_3 : decode cX7_isStandard 3 = .ok (.getfield 54, 3) := by decide +kernel
theorem dX7_isStandard_6 : decode cX7_isStandard 6 = .ok (.iconst 1, 1) := by decide +kernel
theorem dX7_isStandard_7 : decode cX7_isStandard 7 = .ok (.isub, 1) := by decide +kernel
theorem dX7_isStandard_8 : decode cX7_isStandard 8 = .ok (.invokestatic 50, 3) := by decide +kernel
theorem dX7_isStandard_11 : decode cX7_isStandard 11 = .ok (.ireturn, 1) := by decide +kernel
theorem dX7_isSurface_0 : decode cX7_isSurface 0 = .ok (.aload_n 0, 1) := by decide +kernel
theorem dX7_isSurface_1 : decode cX7_isSurface 1 = .ok (.iload_n 1, 1) := by decide +kernel
theorem dX7_isSurface_2 : decode cX7_isSurface 2 = .ok (.invokevirtual 57, 3) := by decide +kernel
theorem dX7_isSurface_5 : decode cX7_isSurface 5 = .ok (.ifCond .eq 23, 3) := by decide +kernel
theorem dX7_isSurface_8 : decode cX7_isSurface 8 = .ok (.iload_n 2, 1) := by decide +kernel
theorem dX7_isSurface_9 : decode cX7_isSurface 9 = .ok (.iconst 0, 1) := by decide +kernel
theorem dX7_isSurface_10 : decode cX7_isSurface 10 = .ok (.aload_n 0, 1) := by decide +kernel
theorem dX7_isSurface_11 : decode cX7_isSurface 11 = .ok (.getfield 9, 3) := by decide +kernel
theorem dX7_isSurface_14 : decode cX7_isSurface 14 = .ok (.iload_n 1, 1) := by decide +kernel
theorem dX7_isSurface_15 : decode cX7_isSurface 15 = .ok (.iaload, 1) := by decide +kernel
theorem dX7_isSurface_16 : decode cX7_isSurface 16 = .ok (.iconst 1, 1) := by decide +kernel
theorem dX7_isSurface_17 : decode cX7_isSurface 17 = .ok (.isub, 1) := by decide +kernel
theorem dX7_isSurface_18 : decode cX7_isSurface 18 = .ok (.invokestatic 50, 3) := by decide +kernel
theorem dX7_isSurface_21 : decode cX7_isSurface 21 = .ok (.ifCond .eq 7, 3) := by decide +kernel
theorem dX7_isSurface_24 : decode cX7_isSurface 24 = .ok (.iconst 1, 1) := by decide +kernel
theorem dX7_isSurface_25 : decode cX7_isSurface 25 = .ok (.goto 4, 3) := by decide +kernel
theorem dX7_isSurface_28 : decode cX7_isSurface 28 = .ok (.iconst 0, 1) := by decide +kernel
theorem dX7_isSurface_29 : decode cX7_isSurface 29 = .ok (.ireturn, 1) := by decide +kernel
theorem dX7_rule_0 : decode cX7_rule 0 = .ok (.aload_n 0, 1) := by decide +kernel
theorem dX7_rule_1 : decode cX7_rule 1 = .ok (.getfield 31, 3) := by decide +kernel
theorem dX7_rule_4 : decode cX7_rule 4 = .ok (.iconst 5, 1) := by decide +kernel
theorem dX7_rule_5 : decode cX7_rule 5 = .ok (.iload_n 1, 1) := by decide +kernel
theorem dX7_rule_6 : decode cX7_rule 6 = .ok (.imul, 1) := by decide +kernel
theorem dX7_rule_7 : decode cX7_rule 7 = .ok (.iload_n 2, 1) := by decide +kernel
theorem dX7_rule_8 : decode cX7_rule 8 = .ok (.iadd, 1) := by decide +kernel
theorem dX7_rule_9 : decode cX7_rule 9 = .ok (.iaload, 1) := by decide +kernel
theorem dX7_rule_10 : decode cX7_rule 10 = .ok (.ireturn, 1) := by decide +kernel
theorem dX7_hard_0 : decode cX7_hard 0 = .ok (.iconst 0, 1) := by decide +kernel
theorem dX7_hard_1 : decode cX7_hard 1 = .ok (.aload_n 0, 1) := by decide +kernel
theorem dX7_hard_2 : decode cX7_hard 2 = .ok (.getfield 28, 3) := by decide +kernel
theorem dX7_hard_5 : decode cX7_hard 5 = .ok (.bipush 6, 2) := by decide +kernel
theorem dX7_hard_7 : decode cX7_hard 7 = .ok (.iload_n 1, 1) := by decide +kernel
theorem dX7_hard_8 : decode cX7_hard 8 = .ok (.imul, 1) := by decide +kernel
theorem dX7_hard_9 : decode cX7_hard 9 = .ok (.iload_n 2, 1) := by decide +kernel
theorem dX7_hard_10 : decode cX7_hard 10 = .ok (.iadd, 1) := by decide +kernel
theorem dX7_hard_11 : decode cX7_hard 11 = .ok (.iaload, 1) := by decide +kernel
theorem dX7_hard_12 : decode cX7_hard 12 = .ok (.iload_n 3, 1) := by decide +kernel
theorem dX7_hard_13 : decode cX7_hard 13 = .ok (.iconst 5, 1) := by decide +kernel
theorem dX7_hard_14 : decode cX7_hard 14 = .ok (.idiv, 1) := by decide +kernel
theorem dX7_hard_15 : decode cX7_hard 15 = .ok (.isub, 1) := by decide +kernel
theorem dX7_hard_16 : decode cX7_hard 16 = .ok (.invokestatic 61, 3) := by decide +kernel
theorem dX7_hard_19 : decode cX7_hard 19 = .ok (.ireturn, 1) := by decide +kernel
theorem dX7_click_0 : decode cX7_click 0 = .ok (.aload_n 0, 1) := by decide +kernel
theorem dX7_click_1 : decode cX7_click 1 = .ok (.aload_n 0, 1) := by decide +kernel
theorem dX7_click_2 : decode cX7_click 2 = .ok (.getfield 9, 3) := by decide +kernel
theorem dX7_click_5 : decode cX7_click 5 = .ok (.iload_n 1, 1) := by decide +kernel
theorem dX7_click_6 : decode cX7_click 6 = .ok (.iaload, 1) := by decide +kernel
theorem dX7_click_7 : decode cX7_click 7 = .ok (.putfield 67, 3) := by decide +kernel
theorem dX7_click_10 : decode cX7_click 10 = .ok (.iconst 0, 1) := by decide +kernel
theorem dX7_click_11 : decode cX7_click 11 = .ok (.istore 5, 2) := by decide +kernel
theorem dX7_click_13 : decode cX7_click 13 = .ok (.iload 5, 2) := by decide +kernel
theorem dX7_click_15 : decode cX7_click 15 = .ok (.aload_n 0, 1) := by decide +kernel
theorem dX7_click_16 : decode cX7_click 16 = .ok (.getfield 67, 3) := by decide +kernel
theorem dX7_click_19 : decode cX7_click 19 = .ok (.if_icmp .ge 130, 3) := by decide +kernel
theorem dX7_click_22 : decode cX7_click 22 = .ok (.aload_n 0, 1) := by decide +kernel
theorem dX7_click_23 : decode cX7_click 23 = .ok (.iload_n 1, 1) := by decide +kernel
theorem dX7_click_24 : decode cX7_click 24 = .ok (.iload 5, 2) := by decide +kernel
theorem dX7_click_26 : decode cX7_click 26 = .ok (.iload 4, 2) := by decide +kernel
theorem dX7_click_28 : decode cX7_click 28 = .ok (.invokevirtual 70, 3) := by decide +kernel
theorem dX7_click_31 : decode cX7_click 31 = .ok (.istore 6, 2) := by decide +kernel
theorem dX7_click_33 : decode cX7_click 33 = .ok (.iload_n 2, 1) := by decide +kernel
theorem dX7_click_34 : decode cX7_click 34 = .ok (.istore 7, 2) := by decide +kernel
theorem dX7_click_36 : decode cX7_click 36 = .ok (.aload_n 0, 1) := by decide +kernel
theorem dX7_click_37 : decode cX7_click 37 = .ok (.getfield 40, 3) := by decide +kernel
theorem dX7_click_40 : decode cX7_click 40 = .ok (.iload 5, 2) := by decide +kernel
theorem dX7_click_42 : decode cX7_click 42 = .ok (.bipush 6, 2) := by decide +kernel
theorem dX7_click_44 : decode cX7_click 44 = .ok (.aload_n 0, 1) := by decide +kernel
theorem dX7_click_45 : decode cX7_click 45 = .ok (.getfield 25, 3) := by decide +kernel
theorem dX7_click_48 : decode cX7_click 48 = .ok (.bipush 6, 2) := by decide +kernel
theorem dX7_click_50 : decode cX7_click 50 = .ok (.iload_n 1, 1) := by decide +kernel
theorem dX7_click_51 : decode cX7_click 51 = .ok (.imul, 1) := by decide +kernel
theorem dX7_click_52 : decode cX7_click 52 = .ok (.iload 5, 2) := by decide +kernel
theorem dX7_click_54 : decode cX7_click 54 = .ok (.iadd, 1) := by decide +kernel
theorem dX7_click_55 : decode cX7_click 55 = .ok (.iaload, 1) := by decide +kernel
theorem dX7_click_56 : decode cX7_click 56 = .ok (.imul, 1) := by decide +kernel
theorem dX7_click_57 : decode cX7_click 57 = .ok (.iastore, 1) := by decide +kernel
theorem dX7_click_58 : decode cX7_click 58 = .ok (.sipush 3000, 3) := by decide +kernel
theorem dX7_click_61 : decode cX7_click 61 = .ok (.aload_n 0, 1) := by decide +kernel
theorem dX7_click_62 : decode cX7_click 62 = .ok (.getfield 40, 3) := by decide +kernel
theorem dX7_click_65 : decode cX7_click 65 = .ok (.iload 5, 2) := by decide +kernel
theorem dX7_click_67 : decode cX7_click 67 = .ok (.iaload, 1) := by decide +kernel
theorem dX7_click_68 : decode cX7_click 68 = .ok (.idiv, 1) := by decide +kernel
theorem dX7_click_69 : decode cX7_click 69 = .ok (.istore 8, 2) := by decide +kernel
theorem dX7_click_71 : decode cX7_click 71 = .ok (.iconst 0, 1) := by decide +kernel
theorem dX7_click_72 : decode cX7_click 72 = .ok (.istore 9, 2) := by decide +kernel
theorem dX7_click_74 : decode cX7_click 74 = .ok (.iload 9, 2) := by decide +kernel
theorem dX7_click_76 : decode cX7_click 76 = .ok (.iload 8, 2) := by decide +kernel
theorem dX7_click_78 : decode cX7_click 78 = .ok (.if_icmp .ge 56, 3) := by decide +kernel
theorem dX7_click_81 : decode cX7_click 81 = .ok (.iload 7, 2) := by decide +kernel
theorem dX7_click_83 : decode cX7_click 83 = .ok (.ifCond .le 51, 3) := by decide +kernel
theorem dX7_click_86 : decode cX7_click 86 = .ok (.iload 7, 2) := by decide +kernel
theorem dX7_click_88 : decode cX7_click 88 = .ok (.iload 6, 2) := by decide +kernel
theorem dX7_click_90 : decode cX7_click 90 = .ok (.imul, 1) := by decide +kernel
theorem dX7_click_91 : decode cX7_click 91 = .ok (.bipush 100, 2) := by decide +kernel
theorem dX7_click_93 : decode cX7_click 93 = .ok (.idiv, 1) := by decide +kernel
theorem dX7_click_94 : decode cX7_click 94 = .ok (.bipush 100, 2) := by decide +kernel
theorem dX7_click_96 : decode cX7_click 96 = .ok (.iload_n 3, 1) := by decide +kernel
theorem dX7_click_97 : decode cX7_click 97 = .ok (.isub, 1) := by decide +kernel
theorem dX7_click_98 : decode cX7_click 98 = .ok (.imul, 1) := by decide +kernel
theorem dX7_click_99 : decode cX7_click 99 = .ok (.bipush 100, 2) := by decide +kernel
theorem dX7_click_101 : decode cX7_click 101 = .ok (.idiv, 1) := by decide +kernel
theorem dX7_click_102 : decode cX7_click 102 = .ok (.istore 7, 2) := by decide +kernel
theorem dX7_click_104 : decode cX7_click 104 = .ok (.iload 7, 2) := by decide +kernel
theorem dX7_click_106 : decode cX7_click 106 = .ok (.ifCond .ne 6, 3) := by decide +kernel
theorem dX7_click_109 : decode cX7_click 109 = .ok (.goto (-35), 3) := by decide +kernel
theorem dX7_click_112 : decode cX7_click 112 = .ok (.aload_n 0, 1) := by decide +kernel
theorem dX7_click_113 : decode cX7_click 113 = .ok (.getfield 34, 3) := by decide +kernel
theorem dX7_click_116 : decode cX7_click 116 = .ok (.sipush 500, 3) := by decide +kernel
theorem dX7_click_119 : decode cX7_click 119 = .ok (.iload 5, 2) := by decide +kernel
theorem dX7_click_121 : decode cX7_click 121 = .ok (.imul, 1) := by decide +kernel
theorem dX7_click_122 : decode cX7_click 122 = .ok (.iload 9, 2) := by decide +kernel
theorem dX7_click_124 : decode cX7_click 124 = .ok (.iadd, 1) := by decide +kernel
theorem dX7_click_125 : decode cX7_click 125 = .ok (.iload 7, 2) := by decide +kernel
theorem dX7_click_127 : decode cX7_click 127 = .ok (.iastore, 1) := by decide +kernel
theorem dX7_click_128 : decode cX7_click 128 = .ok (.iinc 9 1, 3) := by decide +kernel
theorem dX7_click_131 : decode cX7_click 131 = .ok (.goto (-57), 3) := by decide +kernel
theorem dX7_click_134 : decode cX7_click 134 = .ok (.aload_n 0, 1) := by decide +kernel
theorem dX7_click_135 : decode cX7_click 135 = .ok (.getfield 37, 3) := by decide +kernel
theorem dX7_click_138 : decode cX7_click 138 = .ok (.iload 5, 2) := by decide +kernel
theorem dX7_click_140 : decode cX7_click 140 = .ok (.iload 9, 2) := by decide +kernel
theorem dX7_click_142 : decode cX7_click 142 = .ok (.iastore, 1) := by decide +kernel
theorem dX7_click_143 : decode cX7_click 143 = .ok (.iinc 5 1, 3) := by decide +kernel
theorem dX7_click_146 : decode cX7_click 146 = .ok (.goto (-133), 3) := by decide +kernel
theorem dX7_click_149 : decode cX7_click 149 = .ok (.return_, 1) := by decide +kernel
theorem dX7_clickNow_0 : decode cX7_clickNow 0 = .ok (.aload_n 0, 1) := by decide +kernel
theorem dX7_clickNow_1 : decode cX7_clickNow 1 = .ok (.iload_n 1, 1) := by decide +kernel
theorem dX7_clickNow_2 : decode cX7_clickNow 2 = .ok (.iload_n 2, 1) := by decide +kernel
theorem dX7_clickNow_3 : decode cX7_clickNow 3 = .ok (.aload_n 0, 1) := by decide +kernel
theorem dX7_clickNow_4 : decode cX7_clickNow 4 = .ok (.getfield 13, 3) := by decide +kernel
theorem dX7_clickNow_7 : decode cX7_clickNow 7 = .ok (.iload_n 1, 1) := by decide +kernel
theorem dX7_clickNow_8 : decode cX7_clickNow 8 = .ok (.iaload, 1) := by decide +kernel
theorem dX7_clickNow_9 : decode cX7_clickNow 9 = .ok (.aload_n 0, 1) := by decide +kernel
theorem dX7_clickNow_10 : decode cX7_clickNow 10 = .ok (.getfield 16, 3) := by decide +kernel
theorem dX7_clickNow_13 : decode cX7_clickNow 13 = .ok (.iload_n 1, 1) := by decide +kernel
theorem dX7_clickNow_14 : decode cX7_clickNow 14 = .ok (.iaload, 1) := by decide +kernel
theorem dX7_clickNow_15 : decode cX7_clickNow 15 = .ok (.invokevirtual 74, 3) := by decide +kernel
theorem dX7_clickNow_18 : decode cX7_clickNow 18 = .ok (.return_, 1) := by decide +kernel
theorem dX7_all_0 : decode cX7_all 0 = .ok (.iconst 0, 1) := by decide +kernel
theorem dX7_all_1 : decode cX7_all 1 = .ok (.istore_n 1, 1) := by decide +kernel
theorem dX7_all_2 : decode cX7_all 2 = .ok (.iconst 0, 1) := by decide +kernel
theorem dX7_all_3 : decode cX7_all 3 = .ok (.istore_n 2, 1) := by decide +kernel
theorem dX7_all_4 : decode cX7_all 4 = .ok (.iload_n 2, 1) := by decide +kernel
theorem dX7_all_5 : decode cX7_all 5 = .ok (.aload_n 0, 1) := by decide +kernel
theorem dX7_all_6 : decode cX7_all 6 = .ok (.getfield 67, 3) := by decide +kernel
theorem dX7_all_9 : decode cX7_all 9 = .ok (.if_icmp .ge 18, 3) := by decide +kernel
theorem dX7_all_12 : decode cX7_all 12 = .ok (.iload_n 1, 1) := by decide +kernel
theorem dX7_all_13 : decode cX7_all 13 = .ok (.aload_n 0, 1) := by decide +kernel
theorem dX7_all_14 : decode cX7_all 14 = .ok (.getfield 37, 3) := by decide +kernel
theorem dX7_all_17 : decode cX7_all 17 = .ok (.iload_n 2, 1) := by decide +kernel
theorem dX7_all_18 : decode cX7_all 18 = .ok (.iaload, 1) := by decide +kernel
theorem dX7_all_19 : decode cX7_all 19 = .ok (.iadd, 1) := by decide +kernel
theorem dX7_all_20 : decode cX7_all 20 = .ok (.istore_n 1, 1) := by decide +kernel
theorem dX7_all_21 : decode cX7_all 21 = .ok (.iinc 2 1, 3) := by decide +kernel
theorem dX7_all_24 : decode cX7_all 24 = .ok (.goto (-20), 3) := by decide +kernel
theorem dX7_all_27 : decode cX7_all 27 = .ok (.iload_n 1, 1) := by decide +kernel
theorem dX7_all_28 : decode cX7_all 28 = .ok (.ireturn, 1) := by decide +kernel
theorem dX7_louder_0 : decode cX7_louder 0 = .ok (.iconst 0, 1) := by decide +kernel
theorem dX7_louder_1 : decode cX7_louder 1 = .ok (.istore_n 2, 1) := by decide +kernel
theorem dX7_louder_2 : decode cX7_louder 2 = .ok (.iconst 0, 1) := by decide +kernel
theorem dX7_louder_3 : decode cX7_louder 3 = .ok (.istore_n 3, 1) := by decide +kernel
theorem dX7_louder_4 : decode cX7_louder 4 = .ok (.iload_n 3, 1) := by decide +kernel
theorem dX7_louder_5 : decode cX7_louder 5 = .ok (.aload_n 0, 1) := by decide +kernel
theorem dX7_louder_6 : decode cX7_louder 6 = .ok (.getfield 67, 3) := by decide +kernel
theorem dX7_louder_9 : decode cX7_louder 9 = .ok (.if_icmp .ge 51, 3) := by decide +kernel
theorem dX7_louder_12 : decode cX7_louder 12 = .ok (.iconst 0, 1) := by decide +kernel
theorem dX7_louder_13 : decode cX7_louder 13 = .ok (.istore 4, 2) := by decide +kernel
theorem dX7_louder_15 : decode cX7_louder 15 = .ok (.iload 4, 2) := by decide +kernel
theorem dX7_louder_17 : decode cX7_louder 17 = .ok (.aload_n 0, 1) := by decide +kernel
theorem dX7_louder_18 : decode cX7_louder 18 = .ok (.getfield 37, 3) := by decide +kernel
theorem dX7_louder_21 : decode cX7_louder 21 = .ok (.iload_n 3, 1) := by decide +kernel
theorem dX7_louder_22 : decode cX7_louder 22 = .ok (.iaload, 1) := by decide +kernel
theorem dX7_louder_23 : decode cX7_louder 23 = .ok (.if_icmp .ge 26, 3) := by decide +kernel
theorem dX7_louder_26 : decode cX7_louder 26 = .ok (.aload_n 0, 1) := by decide +kernel
theorem dX7_louder_27 : decode cX7_louder 27 = .ok (.getfield 34, 3) := by decide +kernel
theorem dX7_louder_30 : decode cX7_louder 30 = .ok (.sipush 500, 3) := by decide +kernel
theorem dX7_louder_33 : decode cX7_louder 33 = .ok (.iload_n 3, 1) := by decide +kernel
theorem dX7_louder_34 : decode cX7_louder 34 = .ok (.imul, 1) := by decide +kernel
theorem dX7_louder_35 : decode cX7_louder 35 = .ok (.iload 4, 2) := by decide +kernel
theorem dX7_louder_37 : decode cX7_louder 37 = .ok (.iadd, 1) := by decide +kernel
theorem dX7_louder_38 : decode cX7_louder 38 = .ok (.iaload, 1) := by decide +kernel
theorem dX7_louder_39 : decode cX7_louder 39 = .ok (.iload_n 1, 1) := by decide +kernel
theorem dX7_louder_40 : decode cX7_louder 40 = .ok (.if_icmp .lt 9, 3) := by decide +kernel
theorem dX7_louder_43 : decode cX7_louder 43 = .ok (.iinc 4 1, 3) := by decide +kernel
theorem dX7_louder_46 : decode cX7_louder 46 = .ok (.goto (-31), 3) := by decide +kernel
theorem dX7_louder_49 : decode cX7_louder 49 = .ok (.iload_n 2, 1) := by decide +kernel
theorem dX7_louder_50 : decode cX7_louder 50 = .ok (.iload 4, 2) := by decide +kernel
theorem dX7_louder_52 : decode cX7_louder 52 = .ok (.iadd, 1) := by decide +kernel
theorem dX7_louder_53 : decode cX7_louder 53 = .ok (.istore_n 2, 1) := by decide +kernel
theorem dX7_louder_54 : decode cX7_louder 54 = .ok (.iinc 3 1, 3) := by decide +kernel
theorem dX7_louder_57 : decode cX7_louder 57 = .ok (.goto (-53), 3) := by decide +kernel
theorem dX7_louder_60 : decode cX7_louder 60 = .ok (.iload_n 2, 1) := by decide +kernel
theorem dX7_louder_61 : decode cX7_louder 61 = .ok (.ireturn, 1) := by decide +kernel
theorem dX7_first_0 : decode cX7_first 0 = .ok (.iconst (-1), 1) := by decide +kernel
theorem dX7_first_1 : decode cX7_first 1 = .ok (.istore_n 1, 1) := by decide +kernel
theorem dX7_first_2 : decode cX7_first 2 = .ok (.iconst 0, 1) := by decide +kernel
theorem dX7_first_3 : decode cX7_first 3 = .ok (.istore_n 2, 1) := by decide +kernel
theorem dX7_first_4 : decode cX7_first 4 = .ok (.iload_n 2, 1) := by decide +kernel
theorem dX7_first_5 : decode cX7_first 5 = .ok (.aload_n 0, 1) := by decide +kernel
theorem dX7_first_6 : decode cX7_first 6 = .ok (.getfield 67, 3) := by decide +kernel
theorem dX7_first_9 : decode cX7_first 9 = .ok (.if_icmp .ge 40, 3) := by decide +kernel
theorem dX7_first_12 : decode cX7_first 12 = .ok (.aload_n 0, 1) := by decide +kernel
theorem dX7_first_13 : decode cX7_first 13 = .ok (.getfield 37, 3) := by decide +kernel
theorem dX7_first_16 : decode cX7_first 16 = .ok (.iload_n 2, 1) := by decide +kernel
theorem dX7_first_17 : decode cX7_first 17 = .ok (.iaload, 1) := by decide +kernel
theorem dX7_first_18 : decode cX7_first 18 = .ok (.ifCond .le 25, 3) := by decide +kernel
theorem dX7_first_21 : decode cX7_first 21 = .ok (.iload_n 1, 1) := by decide +kernel
theorem dX7_first_22 : decode cX7_first 22 = .ok (.iconst (-1), 1) := by decide +kernel
theorem dX7_first_23 : decode cX7_first 23 = .ok (.if_icmp .eq 13, 3) := by decide +kernel
theorem dX7_first_26 : decode cX7_first 26 = .ok (.aload_n 0, 1) := by decide +kernel
theorem dX7_first_27 : decode cX7_first 27 = .ok (.getfield 40, 3) := by decide +kernel
theorem dX7_first_30 : decode cX7_first 30 = .ok (.iload_n 2, 1) := by decide +kernel
theorem dX7_first_31 : decode cX7_first 31 = .ok (.iaload, 1) := by decide +kernel
theorem dX7_first_32 : decode cX7_first 32 = .ok (.iload_n 1, 1) := by decide +kernel
theorem dX7_first_33 : decode cX7_first 33 = .ok (.if_icmp .ge 10, 3) := by decide +kernel
theorem dX7_first_36 : decode cX7_first 36 = .ok (.aload_n 0, 1) := by decide +kernel
theorem dX7_first_37 : decode cX7_first 37 = .ok (.getfield 40, 3) := by decide +kernel
theorem dX7_first_40 : decode cX7_first 40 = .ok (.iload_n 2, 1) := by decide +kernel
theorem dX7_first_41 : decode cX7_first 41 = .ok (.iaload, 1) := by decide +kernel
theorem dX7_first_42 : decode cX7_first 42 = .ok (.istore_n 1, 1) := by decide +kernel
theorem dX7_first_43 : decode cX7_first 43 = .ok (.iinc 2 1, 3) := by decide +kernel
theorem dX7_first_46 : decode cX7_first 46 = .ok (.goto (-42), 3) := by decide +kernel
theorem dX7_first_49 : decode cX7_first 49 = .ok (.iload_n 1, 1) := by decide +kernel
theorem dX7_first_50 : decode cX7_first 50 = .ok (.ireturn, 1) := by decide +kernel
theorem dX7_last_0 : decode cX7_last 0 = .ok (.iconst (-1), 1) := by decide +kernel
theorem dX7_last_1 : decode cX7_last 1 = .ok (.istore_n 1, 1) := by decide +kernel
theorem dX7_last_2 : decode cX7_last 2 = .ok (.iconst 0, 1) := by decide +kernel
theorem dX7_last_3 : decode cX7_last 3 = .ok (.istore_n 2, 1) := by decide +kernel
theorem dX7_last_4 : decode cX7_last 4 = .ok (.iload_n 2, 1) := by decide +kernel
theorem dX7_last_5 : decode cX7_last 5 = .ok (.aload_n 0, 1) := by decide +kernel
theorem dX7_last_6 : decode cX7_last 6 = .ok (.getfield 67, 3) := by decide +kernel
theorem dX7_last_9 : decode cX7_last 9 = .ok (.if_icmp .ge 36, 3) := by decide +kernel
theorem dX7_last_12 : decode cX7_last 12 = .ok (.aload_n 0, 1) := by decide +kernel
theorem dX7_last_13 : decode cX7_last 13 = .ok (.getfield 37, 3) := by decide +kernel
theorem dX7_last_16 : decode cX7_last 16 = .ok (.iload_n 2, 1) := by decide +kernel
theorem dX7_last_17 : decode cX7_last 17 = .ok (.iaload, 1) := by decide +kernel
theorem dX7_last_18 : decode cX7_last 18 = .ok (.ifCond .le 21, 3) := by decide +kernel
theorem dX7_last_21 : decode cX7_last 21 = .ok (.iload_n 1, 1) := by decide +kernel
theorem dX7_last_22 : decode cX7_last 22 = .ok (.aload_n 0, 1) := by decide +kernel
theorem dX7_last_23 : decode cX7_last 23 = .ok (.getfield 40, 3) := by decide +kernel
theorem dX7_last_26 : decode cX7_last 26 = .ok (.iload_n 2, 1) := by decide +kernel
theorem dX7_last_27 : decode cX7_last 27 = .ok (.iaload, 1) := by decide +kernel
theorem dX7_last_28 : decode cX7_last 28 = .ok (.aload_n 0, 1) := by decide +kernel
theorem dX7_last_29 : decode cX7_last 29 = .ok (.getfield 37, 3) := by decide +kernel
theorem dX7_last_32 : decode cX7_last 32 = .ok (.iload_n 2, 1) := by decide +kernel
theorem dX7_last_33 : decode cX7_last 33 = .ok (.iaload, 1) := by decide +kernel
theorem dX7_last_34 : decode cX7_last 34 = .ok (.imul, 1) := by decide +kernel
theorem dX7_last_35 : decode cX7_last 35 = .ok (.invokestatic 61, 3) := by decide +kernel
theorem dX7_last_38 : decode cX7_last 38 = .ok (.istore_n 1, 1) := by decide +kernel
theorem dX7_last_39 : decode cX7_last 39 = .ok (.iinc 2 1, 3) := by decide +kernel
theorem dX7_last_42 : decode cX7_last 42 = .ok (.goto (-38), 3) := by decide +kernel
theorem dX7_last_45 : decode cX7_last 45 = .ok (.iload_n 1, 1) := by decide +kernel
theorem dX7_last_46 : decode cX7_last 46 = .ok (.ireturn, 1) := by decide +kernel
theorem dX7_at_0 : decode cX7_at 0 = .ok (.iconst 0, 1) := by decide +kernel
theorem dX7_at_1 : decode cX7_at 1 = .ok (.istore_n 2, 1) := by decide +kernel
theorem dX7_at_2 : decode cX7_at 2 = .ok (.iconst 0, 1) := by decide +kernel
theorem dX7_at_3 : decode cX7_at 3 = .ok (.istore_n 3, 1) := by decide +kernel
theorem dX7_at_4 : decode cX7_at 4 = .ok (.iload_n 3, 1) := by decide +kernel
theorem dX7_at_5 : decode cX7_at 5 = .ok (.aload_n 0, 1) := by decide +kernel
theorem dX7_at_6 : decode cX7_at 6 = .ok (.getfield 67, 3) := by decide +kernel
theorem dX7_at_9 : decode cX7_at 9 = .ok (.if_icmp .ge 64, 3) := by decide +kernel
theorem dX7_at_12 : decode cX7_at 12 = .ok (.iload_n 1, 1) := by decide +kernel
theorem dX7_at_13 : decode cX7_at 13 = .ok (.aload_n 0, 1) := by decide +kernel
theorem dX7_at_14 : decode cX7_at 14 = .ok (.getfield 40, 3) := by decide +kernel
theorem dX7_at_17 : decode cX7_at 17 = .ok (.iload_n 3, 1) := by decide +kernel
theorem dX7_at_18 : decode cX7_at 18 = .ok (.iaload, 1) := by decide +kernel
theorem dX7_at_19 : decode cX7_at 19 = .ok (.idiv, 1) := by decide +kernel
theorem dX7_at_20 : decode cX7_at 20 = .ok (.istore 4, 2) := by decide +kernel
theorem dX7_at_22 : decode cX7_at 22 = .ok (.iload_n 1, 1) := by decide +kernel
theorem dX7_at_23 : decode cX7_at 23 = .ok (.aload_n 0, 1) := by decide +kernel
theorem dX7_at_24 : decode cX7_at 24 = .ok (.getfield 40, 3) := by decide +kernel
theorem dX7_at_27 : decode cX7_at 27 = .ok (.iload_n 3, 1) := by decide +kernel
theorem dX7_at_28 : decode cX7_at 28 = .ok (.iaload, 1) := by decide +kernel
theorem dX7_at_29 : decode cX7_at 29 = .ok (.irem, 1) := by decide +kernel
theorem dX7_at_30 : decode cX7_at 30 = .ok (.ifCond .ne 37, 3) := by decide +kernel
theorem dX7_at_33 : decode cX7_at 33 = .ok (.iload 4, 2) := by decide +kernel
theorem dX7_at_35 : decode cX7_at 35 = .ok (.ifCond .le 32, 3) := by decide +kernel
theorem dX7_at_38 : decode cX7_at 38 = .ok (.iload 4, 2) := by decide +kernel
theorem dX7_at_40 : decode cX7_at 40 = .ok (.aload_n 0, 1) := by decide +kernel
theorem dX7_at_41 : decode cX7_at 41 = .ok (.getfield 37, 3) := by decide +kernel
theorem dX7_at_44 : decode cX7_at 44 = .ok (.iload_n 3, 1) := by decide +kernel
theorem dX7_at_45 : decode cX7_at 45 = .ok (.iaload, 1) := by decide +kernel
theorem dX7_at_46 : decode cX7_at 46 = .ok (.if_icmp .gt 21, 3) := by decide +kernel
theorem dX7_at_49 : decode cX7_at 49 = .ok (.iload_n 2, 1) := by decide +kernel
theorem dX7_at_50 : decode cX7_at 50 = .ok (.aload_n 0, 1) := by decide +kernel
theorem dX7_at_51 : decode cX7_at 51 = .ok (.getfield 34, 3) := by decide +kernel
theorem dX7_at_54 : decode cX7_at 54 = .ok (.sipush 500, 3) := by decide +kernel
theorem dX7_at_57 : decode cX7_at 57 = .ok (.iload_n 3, 1) := by decide +kernel
theorem dX7_at_58 : decode cX7_at 58 = .ok (.imul, 1) := by decide +kernel
theorem dX7_at_59 : decode cX7_at 59 = .ok (.iload 4, 2) := by decide +kernel
theorem dX7_at_61 : decode cX7_at 61 = .ok (.iadd, 1) := by decide +kernel
theorem dX7_at_62 : decode cX7_at 62 = .ok (.iconst 1, 1) := by decide +kernel
theorem dX7_at_63 : decode cX7_at 63 = .ok (.isub, 1) := by decide +kernel
theorem dX7_at_64 : decode cX7_at 64 = .ok (.iaload, 1) := by decide +kernel
theorem dX7_at_65 : decode cX7_at 65 = .ok (.iadd, 1) := by decide +kernel
theorem dX7_at_66 : decode cX7_at 66 = .ok (.istore_n 2, 1) := by decide +kernel
theorem dX7_at_67 : decode cX7_at 67 = .ok (.iinc 3 1, 3) := by decide +kernel
theorem dX7_at_70 : decode cX7_at 70 = .ok (.goto (-66), 3) := by decide +kernel
theorem dX7_at_73 : decode cX7_at 73 = .ok (.iload_n 2, 1) := by decide +kernel
theorem dX7_at_74 : decode cX7_at 74 = .ok (.ireturn, 1) := by decide +kernel
theorem dX7_loudest_0 : decode cX7_loudest 0 = .ok (.iconst (-1), 1) := by decide +kernel
theorem dX7_loudest_1 : decode cX7_loudest 1 = .ok (.istore_n 1, 1) := by decide +kernel
theorem dX7_loudest_2 : decode cX7_loudest 2 = .ok (.iconst 0, 1) := by decide +kernel
theorem dX7_loudest_3 : decode cX7_loudest 3 = .ok (.istore_n 2, 1) := by decide +kernel
theorem dX7_loudest_4 : decode cX7_loudest 4 = .ok (.iconst 0, 1) := by decide +kernel
theorem dX7_loudest_5 : decode cX7_loudest 5 = .ok (.istore_n 3, 1) := by decide +kernel
theorem dX7_loudest_6 : decode cX7_loudest 6 = .ok (.iload_n 3, 1) := by decide +kernel
theorem dX7_loudest_7 : decode cX7_loudest 7 = .ok (.aload_n 0, 1) := by decide +kernel
theorem dX7_loudest_8 : decode cX7_loudest 8 = .ok (.getfield 67, 3) := by decide +kernel
theorem dX7_loudest_11 : decode cX7_loudest 11 = .ok (.if_icmp .ge 75, 3) := by decide +kernel
theorem dX7_loudest_14 : decode cX7_loudest 14 = .ok (.iconst 1, 1) := by decide +kernel
theorem dX7_loudest_15 : decode cX7_loudest 15 = .ok (.istore 4, 2) := by decide +kernel
theorem dX7_loudest_17 : decode cX7_loudest 17 = .ok (.iload 4, 2) := by decide +kernel
theorem dX7_loudest_19 : decode cX7_loudest 19 = .ok (.aload_n 0, 1) := by decide +kernel
theorem dX7_loudest_20 : decode cX7_loudest 20 = .ok (.getfield 37, 3) := by decide +kernel
theorem dX7_loudest_23 : decode cX7_loudest 23 = .ok (.iload_n 3, 1) := by decide +kernel
theorem dX7_loudest_24 : decode cX7_loudest 24 = .ok (.iaload, 1) := by decide +kernel
theorem dX7_loudest_25 : decode cX7_loudest 25 = .ok (.if_icmp .gt 55, 3) := by decide +kernel
theorem dX7_loudest_28 : decode cX7_loudest 28 = .ok (.aload_n 0, 1) := by decide +kernel
theorem dX7_loudest_29 : decode cX7_loudest 29 = .ok (.getfield 40, 3) := by decide +kernel
theorem dX7_loudest_32 : decode cX7_loudest 32 = .ok (.iload_n 3, 1) := by decide +kernel
theorem dX7_loudest_33 : decode cX7_loudest 33 = .ok (.iaload, 1) := by decide +kernel
theorem dX7_loudest_34 : decode cX7_loudest 34 = .ok (.iload 4, 2) := by decide +kernel
theorem dX7_loudest_36 : decode cX7_loudest 36 = .ok (.imul, 1) := by decide +kernel
theorem dX7_loudest_37 : decode cX7_loudest 37 = .ok (.istore 5, 2) := by decide +kernel
theorem dX7_loudest_39 : decode cX7_loudest 39 = .ok (.aload_n 0, 1) := by decide +kernel
theorem dX7_loudest_40 : decode cX7_loudest 40 = .ok (.iload 5, 2) := by decide +kernel
theorem dX7_loudest_42 : decode cX7_loudest 42 = .ok (.invokevirtual 78, 3) := by decide +kernel
theorem dX7_loudest_45 : decode cX7_loudest 45 = .ok (.istore 6, 2) := by decide +kernel
theorem dX7_loudest_47 : decode cX7_loudest 47 = .ok (.iload 6, 2) := by decide +kernel
theorem dX7_loudest_49 : decode cX7_loudest 49 = .ok (.iload_n 2, 1) := by decide +kernel
theorem dX7_loudest_50 : decode cX7_loudest 50 = .ok (.if_icmp .lt 24, 3) := by decide +kernel
theorem dX7_loudest_53 : decode cX7_loudest 53 = .ok (.iload 6, 2) := by decide +kernel
theorem dX7_loudest_55 : decode cX7_loudest 55 = .ok (.iload_n 2, 1) := by decide +kernel
theorem dX7_loudest_56 : decode cX7_loudest 56 = .ok (.if_icmp .ne 12, 3) := by decide +kernel
theorem dX7_loudest_59 : decode cX7_loudest 59 = .ok (.iload 5, 2) := by decide +kernel
theorem dX7_loudest_61 : decode cX7_loudest 61 = .ok (.iload_n 1, 1) := by decide +kernel
theorem dX7_loudest_62 : decode cX7_loudest 62 = .ok (.if_icmp .lt 6, 3) := by decide +kernel
theorem dX7_loudest_65 : decode cX7_loudest 65 = .ok (.goto 9, 3) := by decide +kernel
theorem dX7_loudest_68 : decode cX7_loudest 68 = .ok (.iload 5, 2) := by decide +kernel
theorem dX7_loudest_70 : decode cX7_loudest 70 = .ok (.istore_n 1, 1) := by decide +kernel
theorem dX7_loudest_71 : decode cX7_loudest 71 = .ok (.iload 6, 2) := by decide +kernel
theorem dX7_loudest_73 : decode cX7_loudest 73 = .ok (.istore_n 2, 1) := by decide +kernel
theorem dX7_loudest_74 : decode cX7_loudest 74 = .ok (.iinc 4 1, 3) := by decide +kernel
theorem dX7_loudest_77 : decode cX7_loudest 77 = .ok (.goto (-60), 3) := by decide +kernel
theorem dX7_loudest_80 : decode cX7_loudest 80 = .ok (.iinc 3 1, 3) := by decide +kernel
theorem dX7_loudest_83 : decode cX7_loudest 83 = .ok (.goto (-77), 3) := by decide +kernel
theorem dX7_loudest_86 : decode cX7_loudest 86 = .ok (.iload_n 1, 1) := by decide +kernel
theorem dX7_loudest_87 : decode cX7_loudest 87 = .ok (.ireturn, 1) := by decide +kernel
theorem dX7_meets_0 : decode cX7_meets 0 = .ok (.aload_n 0, 1) := by decide +kernel
theorem dX7_meets_1 : decode cX7_meets 1 = .ok (.iload_n 1, 1) := by decide +kernel
theorem dX7_meets_2 : decode cX7_meets 2 = .ok (.sipush 1000, 3) := by decide +kernel
theorem dX7_meets_5 : decode cX7_meets 5 = .ok (.iload_n 3, 1) := by decide +kernel
theorem dX7_meets_6 : decode cX7_meets 6 = .ok (.iload 4, 2) := by decide +kernel
theorem dX7_meets_8 : decode cX7_meets 8 = .ok (.invokevirtual 74, 3) := by decide +kernel
theorem dX7_meets_11 : decode cX7_meets 11 = .ok (.aload_n 0, 1) := by decide +kernel
theorem dX7_meets_12 : decode cX7_meets 12 = .ok (.invokevirtual 82, 3) := by decide +kernel
theorem dX7_meets_15 : decode cX7_meets 15 = .ok (.ifCond .eq 29, 3) := by decide +kernel
theorem dX7_meets_18 : decode cX7_meets 18 = .ok (.aload_n 0, 1) := by decide +kernel
theorem dX7_meets_19 : decode cX7_meets 19 = .ok (.invokevirtual 86, 3) := by decide +kernel
theorem dX7_meets_22 : decode cX7_meets 22 = .ok (.aload_n 0, 1) := by decide +kernel
theorem dX7_meets_23 : decode cX7_meets 23 = .ok (.iload_n 2, 1) := by decide +kernel
theorem dX7_meets_24 : decode cX7_meets 24 = .ok (.iconst 0, 1) := by decide +kernel
theorem dX7_meets_25 : decode cX7_meets 25 = .ok (.invokevirtual 89, 3) := by decide +kernel
theorem dX7_meets_28 : decode cX7_meets 28 = .ok (.if_icmp .lt 39, 3) := by decide +kernel
theorem dX7_meets_31 : decode cX7_meets 31 = .ok (.aload_n 0, 1) := by decide +kernel
theorem dX7_meets_32 : decode cX7_meets 32 = .ok (.invokevirtual 92, 3) := by decide +kernel
theorem dX7_meets_35 : decode cX7_meets 35 = .ok (.aload_n 0, 1) := by decide +kernel
theorem dX7_meets_36 : decode cX7_meets 36 = .ok (.iload_n 2, 1) := by decide +kernel
theorem dX7_meets_37 : decode cX7_meets 37 = .ok (.iconst 3, 1) := by decide +kernel
theorem dX7_meets_38 : decode cX7_meets 38 = .ok (.invokevirtual 89, 3) := by decide +kernel
theorem dX7_meets_41 : decode cX7_meets 41 = .ok (.if_icmp .gt 26, 3) := by decide +kernel
theorem dX7_meets_44 : decode cX7_meets 44 = .ok (.aload_n 0, 1) := by decide +kernel
theorem dX7_meets_45 : decode cX7_meets 45 = .ok (.aload_n 0, 1) := by decide +kernel
theorem dX7_meets_46 : decode cX7_meets 46 = .ok (.iload_n 2, 1) := by decide +kernel
theorem dX7_meets_47 : decode cX7_meets 47 = .ok (.iconst 1, 1) := by decide +kernel
theorem dX7_meets_48 : decode cX7_meets 48 = .ok (.invokevirtual 89, 3) := by decide +kernel
theorem dX7_meets_51 : decode cX7_meets 51 = .ok (.invokevirtual 95, 3) := by decide +kernel
theorem dX7_meets_54 : decode cX7_meets 54 = .ok (.aload_n 0, 1) := by decide +kernel
theorem dX7_meets_55 : decode cX7_meets 55 = .ok (.iload_n 2, 1) := by decide +kernel
theorem dX7_meets_56 : decode cX7_meets 56 = .ok (.iconst 2, 1) := by decide +kernel
theorem dX7_meets_57 : decode cX7_meets 57 = .ok (.invokevirtual 89, 3) := by decide +kernel
theorem dX7_meets_60 : decode cX7_meets 60 = .ok (.if_icmp .gt 7, 3) := by decide +kernel
theorem dX7_meets_63 : decode cX7_meets 63 = .ok (.iconst 1, 1) := by decide +kernel
theorem dX7_meets_64 : decode cX7_meets 64 = .ok (.goto 4, 3) := by decide +kernel
theorem dX7_meets_67 : decode cX7_meets 67 = .ok (.iconst 0, 1) := by decide +kernel
theorem dX7_meets_68 : decode cX7_meets 68 = .ok (.ireturn, 1) := by decide +kernel
theorem dX7_meetsNow_0 : decode cX7_meetsNow 0 = .ok (.aload_n 0, 1) := by decide +kernel
theorem dX7_meetsNow_1 : decode cX7_meetsNow 1 = .ok (.iload_n 1, 1) := by decide +kernel
theorem dX7_meetsNow_2 : decode cX7_meetsNow 2 = .ok (.iload_n 2, 1) := by decide +kernel
theorem dX7_meetsNow_3 : decode cX7_meetsNow 3 = .ok (.aload_n 0, 1) := by decide +kernel
theorem dX7_meetsNow_4 : decode cX7_meetsNow 4 = .ok (.getfield 13, 3) := by decide +kernel
theorem dX7_meetsNow_7 : decode cX7_meetsNow 7 = .ok (.iload_n 1, 1) := by decide +kernel
theorem dX7_meetsNow_8 : decode cX7_meetsNow 8 = .ok (.iaload, 1) := by decide +kernel
theorem dX7_meetsNow_9 : decode cX7_meetsNow 9 = .ok (.aload_n 0, 1) := by decide +kernel
theorem dX7_meetsNow_10 : decode cX7_meetsNow 10 = .ok (.getfield 16, 3) := by decide +kernel
theorem dX7_meetsNow_13 : decode cX7_meetsNow 13 = .ok (.iload_n 1, 1) := by decide +kernel
theorem dX7_meetsNow_14 : decode cX7_meetsNow 14 = .ok (.iaload, 1) := by decide +kernel
theorem dX7_meetsNow_15 : decode cX7_meetsNow 15 = .ok (.invokevirtual 98, 3) := by decide +kernel
theorem dX7_meetsNow_18 : decode cX7_meetsNow 18 = .ok (.ireturn, 1) := by decide +kernel
theorem dX7_addHall_0 : decode cX7_addHall 0 = .ok (.aload_n 0, 1) := by decide +kernel
theorem dX7_addHall_1 : decode cX7_addHall 1 = .ok (.iconst 0, 1) := by decide +kernel
theorem dX7_addHall_2 : decode cX7_addHall 2 = .ok (.putfield 43, 3) := by decide +kernel
theorem dX7_addHall_5 : decode cX7_addHall 5 = .ok (.iload_n 1, 1) := by decide +kernel
theorem dX7_addHall_6 : decode cX7_addHall 6 = .ok (.iconst 0, 1) := by decide +kernel
theorem dX7_addHall_7 : decode cX7_addHall 7 = .ok (.bipush 90, 2) := by decide +kernel
theorem dX7_addHall_9 : decode cX7_addHall 9 = .ok (.invokestatic 50, 3) := by decide +kernel
theorem dX7_addHall_12 : decode cX7_addHall 12 = .ok (.ifCond .ne 9, 3) := by decide +kernel
theorem dX7_addHall_15 : decode cX7_addHall 15 = .ok (.aload_n 0, 1) := by decide +kernel
theorem dX7_addHall_16 : decode cX7_addHall 16 = .ok (.iconst 1, 1) := by decide +kernel
theorem dX7_addHall_17 : decode cX7_addHall 17 = .ok (.invokevirtual 102, 3) := by decide +kernel
theorem dX7_addHall_20 : decode cX7_addHall 20 = .ok (.ireturn, 1) := by decide +kernel
theorem dX7_addHall_21 : decode cX7_addHall 21 = .ok (.aload_n 0, 1) := by decide +kernel
theorem dX7_addHall_22 : decode cX7_addHall 22 = .ok (.getfield 47, 3) := by decide +kernel
theorem dX7_addHall_25 : decode cX7_addHall 25 = .ok (.bipush 8, 2) := by decide +kernel
theorem dX7_addHall_27 : decode cX7_addHall 27 = .ok (.if_icmp .ne 9, 3) := by decide +kernel
theorem dX7_addHall_30 : decode cX7_addHall 30 = .ok (.aload_n 0, 1) := by decide +kernel
theorem dX7_addHall_31 : decode cX7_addHall 31 = .ok (.iconst 2, 1) := by decide +kernel
theorem dX7_addHall_32 : decode cX7_addHall 32 = .ok (.invokevirtual 102, 3) := by decide +kernel
theorem dX7_addHall_35 : decode cX7_addHall 35 = .ok (.ireturn, 1) := by decide +kernel
theorem dX7_addHall_36 : decode cX7_addHall 36 = .ok (.aload_n 0, 1) := by decide +kernel
theorem dX7_addHall_37 : decode cX7_addHall 37 = .ok (.getfield 13, 3) := by decide +kernel
theorem dX7_addHall_40 : decode cX7_addHall 40 = .ok (.aload_n 0, 1) := by decide +kernel
theorem dX7_addHall_41 : decode cX7_addHall 41 = .ok (.getfield 47, 3) := by decide +kernel
theorem dX7_addHall_44 : decode cX7_addHall 44 = .ok (.iload_n 1, 1) := by decide +kernel
theorem dX7_addHall_45 : decode cX7_addHall 45 = .ok (.iastore, 1) := by decide +kernel
theorem dX7_addHall_46 : decode cX7_addHall 46 = .ok (.aload_n 0, 1) := by decide +kernel
theorem dX7_addHall_47 : decode cX7_addHall 47 = .ok (.getfield 19, 3) := by decide +kernel
theorem dX7_addHall_50 : decode cX7_addHall 50 = .ok (.aload_n 0, 1) := by decide +kernel
theorem dX7_addHall_51 : decode cX7_addHall 51 = .ok (.getfield 47, 3) := by decide +kernel
theorem dX7_addHall_54 : decode cX7_addHall 54 = .ok (.iconst (-1), 1) := by decide +kernel
theorem dX7_addHall_55 : decode cX7_addHall 55 = .ok (.iastore, 1) := by decide +kernel
theorem dX7_addHall_56 : decode cX7_addHall 56 = .ok (.aload_n 0, 1) := by decide +kernel
theorem dX7_addHall_57 : decode cX7_addHall 57 = .ok (.dup, 1) := by decide +kernel
theorem dX7_addHall_58 : decode cX7_addHall 58 = .ok (.getfield 47, 3) := by decide +kernel
theorem dX7_addHall_61 : decode cX7_addHall 61 = .ok (.iconst 1, 1) := by decide +kernel
theorem dX7_addHall_62 : decode cX7_addHall 62 = .ok (.iadd, 1) := by decide +kernel
theorem dX7_addHall_63 : decode cX7_addHall 63 = .ok (.putfield 47, 3) := by decide +kernel
theorem dX7_addHall_66 : decode cX7_addHall 66 = .ok (.aload_n 0, 1) := by decide +kernel
theorem dX7_addHall_67 : decode cX7_addHall 67 = .ok (.getfield 47, 3) := by decide +kernel
theorem dX7_addHall_70 : decode cX7_addHall 70 = .ok (.iconst 1, 1) := by decide +kernel
theorem dX7_addHall_71 : decode cX7_addHall 71 = .ok (.isub, 1) := by decide +kernel
theorem dX7_addHall_72 : decode cX7_addHall 72 = .ok (.ireturn, 1) := by decide +kernel
theorem dX7_strike_0 : decode cX7_strike 0 = .ok (.aload_n 0, 1) := by decide +kernel
theorem dX7_strike_1 : decode cX7_strike 1 = .ok (.getfield 19, 3) := by decide +kernel
theorem dX7_strike_4 : decode cX7_strike 4 = .ok (.iload_n 1, 1) := by decide +kernel
theorem dX7_strike_5 : decode cX7_strike 5 = .ok (.iconst (-1), 1) := by decide +kernel
theorem dX7_strike_6 : decode cX7_strike 6 = .ok (.iastore, 1) := by decide +kernel
theorem dX7_strike_7 : decode cX7_strike 7 = .ok (.aload_n 0, 1) := by decide +kernel
theorem dX7_strike_8 : decode cX7_strike 8 = .ok (.getfield 22, 3) := by decide +kernel
theorem dX7_strike_11 : decode cX7_strike 11 = .ok (.iload_n 1, 1) := by decide +kernel
theorem dX7_strike_12 : decode cX7_strike 12 = .ok (.iconst 0, 1) := by decide +kernel
theorem dX7_strike_13 : decode cX7_strike 13 = .ok (.iastore, 1) := by decide +kernel
theorem dX7_strike_14 : decode cX7_strike 14 = .ok (.return_, 1) := by decide +kernel
theorem dX7_addSurface_0 : decode cX7_addSurface 0 = .ok (.aload_n 0, 1) := by decide +kernel
theorem dX7_addSurface_1 : decode cX7_addSurface 1 = .ok (.iconst 0, 1) := by decide +kernel
theorem dX7_addSurface_2 : decode cX7_addSurface 2 = .ok (.putfield 43, 3) := by decide +kernel
theorem dX7_addSurface_5 : decode cX7_addSurface 5 = .ok (.aload_n 0, 1) := by decide +kernel
theorem dX7_addSurface_6 : decode cX7_addSurface 6 = .ok (.iload_n 1, 1) := by decide +kernel
theorem dX7_addSurface_7 : decode cX7_addSurface 7 = .ok (.invokevirtual 57, 3) := by decide +kernel
theorem dX7_addSurface_10 : decode cX7_addSurface 10 = .ok (.ifCond .ne 9, 3) := by decide +kernel
theorem dX7_addSurface_13 : decode cX7_addSurface 13 = .ok (.aload_n 0, 1) := by decide +kernel
theorem dX7_addSurface_14 : decode cX7_addSurface 14 = .ok (.iconst 1, 1) := by decide +kernel
theorem dX7_addSurface_15 : decode cX7_addSurface 15 = .ok (.invokevirtual 102, 3) := by decide +kernel
theorem dX7_addSurface_18 : decode cX7_addSurface 18 = .ok (.ireturn, 1) := by decide +kernel
theorem dX7_addSurface_19 : decode cX7_addSurface 19 = .ok (.iload_n 2, 1) := by decide +kernel
theorem dX7_addSurface_20 : decode cX7_addSurface 20 = .ok (.iconst 1, 1) := by decide +kernel
theorem dX7_addSurface_21 : decode cX7_addSurface 21 = .ok (.bipush 60, 2) := by decide +kernel
theorem dX7_addSurface_23 : decode cX7_addSurface 23 = .ok (.invokestatic 50, 3) := by decide +kernel
theorem dX7_addSurface_26 : decode cX7_addSurface 26 = .ok (.ifCond .eq 13, 3) := by decide +kernel
theorem dX7_addSurface_29 : decode cX7_addSurface 29 = .ok (.iload_n 3, 1) := by decide +kernel
theorem dX7_addSurface_30 : decode cX7_addSurface 30 = .ok (.iconst 0, 1) := by decide +kernel
theorem dX7_addSurface_31 : decode cX7_addSurface 31 = .ok (.bipush 99, 2) := by decide +kernel
theorem dX7_addSurface_33 : decode cX7_addSurface 33 = .ok (.invokestatic 50, 3) := by decide +kernel
theorem dX7_addSurface_36 : decode cX7_addSurface 36 = .ok (.ifCond .ne 9, 3) := by decide +kernel
theorem dX7_addSurface_39 : decode cX7_addSurface 39 = .ok (.aload_n 0, 1) := by decide +kernel
theorem dX7_addSurface_40 : decode cX7_addSurface 40 = .ok (.iconst 2, 1) := by decide +kernel
theorem dX7_addSurface_41 : decode cX7_addSurface 41 = .ok (.invokevirtual 102, 3) := by decide +kernel
theorem dX7_addSurface_44 : decode cX7_addSurface 44 = .ok (.ireturn, 1) := by decide +kernel
theorem dX7_addSurface_45 : decode cX7_addSurface 45 = .ok (.aload_n 0, 1) := by decide +kernel
theorem dX7_addSurface_46 : decode cX7_addSurface 46 = .ok (.getfield 9, 3) := by decide +kernel
theorem dX7_addSurface_49 : decode cX7_addSurface 49 = .ok (.iload_n 1, 1) := by decide +kernel
theorem dX7_addSurface_50 : decode cX7_addSurface 50 = .ok (.iaload, 1) := by decide +kernel
theorem dX7_addSurface_51 : decode cX7_addSurface 51 = .ok (.bipush 6, 2) := by decide +kernel
theorem dX7_addSurface_53 : decode cX7_addSurface 53 = .ok (.if_icmp .ne 9, 3) := by decide +kernel
theorem dX7_addSurface_56 : decode cX7_addSurface 56 = .ok (.aload_n 0, 1) := by decide +kernel
theorem dX7_addSurface_57 : decode cX7_addSurface 57 = .ok (.iconst 3, 1) := by decide +kernel
theorem dX7_addSurface_58 : decode cX7_addSurface 58 = .ok (.invokevirtual 102, 3) := by decide +kernel
theorem dX7_addSurface_61 : decode cX7_addSurface 61 = .ok (.ireturn, 1) := by decide +kernel
theorem dX7_addSurface_62 : decode cX7_addSurface 62 = .ok (.aload_n 0, 1) := by decide +kernel
theorem dX7_addSurface_63 : decode cX7_addSurface 63 = .ok (.getfield 25, 3) := by decide +kernel
theorem dX7_addSurface_66 : decode cX7_addSurface 66 = .ok (.bipush 6, 2) := by decide +kernel
theorem dX7_addSurface_68 : decode cX7_addSurface 68 = .ok (.iload_n 1, 1) := by decide +kernel
theorem dX7_addSurface_69 : decode cX7_addSurface 69 = .ok (.imul, 1) := by decide +kernel
theorem dX7_addSurface_70 : decode cX7_addSurface 70 = .ok (.aload_n 0, 1) := by decide +kernel
theorem dX7_addSurface_71 : decode cX7_addSurface 71 = .ok (.getfield 9, 3) := by decide +kernel
theorem dX7_addSurface_74 : decode cX7_addSurface 74 = .ok (.iload_n 1, 1) := by decide +kernel
theorem dX7_addSurface_75 : decode cX7_addSurface 75 = .ok (.iaload, 1) := by decide +kernel
theorem dX7_addSurface_76 : decode cX7_addSurface 76 = .ok (.iadd, 1) := by decide +kernel
theorem dX7_addSurface_77 : decode cX7_addSurface 77 = .ok (.iload_n 2, 1) := by decide +kernel
theorem dX7_addSurface_78 : decode cX7_addSurface 78 = .ok (.iastore, 1) := by decide +kernel
theorem dX7_addSurface_79 : decode cX7_addSurface 79 = .ok (.aload_n 0, 1) := by decide +kernel
theorem dX7_addSurface_80 : decode cX7_addSurface 80 = .ok (.getfield 28, 3) := by decide +kernel
theorem dX7_addSurface_83 : decode cX7_addSurface 83 = .ok (.bipush 6, 2) := by decide +kernel
theorem dX7_addSurface_85 : decode cX7_addSurface 85 = .ok (.iload_n 1, 1) := by decide +kernel
theorem dX7_addSurface_86 : decode cX7_addSurface 86 = .ok (.imul, 1) := by decide +kernel
theorem dX7_addSurface_87 : decode cX7_addSurface 87 = .ok (.aload_n 0, 1) := by decide +kernel
theorem dX7_addSurface_88 : decode cX7_addSurface 88 = .ok (.getfield 9, 3) := by decide +kernel
theorem dX7_addSurface_91 : decode cX7_addSurface 91 = .ok (.iload_n 1, 1) := by decide +kernel
theorem dX7_addSurface_92 : decode cX7_addSurface 92 = .ok (.iaload, 1) := by decide +kernel
theorem dX7_addSurface_93 : decode cX7_addSurface 93 = .ok (.iadd, 1) := by decide +kernel
theorem dX7_addSurface_94 : decode cX7_addSurface 94 = .ok (.iload_n 3, 1) := by decide +kernel
theorem dX7_addSurface_95 : decode cX7_addSurface 95 = .ok (.iastore, 1) := by decide +kernel
theorem dX7_addSurface_96 : decode cX7_addSurface 96 = .ok (.aload_n 0, 1) := by decide +kernel
theorem dX7_addSurface_97 : decode cX7_addSurface 97 = .ok (.getfield 9, 3) := by decide +kernel
theorem dX7_addSurface_100 : decode cX7_addSurface 100 = .ok (.iload_n 1, 1) := by decide +kernel
theorem dX7_addSurface_101 : decode cX7_addSurface 101 = .ok (.dup2, 1) := by decide +kernel
theorem dX7_addSurface_102 : decode cX7_addSurface 102 = .ok (.iaload, 1) := by decide +kernel
theorem dX7_addSurface_103 : decode cX7_addSurface 103 = .ok (.iconst 1, 1) := by decide +kernel
theorem dX7_addSurface_104 : decode cX7_addSurface 104 = .ok (.iadd, 1) := by decide +kernel
theorem dX7_addSurface_105 : decode cX7_addSurface 105 = .ok (.iastore, 1) := by decide +kernel
theorem dX7_addSurface_106 : decode cX7_addSurface 106 = .ok (.aload_n 0, 1) := by decide +kernel
theorem dX7_addSurface_107 : decode cX7_addSurface 107 = .ok (.iload_n 1, 1) := by decide +kernel
theorem dX7_addSurface_108 : decode cX7_addSurface 108 = .ok (.invokevirtual 105, 3) := by decide +kernel
theorem dX7_addSurface_111 : decode cX7_addSurface 111 = .ok (.aload_n 0, 1) := by decide +kernel
theorem dX7_addSurface_112 : decode cX7_addSurface 112 = .ok (.getfield 9, 3) := by decide +kernel
theorem dX7_addSurface_115 : decode cX7_addSurface 115 = .ok (.iload_n 1, 1) := by decide +kernel
theorem dX7_addSurface_116 : decode cX7_addSurface 116 = .ok (.iaload, 1) := by decide +kernel
theorem dX7_addSurface_117 : decode cX7_addSurface 117 = .ok (.iconst 1, 1) := by decide +kernel
theorem dX7_addSurface_118 : decode cX7_addSurface 118 = .ok (.isub, 1) := by decide +kernel
theorem dX7_addSurface_119 : decode cX7_addSurface 119 = .ok (.ireturn, 1) := by decide +kernel
theorem dX7_moveSurface_0 : decode cX7_moveSurface 0 = .ok (.aload_n 0, 1) := by decide +kernel
theorem dX7_moveSurface_1 : decode cX7_moveSurface 1 = .ok (.iconst 0, 1) := by decide +kernel
theorem dX7_moveSurface_2 : decode cX7_moveSurface 2 = .ok (.putfield 43, 3) := by decide +kernel
theorem dX7_moveSurface_5 : decode cX7_moveSurface 5 = .ok (.aload_n 0, 1) := by decide +kernel
theorem dX7_moveSurface_6 : decode cX7_moveSurface 6 = .ok (.iload_n 1, 1) := by decide +kernel
theorem dX7_moveSurface_7 : decode cX7_moveSurface 7 = .ok (.iload_n 2, 1) := by decide +kernel
theorem dX7_moveSurface_8 : decode cX7_moveSurface 8 = .ok (.invokevirtual 109, 3) := by decide +kernel
theorem dX7_moveSurface_11 : decode cX7_moveSurface 11 = .ok (.ifCond .ne 9, 3) := by decide +kernel
theorem dX7_moveSurface_14 : decode cX7_moveSurface 14 = .ok (.aload_n 0, 1) := by decide +kernel
theorem dX7_moveSurface_15 : decode cX7_moveSurface 15 = .ok (.iconst 1, 1) := by decide +kernel
theorem dX7_moveSurface_16 : decode cX7_moveSurface 16 = .ok (.invokevirtual 102, 3) := by decide +kernel
theorem dX7_moveSurface_19 : decode cX7_moveSurface 19 = .ok (.ireturn, 1) := by decide +kernel
theorem dX7_moveSurface_20 : decode cX7_moveSurface 20 = .ok (.iload_n 3, 1) := by decide +kernel
theorem dX7_moveSurface_21 : decode cX7_moveSurface 21 = .ok (.iconst 1, 1) := by decide +kernel
theorem dX7_moveSurface_22 : decode cX7_moveSurface 22 = .ok (.bipush 60, 2) := by decide +kernel
theorem dX7_moveSurface_24 : decode cX7_moveSurface 24 = .ok (.invokestatic 50, 3) := by decide +kernel
theorem dX7_moveSurface_27 : decode cX7_moveSurface 27 = .ok (.ifCond .ne 9, 3) := by decide +kernel
theorem dX7_moveSurface_30 : decode cX7_moveSurface 30 = .ok (.aload_n 0, 1) := by decide +kernel
theorem dX7_moveSurface_31 : decode cX7_moveSurface 31 = .ok (.iconst 2, 1) := by decide +kernel
theorem dX7_moveSurface_32 : decode cX7_moveSurface 32 = .ok (.invokevirtual 102, 3) := by decide +kernel
theorem dX7_moveSurface_35 : decode cX7_moveSurface 35 = .ok (.ireturn, 1) := by decide +kernel
theorem dX7_moveSurface_36 : decode cX7_moveSurface 36 = .ok (.aload_n 0, 1) := by decide +kernel
theorem dX7_moveSurface_37 : decode cX7_moveSurface 37 = .ok (.getfield 25, 3) := by decide +kernel
theorem dX7_moveSurface_40 : decode cX7_moveSurface 40 = .ok (.bipush 6, 2) := by decide +kernel
theorem dX7_moveSurface_42 : decode cX7_moveSurface 42 = .ok (.iload_n 1, 1) := by decide +kernel
theorem dX7_moveSurface_43 : decode cX7_moveSurface 43 = .ok (.imul, 1) := by decide +kernel
theorem dX7_moveSurface_44 : decode cX7_moveSurface 44 = .ok (.iload_n 2, 1) := by decide +kernel
theorem dX7_moveSurface_45 : decode cX7_moveSurface 45 = .ok (.iadd, 1) := by decide +kernel
theorem dX7_moveSurface_46 : decode cX7_moveSurface 46 = .ok (.iaload, 1) := by decide +kernel
theorem dX7_moveSurface_47 : decode cX7_moveSurface 47 = .ok (.istore 4, 2) := by decide +kernel
theorem dX7_moveSurface_49 : decode cX7_moveSurface 49 = .ok (.aload_n 0, 1) := by decide +kernel
theorem dX7_moveSurface_50 : decode cX7_moveSurface 50 = .ok (.getfield 25, 3) := by decide +kernel
theorem dX7_moveSurface_53 : decode cX7_moveSurface 53 = .ok (.bipush 6, 2) := by decide +kernel
theorem dX7_moveSurface_55 : decode cX7_moveSurface 55 = .ok (.iload_n 1, 1) := by decide +kernel
theorem dX7_moveSurface_56 : decode cX7_moveSurface 56 = .ok (.imul, 1) := by decide +kernel
theorem dX7_moveSurface_57 : decode cX7_moveSurface 57 = .ok (.iload_n 2, 1) := by decide +kernel
theorem dX7_moveSurface_58 : decode cX7_moveSurface 58 = .ok (.iadd, 1) := by decide +kernel
theorem dX7_moveSurface_59 : decode cX7_moveSurface 59 = .ok (.iload_n 3, 1) := by decide +kernel
theorem dX7_moveSurface_60 : decode cX7_moveSurface 60 = .ok (.iastore, 1) := by decide +kernel
theorem dX7_moveSurface_61 : decode cX7_moveSurface 61 = .ok (.aload_n 0, 1) := by decide +kernel
theorem dX7_moveSurface_62 : decode cX7_moveSurface 62 = .ok (.iload_n 1, 1) := by decide +kernel
theorem dX7_moveSurface_63 : decode cX7_moveSurface 63 = .ok (.invokevirtual 105, 3) := by decide +kernel
theorem dX7_moveSurface_66 : decode cX7_moveSurface 66 = .ok (.iload 4, 2) := by decide +kernel
theorem dX7_moveSurface_68 : decode cX7_moveSurface 68 = .ok (.ireturn, 1) := by decide +kernel
theorem dX7_setDamping_0 : decode cX7_setDamping 0 = .ok (.aload_n 0, 1) := by decide +kernel
theorem dX7_setDamping_1 : decode cX7_setDamping 1 = .ok (.iconst 0, 1) := by decide +kernel
theorem dX7_setDamping_2 : decode cX7_setDamping 2 = .ok (.putfield 43, 3) := by decide +kernel
theorem dX7_setDamping_5 : decode cX7_setDamping 5 = .ok (.aload_n 0, 1) := by decide +kernel
theorem dX7_setDamping_6 : decode cX7_setDamping 6 = .ok (.iload_n 1, 1) := by decide +kernel
theorem dX7_setDamping_7 : decode cX7_setDamping 7 = .ok (.invokevirtual 57, 3) := by decide +kernel
theorem dX7_setDamping_10 : decode cX7_setDamping 10 = .ok (.ifCond .ne 9, 3) := by decide +kernel
theorem dX7_setDamping_13 : decode cX7_setDamping 13 = .ok (.aload_n 0, 1) := by decide +kernel
theorem dX7_setDamping_14 : decode cX7_setDamping 14 = .ok (.iconst 1, 1) := by decide +kernel
theorem dX7_setDamping_15 : decode cX7_setDamping 15 = .ok (.invokevirtual 102, 3) := by decide +kernel
theorem dX7_setDamping_18 : decode cX7_setDamping 18 = .ok (.ireturn, 1) := by decide +kernel
theorem dX7_setDamping_19 : decode cX7_setDamping 19 = .ok (.iload_n 2, 1) := by decide +kernel
theorem dX7_setDamping_20 : decode cX7_setDamping 20 = .ok (.iconst 0, 1) := by decide +kernel
theorem dX7_setDamping_21 : decode cX7_setDamping 21 = .ok (.bipush 90, 2) := by decide +kernel
theorem dX7_setDamping_23 : decode cX7_setDamping 23 = .ok (.invokestatic 50, 3) := by decide +kernel
theorem dX7_setDamping_26 : decode cX7_setDamping 26 = .ok (.ifCond .ne 9, 3) := by decide +kernel
theorem dX7_setDamping_29 : decode cX7_setDamping 29 = .ok (.aload_n 0, 1) := by decide +kernel
theorem dX7_setDamping_30 : decode cX7_setDamping 30 = .ok (.iconst 2, 1) := by decide +kernel
theorem dX7_setDamping_31 : decode cX7_setDamping 31 = .ok (.invokevirtual 102, 3) := by decide +kernel
theorem dX7_setDamping_34 : decode cX7_setDamping 34 = .ok (.ireturn, 1) := by decide +kernel
theorem dX7_setDamping_35 : decode cX7_setDamping 35 = .ok (.aload_n 0, 1) := by decide +kernel
theorem dX7_setDamping_36 : decode cX7_setDamping 36 = .ok (.getfield 13, 3) := by decide +kernel
theorem dX7_setDamping_39 : decode cX7_setDamping 39 = .ok (.iload_n 1, 1) := by decide +kernel
theorem dX7_setDamping_40 : decode cX7_setDamping 40 = .ok (.iaload, 1) := by decide +kernel
theorem dX7_setDamping_41 : decode cX7_setDamping 41 = .ok (.istore_n 3, 1) := by decide +kernel
theorem dX7_setDamping_42 : decode cX7_setDamping 42 = .ok (.aload_n 0, 1) := by decide +kernel
theorem dX7_setDamping_43 : decode cX7_setDamping 43 = .ok (.getfield 13, 3) := by decide +kernel
theorem dX7_setDamping_46 : decode cX7_setDamping 46 = .ok (.iload_n 1, 1) := by decide +kernel
theorem dX7_setDamping_47 : decode cX7_setDamping 47 = .ok (.iload_n 2, 1) := by decide +kernel
theorem dX7_setDamping_48 : decode cX7_setDamping 48 = .ok (.iastore, 1) := by decide +kernel
theorem dX7_setDamping_49 : decode cX7_setDamping 49 = .ok (.aload_n 0, 1) := by decide +kernel
theorem dX7_setDamping_50 : decode cX7_setDamping 50 = .ok (.iload_n 1, 1) := by decide +kernel
theorem dX7_setDamping_51 : decode cX7_setDamping 51 = .ok (.invokevirtual 105, 3) := by decide +kernel
theorem dX7_setDamping_54 : decode cX7_setDamping 54 = .ok (.iload_n 3, 1) := by decide +kernel
theorem dX7_setDamping_55 : decode cX7_setDamping 55 = .ok (.ireturn, 1) := by decide +kernel
theorem dX7_clean_0 : decode cX7_clean 0 = .ok (.aload_n 0, 1) := by decide +kernel
theorem dX7_clean_1 : decode cX7_clean 1 = .ok (.iconst 0, 1) := by decide +kernel
theorem dX7_clean_2 : decode cX7_clean 2 = .ok (.putfield 43, 3) := by decide +kernel
theorem dX7_clean_5 : decode cX7_clean 5 = .ok (.aload_n 0, 1) := by decide +kernel
theorem dX7_clean_6 : decode cX7_clean 6 = .ok (.iload_n 1, 1) := by decide +kernel
theorem dX7_clean_7 : decode cX7_clean 7 = .ok (.invokevirtual 57, 3) := by decide +kernel
theorem dX7_clean_10 : decode cX7_clean 10 = .ok (.ifCond .ne 9, 3) := by decide +kernel
theorem dX7_clean_13 : decode cX7_clean 13 = .ok (.aload_n 0, 1) := by decide +kernel
theorem dX7_clean_14 : decode cX7_clean 14 = .ok (.iconst 1, 1) := by decide +kernel
theorem dX7_clean_15 : decode cX7_clean 15 = .ok (.invokevirtual 102, 3) := by decide +kernel
theorem dX7_clean_18 : decode cX7_clean 18 = .ok (.ireturn, 1) := by decide +kernel
theorem dX7_clean_19 : decode cX7_clean 19 = .ok (.aload_n 0, 1) := by decide +kernel
theorem dX7_clean_20 : decode cX7_clean 20 = .ok (.getfield 16, 3) := by decide +kernel
theorem dX7_clean_23 : decode cX7_clean 23 = .ok (.iload_n 1, 1) := by decide +kernel
theorem dX7_clean_24 : decode cX7_clean 24 = .ok (.iaload, 1) := by decide +kernel
theorem dX7_clean_25 : decode cX7_clean 25 = .ok (.istore_n 2, 1) := by decide +kernel
theorem dX7_clean_26 : decode cX7_clean 26 = .ok (.aload_n 0, 1) := by decide +kernel
theorem dX7_clean_27 : decode cX7_clean 27 = .ok (.getfield 16, 3) := by decide +kernel
theorem dX7_clean_30 : decode cX7_clean 30 = .ok (.iload_n 1, 1) := by decide +kernel
theorem dX7_clean_31 : decode cX7_clean 31 = .ok (.iconst 0, 1) := by decide +kernel
theorem dX7_clean_32 : decode cX7_clean 32 = .ok (.iastore, 1) := by decide +kernel
theorem dX7_clean_33 : decode cX7_clean 33 = .ok (.iload_n 2, 1) := by decide +kernel
theorem dX7_clean_34 : decode cX7_clean 34 = .ok (.ireturn, 1) := by decide +kernel
theorem dX7_addStandard_0 : decode cX7_addStandard 0 = .ok (.aload_n 0, 1) := by decide +kernel
theorem dX7_addStandard_1 : decode cX7_addStandard 1 = .ok (.iconst 0, 1) := by decide +kernel
theorem dX7_addStandard_2 : decode cX7_addStandard 2 = .ok (.putfield 43, 3) := by decide +kernel
theorem dX7_addStandard_5 : decode cX7_addStandard 5 = .ok (.iload_n 1, 1) := by decide +kernel
theorem dX7_addStandard_6 : decode cX7_addStandard 6 = .ok (.iconst 0, 1) := by decide +kernel
theorem dX7_addStandard_7 : decode cX7_addStandard 7 = .ok (.sipush 500, 3) := by decide +kernel
theorem dX7_addStandard_10 : decode cX7_addStandard 10 = .ok (.invokestatic 50, 3) := by decide +kernel
theorem dX7_addStandard_13 : decode cX7_addStandard 13 = .ok (.ifCond .eq 47, 3) := by decide +kernel
theorem dX7_addStandard_16 : decode cX7_addStandard 16 = .ok (.iload_n 2, 1) := by decide +kernel
theorem dX7_addStandard_17 : decode cX7_addStandard 17 = .ok (.iconst 1, 1) := by decide +kernel
theorem dX7_addStandard_18 : decode cX7_addStandard 18 = .ok (.sipush 1000, 3) := by decide +kernel
theorem dX7_addStandard_21 : decode cX7_addStandard 21 = .ok (.invokestatic 50, 3) := by decide +kernel
theorem dX7_addStandard_24 : decode cX7_addStandard 24 = .ok (.ifCond .eq 36, 3) := by decide +kernel
theorem dX7_addStandard_27 : decode cX7_addStandard 27 = .ok (.iload_n 3, 1) := by decide +kernel
theorem dX7_addStandard_28 : decode cX7_addStandard 28 = .ok (.iconst 0, 1) := by decide +kernel
theorem dX7_addStandard_29 : decode cX7_addStandard 29 = .ok (.bipush 99, 2) := by decide +kernel
theorem dX7_addStandard_31 : decode cX7_addStandard 31 = .ok (.invokestatic 50, 3) := by decide +kernel
theorem dX7_addStandard_34 : decode cX7_addStandard 34 = .ok (.ifCond .eq 26, 3) := by decide +kernel
theorem dX7_addStandard_37 : decode cX7_addStandard 37 = .ok (.iload 4, 2) := by decide +kernel
theorem dX7_addStandard_39 : decode cX7_addStandard 39 = .ok (.iconst 0, 1) := by decide +kernel
theorem dX7_addStandard_40 : decode cX7_addStandard 40 = .ok (.sipush 3000, 3) := by decide +kernel
theorem dX7_addStandard_43 : decode cX7_addStandard 43 = .ok (.invokestatic 50, 3) := by decide +kernel
theorem dX7_addStandard_46 : decode cX7_addStandard 46 = .ok (.ifCond .eq 14, 3) := by decide +kernel
theorem dX7_addStandard_49 : decode cX7_addStandard 49 = .ok (.iload 5, 2) := by decide +kernel
theorem dX7_addStandard_51 : decode cX7_addStandard 51 = .ok (.iconst 1, 1) := by decide +kernel
theorem dX7_addStandard_52 : decode cX7_addStandard 52 = .ok (.bipush 100, 2) := by decide +kernel
theorem dX7_addStandard_54 : decode cX7_addStandard 54 = .ok (.invokestatic 50, 3) := by decide +kernel
theorem dX7_addStandard_57 : decode cX7_addStandard 57 = .ok (.ifCond .ne 9, 3) := by decide +kernel
theorem dX7_addStandard_60 : decode cX7_addStandard 60 = .ok (.aload_n 0, 1) := by decide +kernel
theorem dX7_addStandard_61 : decode cX7_addStandard 61 = .ok (.iconst 1, 1) := by decide +kernel
theorem dX7_addStandard_62 : decode cX7_addStandard 62 = .ok (.invokevirtual 102, 3) := by decide +kernel
theorem dX7_addStandard_65 : decode cX7_addStandard 65 = .ok (.ireturn, 1) := by decide +kernel
theorem dX7_addStandard_66 : decode cX7_addStandard 66 = .ok (.aload_n 0, 1) := by decide +kernel
theorem dX7_addStandard_67 : decode cX7_addStandard 67 = .ok (.getfield 54, 3) := by decide +kernel
theorem dX7_addStandard_70 : decode cX7_addStandard 70 = .ok (.iconst 5, 1) := by decide +kernel
theorem dX7_addStandard_71 : decode cX7_addStandard 71 = .ok (.if_icmp .ne 9, 3) := by decide +kernel
theorem dX7_addStandard_74 : decode cX7_addStandard 74 = .ok (.aload_n 0, 1) := by decide +kernel
theorem dX7_addStandard_75 : decode cX7_addStandard 75 = .ok (.iconst 2, 1) := by decide +kernel
theorem dX7_addStandard_76 : decode cX7_addStandard 76 = .ok (.invokevirtual 102, 3) := by decide +kernel
theorem dX7_addStandard_79 : decode cX7_addStandard 79 = .ok (.ireturn, 1) := by decide +kernel
theorem dX7_addStandard_80 : decode cX7_addStandard 80 = .ok (.iconst 5, 1) := by decide +kernel
theorem dX7_addStandard_81 : decode cX7_addStandard 81 = .ok (.newarray .int, 2) := by decide +kernel
theorem dX7_addStandard_83 : decode cX7_addStandard 83 = .ok (.dup, 1) := by decide +kernel
theorem dX7_addStandard_84 : decode cX7_addStandard 84 = .ok (.iconst 0, 1) := by decide +kernel
theorem dX7_addStandard_85 : decode cX7_addStandard 85 = .ok (.iload_n 1, 1) := by decide +kernel
theorem dX7_addStandard_86 : decode cX7_addStandard 86 = .ok (.iastore, 1) := by decide +kernel
theorem dX7_addStandard_87 : decode cX7_addStandard 87 = .ok (.dup, 1) := by decide +kernel
theorem dX7_addStandard_88 : decode cX7_addStandard 88 = .ok (.iconst 1, 1) := by decide +kernel
theorem dX7_addStandard_89 : decode cX7_addStandard 89 = .ok (.iload_n 2, 1) := by decide +kernel
theorem dX7_addStandard_90 : decode cX7_addStandard 90 = .ok (.iastore, 1) := by decide +kernel
theorem dX7_addStandard_91 : decode cX7_addStandard 91 = .ok (.dup, 1) := by decide +kernel
theorem dX7_addStandard_92 : decode cX7_addStandard 92 = .ok (.iconst 2, 1) := by decide +kernel
theorem dX7_addStandard_93 : decode cX7_addStandard 93 = .ok (.iload_n 3, 1) := by decide +kernel
theorem dX7_addStandard_94 : decode cX7_addStandard 94 = .ok (.iastore, 1) := by decide +kernel
theorem dX7_addStandard_95 : decode cX7_addStandard 95 = .ok (.dup, 1) := by decide +kernel
theorem dX7_addStandard_96 : decode cX7_addStandard 96 = .ok (.iconst 3, 1) := by decide +kernel
theorem dX7_addStandard_97 : decode cX7_addStandard 97 = .ok (.iload 4, 2) := by decide +kernel
theorem dX7_addStandard_99 : decode cX7_addStandard 99 = .ok (.iastore, 1) := by decide +kernel
theorem dX7_addStandard_100 : decode cX7_addStandard 100 = .ok (.dup, 1) := by decide +kernel
theorem dX7_addStandard_101 : decode cX7_addStandard 101 = .ok (.iconst 4, 1) := by decide +kernel
theorem dX7_addStandard_102 : decode cX7_addStandard 102 = .ok (.iload 5, 2) := by decide +kernel
theorem dX7_addStandard_104 : decode cX7_addStandard 104 = .ok (.iastore, 1) := by decide +kernel
theorem dX7_addStandard_105 : decode cX7_addStandard 105 = .ok (.astore 6, 2) := by decide +kernel
theorem dX7_addStandard_107 : decode cX7_addStandard 107 = .ok (.aload 6, 2) := by decide +kernel
theorem dX7_addStandard_109 : decode cX7_addStandard 109 = .ok (.iconst 0, 1) := by decide +kernel
theorem dX7_addStandard_110 : decode cX7_addStandard 110 = .ok (.aload_n 0, 1) := by decide +kernel
theorem dX7_addStandard_111 : decode cX7_addStandard 111 = .ok (.getfield 31, 3) := by decide +kernel
theorem dX7_addStandard_114 : decode cX7_addStandard 114 = .ok (.iconst 5, 1) := by decide +kernel
theorem dX7_addStandard_115 : decode cX7_addStandard 115 = .ok (.aload_n 0, 1) := by decide +kernel
theorem dX7_addStandard_116 : decode cX7_addStandard 116 = .ok (.getfield 54, 3) := by decide +kernel
theorem dX7_addStandard_119 : decode cX7_addStandard 119 = .ok (.imul, 1) := by decide +kernel
theorem dX7_addStandard_120 : decode cX7_addStandard 120 = .ok (.iconst 5, 1) := by decide +kernel
theorem dX7_addStandard_121 : decode cX7_addStandard 121 = .ok (.invokestatic 113, 3) := by decide +kernel
theorem dX7_addStandard_124 : decode cX7_addStandard 124 = .ok (.aload_n 0, 1) := by decide +kernel
theorem dX7_addStandard_125 : decode cX7_addStandard 125 = .ok (.dup, 1) := by decide +kernel
theorem dX7_addStandard_126 : decode cX7_addStandard 126 = .ok (.getfield 54, 3) := by decide +kernel
theorem dX7_addStandard_129 : decode cX7_addStandard 129 = .ok (.iconst 1, 1) := by decide +kernel
theorem dX7_addStandard_130 : decode cX7_addStandard 130 = .ok (.iadd, 1) := by decide +kernel
theorem dX7_addStandard_131 : decode cX7_addStandard 131 = .ok (.putfield 54, 3) := by decide +kernel
theorem dX7_addStandard_134 : decode cX7_addStandard 134 = .ok (.aload_n 0, 1) := by decide +kernel
theorem dX7_addStandard_135 : decode cX7_addStandard 135 = .ok (.getfield 54, 3) := by decide +kernel
theorem dX7_addStandard_138 : decode cX7_addStandard 138 = .ok (.iconst 1, 1) := by decide +kernel
theorem dX7_addStandard_139 : decode cX7_addStandard 139 = .ok (.isub, 1) := by decide +kernel
theorem dX7_addStandard_140 : decode cX7_addStandard 140 = .ok (.ireturn, 1) := by decide +kernel
theorem dX7_isPair_0 : decode cX7_isPair 0 = .ok (.aload_n 0, 1) := by decide +kernel
theorem dX7_isPair_1 : decode cX7_isPair 1 = .ok (.aload_n 0, 1) := by decide +kernel
theorem dX7_isPair_2 : decode cX7_isPair 2 = .ok (.iload_n 1, 1) := by decide +kernel
theorem dX7_isPair_3 : decode cX7_isPair 3 = .ok (.invokevirtual 57, 3) := by decide +kernel
theorem dX7_isPair_6 : decode cX7_isPair 6 = .ok (.ifCond .eq 15, 3) := by decide +kernel
theorem dX7_isPair_9 : decode cX7_isPair 9 = .ok (.aload_n 0, 1) := by decide +kernel
theorem dX7_isPair_10 : decode cX7_isPair 10 = .ok (.iload_n 2, 1) := by decide +kernel
theorem dX7_isPair_11 : decode cX7_isPair 11 = .ok (.invokevirtual 119, 3) := by decide +kernel
theorem dX7_isPair_14 : decode cX7_isPair 14 = .ok (.ifCond .eq 7, 3) := by decide +kernel
theorem dX7_isPair_17 : decode cX7_isPair 17 = .ok (.iconst 0, 1) := by decide +kernel
theorem dX7_isPair_18 : decode cX7_isPair 18 = .ok (.goto 4, 3) := by decide +kernel
theorem dX7_isPair_21 : decode cX7_isPair 21 = .ok (.iconst 1, 1) := by decide +kernel
theorem dX7_isPair_22 : decode cX7_isPair 22 = .ok (.putfield 43, 3) := by decide +kernel
theorem dX7_isPair_25 : decode cX7_isPair 25 = .ok (.aload_n 0, 1) := by decide +kernel
theorem dX7_isPair_26 : decode cX7_isPair 26 = .ok (.getfield 43, 3) := by decide +kernel
theorem dX7_isPair_29 : decode cX7_isPair 29 = .ok (.ifCond .ne 7, 3) := by decide +kernel
theorem dX7_isPair_32 : decode cX7_isPair 32 = .ok (.iconst 1, 1) := by decide +kernel
theorem dX7_isPair_33 : decode cX7_isPair 33 = .ok (.goto 4, 3) := by decide +kernel
theorem dX7_isPair_36 : decode cX7_isPair 36 = .ok (.iconst 0, 1) := by decide +kernel
theorem dX7_isPair_37 : decode cX7_isPair 37 = .ok (.ireturn, 1) := by decide +kernel
theorem dX7_inspect_0 : decode cX7_inspect 0 = .ok (.aload_n 0, 1) := by decide +kernel
theorem dX7_inspect_1 : decode cX7_inspect 1 = .ok (.iload_n 1, 1) := by decide +kernel
theorem dX7_inspect_2 : decode cX7_inspect 2 = .ok (.iload_n 2, 1) := by decide +kernel
theorem dX7_inspect_3 : decode cX7_inspect 3 = .ok (.invokevirtual 122, 3) := by decide +kernel
theorem dX7_inspect_6 : decode cX7_inspect 6 = .ok (.ifCond .ne 5, 3) := by decide +kernel
theorem dX7_inspect_9 : decode cX7_inspect 9 = .ok (.iconst 0, 1) := by decide +kernel
theorem dX7_inspect_10 : decode cX7_inspect 10 = .ok (.ireturn, 1) := by decide +kernel
theorem dX7_inspect_11 : decode cX7_inspect 11 = .ok (.aload_n 0, 1) := by decide +kernel
theorem dX7_inspect_12 : decode cX7_inspect 12 = .ok (.dup, 1) := by decide +kernel
theorem dX7_inspect_13 : decode cX7_inspect 13 = .ok (.getfield 125, 3) := by decide +kernel
theorem dX7_inspect_16 : decode cX7_inspect 16 = .ok (.iconst 1, 1) := by decide +kernel
theorem dX7_inspect_17 : decode cX7_inspect 17 = .ok (.iadd, 1) := by decide +kernel
theorem dX7_inspect_18 : decode cX7_inspect 18 = .ok (.putfield 125, 3) := by decide +kernel
theorem dX7_inspect_21 : decode cX7_inspect 21 = .ok (.aload_n 0, 1) := by decide +kernel
theorem dX7_inspect_22 : decode cX7_inspect 22 = .ok (.iload_n 1, 1) := by decide +kernel
theorem dX7_inspect_23 : decode cX7_inspect 23 = .ok (.iload_n 2, 1) := by decide +kernel
theorem dX7_inspect_24 : decode cX7_inspect 24 = .ok (.invokevirtual 128, 3) := by decide +kernel
theorem dX7_inspect_27 : decode cX7_inspect 27 = .ok (.istore_n 3, 1) := by decide +kernel
theorem dX7_inspect_28 : decode cX7_inspect 28 = .ok (.iload_n 3, 1) := by decide +kernel
theorem dX7_inspect_29 : decode cX7_inspect 29 = .ok (.ifCond .eq 25, 3) := by decide +kernel
theorem dX7_inspect_32 : decode cX7_inspect 32 = .ok (.aload_n 0, 1) := by decide +kernel
theorem dX7_inspect_33 : decode cX7_inspect 33 = .ok (.getfield 19, 3) := by decide +kernel
theorem dX7_inspect_36 : decode cX7_inspect 36 = .ok (.iload_n 1, 1) := by decide +kernel
theorem dX7_inspect_37 : decode cX7_inspect 37 = .ok (.iload_n 2, 1) := by decide +kernel
theorem dX7_inspect_38 : decode cX7_inspect 38 = .ok (.iastore, 1) := by decide +kernel
theorem dX7_inspect_39 : decode cX7_inspect 39 = .ok (.aload_n 0, 1) := by decide +kernel
theorem dX7_inspect_40 : decode cX7_inspect 40 = .ok (.getfield 22, 3) := by decide +kernel
theorem dX7_inspect_43 : decode cX7_inspect 43 = .ok (.iload_n 1, 1) := by decide +kernel
theorem dX7_inspect_44 : decode cX7_inspect 44 = .ok (.aload_n 0, 1) := by decide +kernel
theorem dX7_inspect_45 : decode cX7_inspect 45 = .ok (.iload_n 2, 1) := by decide +kernel
theorem dX7_inspect_46 : decode cX7_inspect 46 = .ok (.iconst 4, 1) := by decide +kernel
theorem dX7_inspect_47 : decode cX7_inspect 47 = .ok (.invokevirtual 89, 3) := by decide +kernel
theorem dX7_inspect_50 : decode cX7_inspect 50 = .ok (.iastore, 1) := by decide +kernel
theorem dX7_inspect_51 : decode cX7_inspect 51 = .ok (.goto 18, 3) := by decide +kernel
theorem dX7_inspect_54 : decode cX7_inspect 54 = .ok (.aload_n 0, 1) := by decide +kernel
theorem dX7_inspect_55 : decode cX7_inspect 55 = .ok (.getfield 19, 3) := by decide +kernel
theorem dX7_inspect_58 : decode cX7_inspect 58 = .ok (.iload_n 1, 1) := by decide +kernel
theorem dX7_inspect_59 : decode cX7_inspect 59 = .ok (.iaload, 1) := by decide +kernel
theorem dX7_inspect_60 : decode cX7_inspect 60 = .ok (.iload_n 2, 1) := by decide +kernel
theorem dX7_inspect_61 : decode cX7_inspect 61 = .ok (.if_icmp .ne 8, 3) := by decide +kernel
theorem dX7_inspect_64 : decode cX7_inspect 64 = .ok (.aload_n 0, 1) := by decide +kernel
theorem dX7_inspect_65 : decode cX7_inspect 65 = .ok (.iload_n 1, 1) := by decide +kernel
theorem dX7_inspect_66 : decode cX7_inspect 66 = .ok (.invokevirtual 105, 3) := by decide +kernel
theorem dX7_inspect_69 : decode cX7_inspect 69 = .ok (.iload_n 3, 1) := by decide +kernel
theorem dX7_inspect_70 : decode cX7_inspect 70 = .ok (.ireturn, 1) := by decide +kernel
theorem dX7_revoke_0 : decode cX7_revoke 0 = .ok (.aload_n 0, 1) := by decide +kernel
theorem dX7_revoke_1 : decode cX7_revoke 1 = .ok (.iconst 0, 1) := by decide +kernel
theorem dX7_revoke_2 : decode cX7_revoke 2 = .ok (.putfield 43, 3) := by decide +kernel
theorem dX7_revoke_5 : decode cX7_revoke 5 = .ok (.aload_n 0, 1) := by decide +kernel
theorem dX7_revoke_6 : decode cX7_revoke 6 = .ok (.iload_n 1, 1) := by decide +kernel
theorem dX7_revoke_7 : decode cX7_revoke 7 = .ok (.invokevirtual 57, 3) := by decide +kernel
theorem dX7_revoke_10 : decode cX7_revoke 10 = .ok (.ifCond .ne 9, 3) := by decide +kernel
theorem dX7_revoke_13 : decode cX7_revoke 13 = .ok (.aload_n 0, 1) := by decide +kernel
theorem dX7_revoke_14 : decode cX7_revoke 14 = .ok (.iconst 1, 1) := by decide +kernel
theorem dX7_revoke_15 : decode cX7_revoke 15 = .ok (.invokevirtual 102, 3) := by decide +kernel
theorem dX7_revoke_18 : decode cX7_revoke 18 = .ok (.ireturn, 1) := by decide +kernel
theorem dX7_revoke_19 : decode cX7_revoke 19 = .ok (.aload_n 0, 1) := by decide +kernel
theorem dX7_revoke_20 : decode cX7_revoke 20 = .ok (.getfield 19, 3) := by decide +kernel
theorem dX7_revoke_23 : decode cX7_revoke 23 = .ok (.iload_n 1, 1) := by decide +kernel
theorem dX7_revoke_24 : decode cX7_revoke 24 = .ok (.iaload, 1) := by decide +kernel
theorem dX7_revoke_25 : decode cX7_revoke 25 = .ok (.iconst (-1), 1) := by decide +kernel
theorem dX7_revoke_26 : decode cX7_revoke 26 = .ok (.if_icmp .ne 9, 3) := by decide +kernel
theorem dX7_revoke_29 : decode cX7_revoke 29 = .ok (.aload_n 0, 1) := by decide +kernel
theorem dX7_revoke_30 : decode cX7_revoke 30 = .ok (.iconst 2, 1) := by decide +kernel
theorem dX7_revoke_31 : decode cX7_revoke 31 = .ok (.invokevirtual 102, 3) := by decide +kernel
theorem dX7_revoke_34 : decode cX7_revoke 34 = .ok (.ireturn, 1) := by decide +kernel
theorem dX7_revoke_35 : decode cX7_revoke 35 = .ok (.aload_n 0, 1) := by decide +kernel
theorem dX7_revoke_36 : decode cX7_revoke 36 = .ok (.getfield 22, 3) := by decide +kernel
theorem dX7_revoke_39 : decode cX7_revoke 39 = .ok (.iload_n 1, 1) := by decide +kernel
theorem dX7_revoke_40 : decode cX7_revoke 40 = .ok (.iaload, 1) := by decide +kernel
theorem dX7_revoke_41 : decode cX7_revoke 41 = .ok (.istore_n 2, 1) := by decide +kernel
theorem dX7_revoke_42 : decode cX7_revoke 42 = .ok (.aload_n 0, 1) := by decide +kernel
theorem dX7_revoke_43 : decode cX7_revoke 43 = .ok (.iload_n 1, 1) := by decide +kernel
theorem dX7_revoke_44 : decode cX7_revoke 44 = .ok (.invokevirtual 105, 3) := by decide +kernel
theorem dX7_revoke_47 : decode cX7_revoke 47 = .ok (.iload_n 2, 1) := by decide +kernel
theorem dX7_revoke_48 : decode cX7_revoke 48 = .ok (.ireturn, 1) := by decide +kernel
theorem dX7_certified_0 : decode cX7_certified 0 = .ok (.iconst 0, 1) := by decide +kernel
theorem dX7_certified_1 : decode cX7_certified 1 = .ok (.istore_n 1, 1) := by decide +kernel
theorem dX7_certified_2 : decode cX7_certified 2 = .ok (.iconst 0, 1) := by decide +kernel
theorem dX7_certified_3 : decode cX7_certified 3 = .ok (.istore_n 2, 1) := by decide +kernel
theorem dX7_certified_4 : decode cX7_certified 4 = .ok (.iload_n 2, 1) := by decide +kernel
theorem dX7_certified_5 : decode cX7_certified 5 = .ok (.aload_n 0, 1) := by decide +kernel
theorem dX7_certified_6 : decode cX7_certified 6 = .ok (.getfield 47, 3) := by decide +kernel
theorem dX7_certified_9 : decode cX7_certified 9 = .ok (.if_icmp .ge 27, 3) := by decide +kernel
theorem dX7_certified_12 : decode cX7_certified 12 = .ok (.iload_n 1, 1) := by decide +kernel
theorem dX7_certified_13 : decode cX7_certified 13 = .ok (.aload_n 0, 1) := by decide +kernel
theorem dX7_certified_14 : decode cX7_certified 14 = .ok (.getfield 19, 3) := by decide +kernel
theorem dX7_certified_17 : decode cX7_certified 17 = .ok (.iload_n 2, 1) := by decide +kernel
theorem dX7_certified_18 : decode cX7_certified 18 = .ok (.iaload, 1) := by decide +kernel
theorem dX7_certified_19 : decode cX7_certified 19 = .ok (.iconst (-1), 1) := by decide +kernel
theorem dX7_certified_20 : decode cX7_certified 20 = .ok (.if_icmp .ne 7, 3) := by decide +kernel
theorem dX7_certified_23 : decode cX7_certified 23 = .ok (.iconst 0, 1) := by decide +kernel
theorem dX7_certified_24 : decode cX7_certified 24 = .ok (.goto 4, 3) := by decide +kernel
theorem dX7_certified_27 : decode cX7_certified 27 = .ok (.iconst 1, 1) := by decide +kernel
theorem dX7_certified_28 : decode cX7_certified 28 = .ok (.iadd, 1) := by decide +kernel
theorem dX7_certified_29 : decode cX7_certified 29 = .ok (.istore_n 1, 1) := by decide +kernel
theorem dX7_certified_30 : decode cX7_certified 30 = .ok (.iinc 2 1, 3) := by decide +kernel
theorem dX7_certified_33 : decode cX7_certified 33 = .ok (.goto (-29), 3) := by decide +kernel
theorem dX7_certified_36 : decode cX7_certified 36 = .ok (.iload_n 1, 1) := by decide +kernel
theorem dX7_certified_37 : decode cX7_certified 37 = .ok (.ireturn, 1) := by decide +kernel
theorem dX7_passDays_0 : decode cX7_passDays 0 = .ok (.aload_n 0, 1) := by decide +kernel
theorem dX7_passDays_1 : decode cX7_passDays 1 = .ok (.iconst 0, 1) := by decide +kernel
theorem dX7_passDays_2 : decode cX7_passDays 2 = .ok (.putfield 43, 3) := by decide +kernel
theorem dX7_passDays_5 : decode cX7_passDays 5 = .ok (.iload_n 1, 1) := by decide +kernel
theorem dX7_passDays_6 : decode cX7_passDays 6 = .ok (.iconst 1, 1) := by decide +kernel
theorem dX7_passDays_7 : decode cX7_passDays 7 = .ok (.bipush 100, 2) := by decide +kernel
theorem dX7_passDays_9 : decode cX7_passDays 9 = .ok (.invokestatic 50, 3) := by decide +kernel
theorem dX7_passDays_12 : decode cX7_passDays 12 = .ok (.ifCond .ne 9, 3) := by decide +kernel
theorem dX7_passDays_15 : decode cX7_passDays 15 = .ok (.aload_n 0, 1) := by decide +kernel
theorem dX7_passDays_16 : decode cX7_passDays 16 = .ok (.iconst 1, 1) := by decide +kernel
theorem dX7_passDays_17 : decode cX7_passDays 17 = .ok (.invokevirtual 102, 3) := by decide +kernel
theorem dX7_passDays_20 : decode cX7_passDays 20 = .ok (.ireturn, 1) := by decide +kernel
theorem dX7_passDays_21 : decode cX7_passDays 21 = .ok (.iconst 0, 1) := by decide +kernel
theorem dX7_passDays_22 : decode cX7_passDays 22 = .ok (.istore_n 2, 1) := by decide +kernel
theorem dX7_passDays_23 : decode cX7_passDays 23 = .ok (.iload_n 2, 1) := by decide +kernel
theorem dX7_passDays_24 : decode cX7_passDays 24 = .ok (.aload_n 0, 1) := by decide +kernel
theorem dX7_passDays_25 : decode cX7_passDays 25 = .ok (.getfield 47, 3) := by decide +kernel
theorem dX7_passDays_28 : decode cX7_passDays 28 = .ok (.if_icmp .ge 56, 3) := by decide +kernel
theorem dX7_passDays_31 : decode cX7_passDays 31 = .ok (.aload_n 0, 1) := by decide +kernel
theorem dX7_passDays_32 : decode cX7_passDays 32 = .ok (.getfield 16, 3) := by decide +kernel
theorem dX7_passDays_35 : decode cX7_passDays 35 = .ok (.iload_n 2, 1) := by decide +kernel
theorem dX7_passDays_36 : decode cX7_passDays 36 = .ok (.bipush 100, 2) := by decide +kernel
theorem dX7_passDays_38 : decode cX7_passDays 38 = .ok (.aload_n 0, 1) := by decide +kernel
theorem dX7_passDays_39 : decode cX7_passDays 39 = .ok (.getfield 16, 3) := by decide +kernel
theorem dX7_passDays_42 : decode cX7_passDays 42 = .ok (.iload_n 2, 1) := by decide +kernel
theorem dX7_passDays_43 : decode cX7_passDays 43 = .ok (.iaload, 1) := by decide +kernel
theorem dX7_passDays_44 : decode cX7_passDays 44 = .ok (.iload_n 1, 1) := by decide +kernel
theorem dX7_passDays_45 : decode cX7_passDays 45 = .ok (.iadd, 1) := by decide +kernel
theorem dX7_passDays_46 : decode cX7_passDays 46 = .ok (.invokestatic 131, 3) := by decide +kernel
theorem dX7_passDays_49 : decode cX7_passDays 49 = .ok (.iastore, 1) := by decide +kernel
theorem dX7_passDays_50 : decode cX7_passDays 50 = .ok (.aload_n 0, 1) := by decide +kernel
theorem dX7_passDays_51 : decode cX7_passDays 51 = .ok (.getfield 22, 3) := by decide +kernel
theorem dX7_passDays_54 : decode cX7_passDays 54 = .ok (.iload_n 2, 1) := by decide +kernel
theorem dX7_passDays_55 : decode cX7_passDays 55 = .ok (.iaload, 1) := by decide +kernel
theorem dX7_passDays_56 : decode cX7_passDays 56 = .ok (.iload_n 1, 1) := by decide +kernel
theorem dX7_passDays_57 : decode cX7_passDays 57 = .ok (.if_icmp .gt 11, 3) := by decide +kernel
theorem dX7_passDays_60 : decode cX7_passDays 60 = .ok (.aload_n 0, 1) := by decide +kernel
theorem dX7_passDays_61 : decode cX7_passDays 61 = .ok (.iload_n 2, 1) := by decide +kernel
theorem dX7_passDays_62 : decode cX7_passDays 62 = .ok (.invokevirtual 105, 3) := by decide +kernel
theorem dX7_passDays_65 : decode cX7_passDays 65 = .ok (.goto 13, 3) := by decide +kernel
theorem dX7_passDays_68 : decode cX7_passDays 68 = .ok (.aload_n 0, 1) := by decide +kernel
theorem dX7_passDays_69 : decode cX7_passDays 69 = .ok (.getfield 22, 3) := by decide +kernel
theorem dX7_passDays_72 : decode cX7_passDays 72 = .ok (.iload_n 2, 1) := by decide +kernel
theorem dX7_passDays_73 : decode cX7_passDays 73 = .ok (.dup2, 1) := by decide +kernel
theorem dX7_passDays_74 : decode cX7_passDays 74 = .ok (.iaload, 1) := by decide +kernel
theorem dX7_passDays_75 : decode cX7_passDays 75 = .ok (.iload_n 1, 1) := by decide +kernel
theorem dX7_passDays_76 : decode cX7_passDays 76 = .ok (.isub, 1) := by decide +kernel
theorem dX7_passDays_77 : decode cX7_passDays 77 = .ok (.iastore, 1) := by decide +kernel
theorem dX7_passDays_78 : decode cX7_passDays 78 = .ok (.iinc 2 1, 3) := by decide +kernel
theorem dX7_passDays_81 : decode cX7_passDays 81 = .ok (.goto (-58), 3) := by decide +kernel
theorem dX7_passDays_84 : decode cX7_passDays 84 = .ok (.aload_n 0, 1) := by decide +kernel
theorem dX7_passDays_85 : decode cX7_passDays 85 = .ok (.dup, 1) := by decide +kernel
theorem dX7_passDays_86 : decode cX7_passDays 86 = .ok (.getfield 134, 3) := by decide +kernel
theorem dX7_passDays_89 : decode cX7_passDays 89 = .ok (.iload_n 1, 1) := by decide +kernel
theorem dX7_passDays_90 : decode cX7_passDays 90 = .ok (.iadd, 1) := by decide +kernel
theorem dX7_passDays_91 : decode cX7_passDays 91 = .ok (.putfield 134, 3) := by decide +kernel
theorem dX7_passDays_94 : decode cX7_passDays 94 = .ok (.aload_n 0, 1) := by decide +kernel
theorem dX7_passDays_95 : decode cX7_passDays 95 = .ok (.invokevirtual 137, 3) := by decide +kernel
theorem dX7_passDays_98 : decode cX7_passDays 98 = .ok (.ireturn, 1) := by decide +kernel
theorem dX7_surfacesOf_0 : decode cX7_surfacesOf 0 = .ok (.aload_n 0, 1) := by decide +kernel
theorem dX7_surfacesOf_1 : decode cX7_surfacesOf 1 = .ok (.iconst 0, 1) := by decide +kernel
theorem dX7_surfacesOf_2 : decode cX7_surfacesOf 2 = .ok (.putfield 43, 3) := by decide +kernel
theorem dX7_surfacesOf_5 : decode cX7_surfacesOf 5 = .ok (.aload_n 0, 1) := by decide +kernel
theorem dX7_surfacesOf_6 : decode cX7_surfacesOf 6 = .ok (.iload_n 1, 1) := by decide +kernel
theorem dX7_surfacesOf_7 : decode cX7_surfacesOf 7 = .ok (.invokevirtual 57, 3) := by decide +kernel
theorem dX7_surfacesOf_10 : decode cX7_surfacesOf 10 = .ok (.ifCond .eq 12, 3) := by decide +kernel
theorem dX7_surfacesOf_13 : decode cX7_surfacesOf 13 = .ok (.aload_n 0, 1) := by decide +kernel
theorem dX7_surfacesOf_14 : decode cX7_surfacesOf 14 = .ok (.getfield 9, 3) := by decide +kernel
theorem dX7_surfacesOf_17 : decode cX7_surfacesOf 17 = .ok (.iload_n 1, 1) := by decide +kernel
theorem dX7_surfacesOf_18 : decode cX7_surfacesOf 18 = .ok (.iaload, 1) := by decide +kernel
theorem dX7_surfacesOf_19 : decode cX7_surfacesOf 19 = .ok (.goto 8, 3) := by decide +kernel
theorem dX7_surfacesOf_22 : decode cX7_surfacesOf 22 = .ok (.aload_n 0, 1) := by decide +kernel
theorem dX7_surfacesOf_23 : decode cX7_surfacesOf 23 = .ok (.iconst 1, 1) := by decide +kernel
theorem dX7_surfacesOf_24 : decode cX7_surfacesOf 24 = .ok (.invokevirtual 102, 3) := by decide +kernel
theorem dX7_surfacesOf_27 : decode cX7_surfacesOf 27 = .ok (.ireturn, 1) := by decide +kernel
theorem dX7_distanceOf_0 : decode cX7_distanceOf 0 = .ok (.aload_n 0, 1) := by decide +kernel
theorem dX7_distanceOf_1 : decode cX7_distanceOf 1 = .ok (.iconst 0, 1) := by decide +kernel
theorem dX7_distanceOf_2 : decode cX7_distanceOf 2 = .ok (.putfield 43, 3) := by decide +kernel
theorem dX7_distanceOf_5 : decode cX7_distanceOf 5 = .ok (.aload_n 0, 1) := by decide +kernel
theorem dX7_distanceOf_6 : decode cX7_distanceOf 6 = .ok (.iload_n 1, 1) := by decide +kernel
theorem dX7_distanceOf_7 : decode cX7_distanceOf 7 = .ok (.iload_n 2, 1) := by decide +kernel
theorem dX7_distanceOf_8 : decode cX7_distanceOf 8 = .ok (.invokevirtual 109, 3) := by decide +kernel
theorem dX7_distanceOf_11 : decode cX7_distanceOf 11 = .ok (.ifCond .eq 17, 3) := by decide +kernel
theorem dX7_distanceOf_14 : decode cX7_distanceOf 14 = .ok (.aload_n 0, 1) := by decide +kernel
theorem dX7_distanceOf_15 : decode cX7_distanceOf 15 = .ok (.getfield 25, 3) := by decide +kernel
theorem dX7_distanceOf_18 : decode cX7_distanceOf 18 = .ok (.bipush 6, 2) := by decide +kernel
theorem dX7_distanceOf_20 : decode cX7_distanceOf 20 = .ok (.iload_n 1, 1) := by decide +kernel
theorem dX7_distanceOf_21 : decode cX7_distanceOf 21 = .ok (.imul, 1) := by decide +kernel
theorem dX7_distanceOf_22 : decode cX7_distanceOf 22 = .ok (.iload_n 2, 1) := by decide +kernel
theorem dX7_distanceOf_23 : decode cX7_distanceOf 23 = .ok (.iadd, 1) := by decide +kernel
theorem dX7_distanceOf_24 : decode cX7_distanceOf 24 = .ok (.iaload, 1) := by decide +kernel
theorem dX7_distanceOf_25 : decode cX7_distanceOf 25 = .ok (.goto 8, 3) := by decide +kernel
theorem dX7_distanceOf_28 : decode cX7_distanceOf 28 = .ok (.aload_n 0, 1) := by decide +kernel
theorem dX7_distanceOf_29 : decode cX7_distanceOf 29 = .ok (.iconst 1, 1) := by decide +kernel
theorem dX7_distanceOf_30 : decode cX7_distanceOf 30 = .ok (.invokevirtual 102, 3) := by decide +kernel
theorem dX7_distanceOf_33 : decode cX7_distanceOf 33 = .ok (.ireturn, 1) := by decide +kernel
theorem dX7_hardnessOf_0 : decode cX7_hardnessOf 0 = .ok (.aload_n 0, 1) := by decide +kernel
theorem dX7_hardnessOf_1 : decode cX7_hardnessOf 1 = .ok (.iconst 0, 1) := by decide +kernel
theorem dX7_hardnessOf_2 : decode cX7_hardnessOf 2 = .ok (.putfield 43, 3) := by decide +kernel
theorem dX7_hardnessOf_5 : decode cX7_hardnessOf 5 = .ok (.aload_n 0, 1) := by decide +kernel
theorem dX7_hardnessOf_6 : decode cX7_hardnessOf 6 = .ok (.iload_n 1, 1) := by decide +kernel
theorem dX7_hardnessOf_7 : decode cX7_hardnessOf 7 = .ok (.iload_n 2, 1) := by decide +kernel
theorem dX7_hardnessOf_8 : decode cX7_hardnessOf 8 = .ok (.invokevirtual 109, 3) := by decide +kernel
theorem dX7_hardnessOf_11 : decode cX7_hardnessOf 11 = .ok (.ifCond .eq 18, 3) := by decide +kernel
theorem dX7_hardnessOf_14 : decode cX7_hardnessOf 14 = .ok (.aload_n 0, 1) := by decide +kernel
theorem dX7_hardnessOf_15 : decode cX7_hardnessOf 15 = .ok (.iload_n 1, 1) := by decide +kernel
theorem dX7_hardnessOf_16 : decode cX7_hardnessOf 16 = .ok (.iload_n 2, 1) := by decide +kernel
theorem dX7_hardnessOf_17 : decode cX7_hardnessOf 17 = .ok (.aload_n 0, 1) := by decide +kernel
theorem dX7_hardnessOf_18 : decode cX7_hardnessOf 18 = .ok (.getfield 16, 3) := by decide +kernel
theorem dX7_hardnessOf_21 : decode cX7_hardnessOf 21 = .ok (.iload_n 1, 1) := by decide +kernel
theorem dX7_hardnessOf_22 : decode cX7_hardnessOf 22 = .ok (.iaload, 1) := by decide +kernel
theorem dX7_hardnessOf_23 : decode cX7_hardnessOf 23 = .ok (.invokevirtual 70, 3) := by decide +kernel
theorem dX7_hardnessOf_26 : decode cX7_hardnessOf 26 = .ok (.goto 8, 3) := by decide +kernel
theorem dX7_hardnessOf_29 : decode cX7_hardnessOf 29 = .ok (.aload_n 0, 1) := by decide +kernel
theorem dX7_hardnessOf_30 : decode cX7_hardnessOf 30 = .ok (.iconst 1, 1) := by decide +kernel
theorem dX7_hardnessOf_31 : decode cX7_hardnessOf 31 = .ok (.invokevirtual 102, 3) := by decide +kernel
theorem dX7_hardnessOf_34 : decode cX7_hardnessOf 34 = .ok (.ireturn, 1) := by decide +kernel
theorem dX7_dampingOf_0 : decode cX7_dampingOf 0 = .ok (.aload_n 0, 1) := by decide +kernel
theorem dX7_dampingOf_1 : decode cX7_dampingOf 1 = .ok (.iconst 0, 1) := by decide +kernel
theorem dX7_dampingOf_2 : decode cX7_dampingOf 2 = .ok (.putfield 43, 3) := by decide +kernel
theorem dX7_dampingOf_5 : decode cX7_dampingOf 5 = .ok (.aload_n 0, 1) := by decide +kernel
theorem dX7_dampingOf_6 : decode cX7_dampingOf 6 = .ok (.iload_n 1, 1) := by decide +kernel
theorem dX7_dampingOf_7 : decode cX7_dampingOf 7 = .ok (.invokevirtual 57, 3) := by decide +kernel
theorem dX7_dampingOf_10 : decode cX7_dampingOf 10 = .ok (.ifCond .eq 12, 3) := by decide +kernel
theorem dX7_dampingOf_13 : decode cX7_dampingOf 13 = .ok (.aload_n 0, 1) := by decide +kernel
theorem dX7_dampingOf_14 : decode cX7_dampingOf 14 = .ok (.getfield 13, 3) := by decide +kernel
theorem dX7_dampingOf_17 : decode cX7_dampingOf 17 = .ok (.iload_n 1, 1) := by decide +kernel
theorem dX7_dampingOf_18 : decode cX7_dampingOf 18 = .ok (.iaload, 1) := by decide +kernel
theorem dX7_dampingOf_19 : decode cX7_dampingOf 19 = .ok (.goto 8, 3) := by decide +kernel
theorem dX7_dampingOf_22 : decode cX7_dampingOf 22 = .ok (.aload_n 0, 1) := by decide +kernel
theorem dX7_dampingOf_23 : decode cX7_dampingOf 23 = .ok (.iconst 1, 1) := by decide +kernel
theorem dX7_dampingOf_24 : decode cX7_dampingOf 24 = .ok (.invokevirtual 102, 3) := by decide +kernel
theorem dX7_dampingOf_27 : decode cX7_dampingOf 27 = .ok (.ireturn, 1) := by decide +kernel
theorem dX7_dustOf_0 : decode cX7_dustOf 0 = .ok (.aload_n 0, 1) := by decide +kernel
theorem dX7_dustOf_1 : decode cX7_dustOf 1 = .ok (.iconst 0, 1) := by decide +kernel
theorem dX7_dustOf_2 : decode cX7_dustOf 2 = .ok (.putfield 43, 3) := by decide +kernel
theorem dX7_dustOf_5 : decode cX7_dustOf 5 = .ok (.aload_n 0, 1) := by decide +kernel
theorem dX7_dustOf_6 : decode cX7_dustOf 6 = .ok (.iload_n 1, 1) := by decide +kernel
theorem dX7_dustOf_7 : decode cX7_dustOf 7 = .ok (.invokevirtual 57, 3) := by decide +kernel
theorem dX7_dustOf_10 : decode cX7_dustOf 10 = .ok (.ifCond .eq 12, 3) := by decide +kernel
theorem dX7_dustOf_13 : decode cX7_dustOf 13 = .ok (.aload_n 0, 1) := by decide +kernel
theorem dX7_dustOf_14 : decode cX7_dustOf 14 = .ok (.getfield 16, 3) := by decide +kernel
theorem dX7_dustOf_17 : decode cX7_dustOf 17 = .ok (.iload_n 1, 1) := by decide +kernel
theorem dX7_dustOf_18 : decode cX7_dustOf 18 = .ok (.iaload, 1) := by decide +kernel
theorem dX7_dustOf_19 : decode cX7_dustOf 19 = .ok (.goto 8, 3) := by decide +kernel
theorem dX7_dustOf_22 : decode cX7_dustOf 22 = .ok (.aload_n 0, 1) := by decide +kernel
theorem dX7_dustOf_23 : decode cX7_dustOf 23 = .ok (.iconst 1, 1) := by decide +kernel
theorem dX7_dustOf_24 : decode cX7_dustOf 24 = .ok (.invokevirtual 102, 3) := by decide +kernel
theorem dX7_dustOf_27 : decode cX7_dustOf 27 = .ok (.ireturn, 1) := by decide +kernel
theorem dX7_isClick_0 : decode cX7_isClick 0 = .ok (.aload_n 0, 1) := by decide +kernel
theorem dX7_isClick_1 : decode cX7_isClick 1 = .ok (.aload_n 0, 1) := by decide +kernel
theorem dX7_isClick_2 : decode cX7_isClick 2 = .ok (.iload_n 1, 1) := by decide +kernel
theorem dX7_isClick_3 : decode cX7_isClick 3 = .ok (.invokevirtual 57, 3) := by decide +kernel
theorem dX7_isClick_6 : decode cX7_isClick 6 = .ok (.ifCond .ne 7, 3) := by decide +kernel
theorem dX7_isClick_9 : decode cX7_isClick 9 = .ok (.iconst 1, 1) := by decide +kernel
theorem dX7_isClick_10 : decode cX7_isClick 10 = .ok (.goto 23, 3) := by decide +kernel
theorem dX7_isClick_13 : decode cX7_isClick 13 = .ok (.iload_n 2, 1) := by decide +kernel
theorem dX7_isClick_14 : decode cX7_isClick 14 = .ok (.iconst 1, 1) := by decide +kernel
theorem dX7_isClick_15 : decode cX7_isClick 15 = .ok (.sipush 1000, 3) := by decide +kernel
theorem dX7_isClick_18 : decode cX7_isClick 18 = .ok (.invokestatic 50, 3) := by decide +kernel
theorem dX7_isClick_21 : decode cX7_isClick 21 = .ok (.ifCond .eq 11, 3) := by decide +kernel
theorem dX7_isClick_24 : decode cX7_isClick 24 = .ok (.iload_n 3, 1) := by decide +kernel
theorem dX7_isClick_25 : decode cX7_isClick 25 = .ok (.ifCond .eq 7, 3) := by decide +kernel
theorem dX7_isClick_28 : decode cX7_isClick 28 = .ok (.iconst 0, 1) := by decide +kernel
theorem dX7_isClick_29 : decode cX7_isClick 29 = .ok (.goto 4, 3) := by decide +kernel
theorem dX7_isClick_32 : decode cX7_isClick 32 = .ok (.iconst 2, 1) := by decide +kernel
theorem dX7_isClick_33 : decode cX7_isClick 33 = .ok (.putfield 43, 3) := by decide +kernel
theorem dX7_isClick_36 : decode cX7_isClick 36 = .ok (.aload_n 0, 1) := by decide +kernel
theorem dX7_isClick_37 : decode cX7_isClick 37 = .ok (.getfield 43, 3) := by decide +kernel
theorem dX7_isClick_40 : decode cX7_isClick 40 = .ok (.ifCond .ne 9, 3) := by decide +kernel
theorem dX7_isClick_43 : decode cX7_isClick 43 = .ok (.aload_n 0, 1) := by decide +kernel
theorem dX7_isClick_44 : decode cX7_isClick 44 = .ok (.iload_n 1, 1) := by decide +kernel
theorem dX7_isClick_45 : decode cX7_isClick 45 = .ok (.iload_n 2, 1) := by decide +kernel
theorem dX7_isClick_46 : decode cX7_isClick 46 = .ok (.invokevirtual 140, 3) := by decide +kernel
theorem dX7_isClick_49 : decode cX7_isClick 49 = .ok (.aload_n 0, 1) := by decide +kernel
theorem dX7_isClick_50 : decode cX7_isClick 50 = .ok (.getfield 43, 3) := by decide +kernel
theorem dX7_isClick_53 : decode cX7_isClick 53 = .ok (.ifCond .ne 7, 3) := by decide +kernel
theorem dX7_isClick_56 : decode cX7_isClick 56 = .ok (.iconst 1, 1) := by decide +kernel
theorem dX7_isClick_57 : decode cX7_isClick 57 = .ok (.goto 4, 3) := by decide +kernel
theorem dX7_isClick_60 : decode cX7_isClick 60 = .ok (.iconst 0, 1) := by decide +kernel
theorem dX7_isClick_61 : decode cX7_isClick 61 = .ok (.ireturn, 1) := by decide +kernel
theorem dX7_echoes_0 : decode cX7_echoes 0 = .ok (.aload_n 0, 1) := by decide +kernel
theorem dX7_echoes_1 : decode cX7_echoes 1 = .ok (.iload_n 1, 1) := by decide +kernel
theorem dX7_echoes_2 : decode cX7_echoes 2 = .ok (.iload_n 2, 1) := by decide +kernel
theorem dX7_echoes_3 : decode cX7_echoes 3 = .ok (.iconst 1, 1) := by decide +kernel
theorem dX7_echoes_4 : decode cX7_echoes 4 = .ok (.invokevirtual 144, 3) := by decide +kernel
theorem dX7_echoes_7 : decode cX7_echoes 7 = .ok (.ifCond .eq 10, 3) := by decide +kernel
theorem dX7_echoes_10 : decode cX7_echoes 10 = .ok (.aload_n 0, 1) := by decide +kernel
theorem dX7_echoes_11 : decode cX7_echoes 11 = .ok (.invokevirtual 82, 3) := by decide +kernel
theorem dX7_echoes_14 : decode cX7_echoes 14 = .ok (.goto 4, 3) := by decide +kernel
theorem dX7_echoes_17 : decode cX7_echoes 17 = .ok (.iconst 0, 1) := by decide +kernel
theorem dX7_echoes_18 : decode cX7_echoes 18 = .ok (.ireturn, 1) := by decide +kernel
theorem dX7_loudEchoes_0 : decode cX7_loudEchoes 0 = .ok (.aload_n 0, 1) := by decide +kernel
theorem dX7_loudEchoes_1 : decode cX7_loudEchoes 1 = .ok (.iload_n 1, 1) := by decide +kernel
theorem dX7_loudEchoes_2 : decode cX7_loudEchoes 2 = .ok (.iload_n 2, 1) := by decide +kernel
theorem dX7_loudEchoes_3 : decode cX7_loudEchoes 3 = .ok (.iload_n 3, 1) := by decide +kernel
theorem dX7_loudEchoes_4 : decode cX7_loudEchoes 4 = .ok (.iconst 1, 1) := by decide +kernel
theorem dX7_loudEchoes_5 : decode cX7_loudEchoes 5 = .ok (.sipush 1000, 3) := by decide +kernel
theorem dX7_loudEchoes_8 : decode cX7_loudEchoes 8 = .ok (.invokestatic 50, 3) := by decide +kernel
theorem dX7_loudEchoes_11 : decode cX7_loudEchoes 11 = .ok (.invokevirtual 144, 3) := by decide +kernel
theorem dX7_loudEchoes_14 : decode cX7_loudEchoes 14 = .ok (.ifCond .eq 11, 3) := by decide +kernel
theorem dX7_loudEchoes_17 : decode cX7_loudEchoes 17 = .ok (.aload_n 0, 1) := by decide +kernel
theorem dX7_loudEchoes_18 : decode cX7_loudEchoes 18 = .ok (.iload_n 3, 1) := by decide +kernel
theorem dX7_loudEchoes_19 : decode cX7_loudEchoes 19 = .ok (.invokevirtual 95, 3) := by decide +kernel
theorem dX7_loudEchoes_22 : decode cX7_loudEchoes 22 = .ok (.goto 4, 3) := by decide +kernel
theorem dX7_loudEchoes_25 : decode cX7_loudEchoes 25 = .ok (.iconst 0, 1) := by decide +kernel
theorem dX7_loudEchoes_26 : decode cX7_loudEchoes 26 = .ok (.ireturn, 1) := by decide +kernel
theorem dX7_firstEcho_0 : decode cX7_firstEcho 0 = .ok (.aload_n 0, 1) := by decide +kernel
theorem dX7_firstEcho_1 : decode cX7_firstEcho 1 = .ok (.iload_n 1, 1) := by decide +kernel
theorem dX7_firstEcho_2 : decode cX7_firstEcho 2 = .ok (.iload_n 2, 1) := by decide +kernel
theorem dX7_firstEcho_3 : decode cX7_firstEcho 3 = .ok (.iconst 1, 1) := by decide +kernel
theorem dX7_firstEcho_4 : decode cX7_firstEcho 4 = .ok (.invokevirtual 144, 3) := by decide +kernel
theorem dX7_firstEcho_7 : decode cX7_firstEcho 7 = .ok (.ifCond .eq 10, 3) := by decide +kernel
theorem dX7_firstEcho_10 : decode cX7_firstEcho 10 = .ok (.aload_n 0, 1) := by decide +kernel
theorem dX7_firstEcho_11 : decode cX7_firstEcho 11 = .ok (.invokevirtual 86, 3) := by decide +kernel
theorem dX7_firstEcho_14 : decode cX7_firstEcho 14 = .ok (.goto 4, 3) := by decide +kernel
theorem dX7_firstEcho_17 : decode cX7_firstEcho 17 = .ok (.iconst 0, 1) := by decide +kernel
theorem dX7_firstEcho_18 : decode cX7_firstEcho 18 = .ok (.ireturn, 1) := by decide +kernel
theorem dX7_lastEcho_0 : decode cX7_lastEcho 0 = .ok (.aload_n 0, 1) := by decide +kernel
theorem dX7_lastEcho_1 : decode cX7_lastEcho 1 = .ok (.iload_n 1, 1) := by decide +kernel
theorem dX7_lastEcho_2 : decode cX7_lastEcho 2 = .ok (.iload_n 2, 1) := by decide +kernel
theorem dX7_lastEcho_3 : decode cX7_lastEcho 3 = .ok (.iconst 1, 1) := by decide +kernel
theorem dX7_lastEcho_4 : decode cX7_lastEcho 4 = .ok (.invokevirtual 144, 3) := by decide +kernel
theorem dX7_lastEcho_7 : decode cX7_lastEcho 7 = .ok (.ifCond .eq 10, 3) := by decide +kernel
theorem dX7_lastEcho_10 : decode cX7_lastEcho 10 = .ok (.aload_n 0, 1) := by decide +kernel
theorem dX7_lastEcho_11 : decode cX7_lastEcho 11 = .ok (.invokevirtual 92, 3) := by decide +kernel
theorem dX7_lastEcho_14 : decode cX7_lastEcho 14 = .ok (.goto 4, 3) := by decide +kernel
theorem dX7_lastEcho_17 : decode cX7_lastEcho 17 = .ok (.iconst 0, 1) := by decide +kernel
theorem dX7_lastEcho_18 : decode cX7_lastEcho 18 = .ok (.ireturn, 1) := by decide +kernel
theorem dX7_loudnessAt_0 : decode cX7_loudnessAt 0 = .ok (.aload_n 0, 1) := by decide +kernel
theorem dX7_loudnessAt_1 : decode cX7_loudnessAt 1 = .ok (.iload_n 1, 1) := by decide +kernel
theorem dX7_loudnessAt_2 : decode cX7_loudnessAt 2 = .ok (.iload_n 2, 1) := by decide +kernel
theorem dX7_loudnessAt_3 : decode cX7_loudnessAt 3 = .ok (.iload_n 3, 1) := by decide +kernel
theorem dX7_loudnessAt_4 : decode cX7_loudnessAt 4 = .ok (.iconst 0, 1) := by decide +kernel
theorem dX7_loudnessAt_5 : decode cX7_loudnessAt 5 = .ok (.sipush 3000, 3) := by decide +kernel
theorem dX7_loudnessAt_8 : decode cX7_loudnessAt 8 = .ok (.invokestatic 50, 3) := by decide +kernel
theorem dX7_loudnessAt_11 : decode cX7_loudnessAt 11 = .ok (.invokevirtual 144, 3) := by decide +kernel
theorem dX7_loudnessAt_14 : decode cX7_loudnessAt 14 = .ok (.ifCond .eq 11, 3) := by decide +kernel
theorem dX7_loudnessAt_17 : decode cX7_loudnessAt 17 = .ok (.aload_n 0, 1) := by decide +kernel
theorem dX7_loudnessAt_18 : decode cX7_loudnessAt 18 = .ok (.iload_n 3, 1) := by decide +kernel
theorem dX7_loudnessAt_19 : decode cX7_loudnessAt 19 = .ok (.invokevirtual 78, 3) := by decide +kernel
theorem dX7_loudnessAt_22 : decode cX7_loudnessAt 22 = .ok (.goto 4, 3) := by decide +kernel
theorem dX7_loudnessAt_25 : decode cX7_loudnessAt 25 = .ok (.iconst 0, 1) := by decide +kernel
theorem dX7_loudnessAt_26 : decode cX7_loudnessAt 26 = .ok (.ireturn, 1) := by decide +kernel
theorem dX7_loudestMoment_0 : decode cX7_loudestMoment 0 = .ok (.aload_n 0, 1) := by decide +kernel
theorem dX7_loudestMoment_1 : decode cX7_loudestMoment 1 = .ok (.iload_n 1, 1) := by decide +kernel
theorem dX7_loudestMoment_2 : decode cX7_loudestMoment 2 = .ok (.iload_n 2, 1) := by decide +kernel
theorem dX7_loudestMoment_3 : decode cX7_loudestMoment 3 = .ok (.iconst 1, 1) := by decide +kernel
theorem dX7_loudestMoment_4 : decode cX7_loudestMoment 4 = .ok (.invokevirtual 144, 3) := by decide +kernel
theorem dX7_loudestMoment_7 : decode cX7_loudestMoment 7 = .ok (.ifCond .eq 10, 3) := by decide +kernel
theorem dX7_loudestMoment_10 : decode cX7_loudestMoment 10 = .ok (.aload_n 0, 1) := by decide +kernel
theorem dX7_loudestMoment_11 : decode cX7_loudestMoment 11 = .ok (.invokevirtual 148, 3) := by decide +kernel
theorem dX7_loudestMoment_14 : decode cX7_loudestMoment 14 = .ok (.goto 4, 3) := by decide +kernel
theorem dX7_loudestMoment_17 : decode cX7_loudestMoment 17 = .ok (.iconst 0, 1) := by decide +kernel
theorem dX7_loudestMoment_18 : decode cX7_loudestMoment 18 = .ok (.ireturn, 1) := by decide +kernel
theorem dX7_meets__0 : decode cX7_meets_ 0 = .ok (.aload_n 0, 1) := by decide +kernel
theorem dX7_meets__1 : decode cX7_meets_ 1 = .ok (.iload_n 1, 1) := by decide +kernel
theorem dX7_meets__2 : decode cX7_meets_ 2 = .ok (.iload_n 2, 1) := by decide +kernel
theorem dX7_meets__3 : decode cX7_meets_ 3 = .ok (.invokevirtual 122, 3) := by decide +kernel
theorem dX7_meets__6 : decode cX7_meets_ 6 = .ok (.ifCond .eq 16, 3) := by decide +kernel
theorem dX7_meets__9 : decode cX7_meets_ 9 = .ok (.aload_n 0, 1) := by decide +kernel
theorem dX7_meets__10 : decode cX7_meets_ 10 = .ok (.iload_n 1, 1) := by decide +kernel
theorem dX7_meets__11 : decode cX7_meets_ 11 = .ok (.iload_n 2, 1) := by decide +kernel
theorem dX7_meets__12 : decode cX7_meets_ 12 = .ok (.invokevirtual 128, 3) := by decide +kernel
theorem dX7_meets__15 : decode cX7_meets_ 15 = .ok (.ifCond .eq 7, 3) := by decide +kernel
theorem dX7_meets__18 : decode cX7_meets_ 18 = .ok (.iconst 1, 1) := by decide +kernel
theorem dX7_meets__19 : decode cX7_meets_ 19 = .ok (.goto 4, 3) := by decide +kernel
theorem dX7_meets__22 : decode cX7_meets_ 22 = .ok (.iconst 0, 1) := by decide +kernel
theorem dX7_meets__23 : decode cX7_meets_ 23 = .ok (.ireturn, 1) := by decide +kernel
theorem dX7_hallsMeeting_0 : decode cX7_hallsMeeting 0 = .ok (.aload_n 0, 1) := by decide +kernel
theorem dX7_hallsMeeting_1 : decode cX7_hallsMeeting 1 = .ok (.iconst 0, 1) := by decide +kernel
theorem dX7_hallsMeeting_2 : decode cX7_hallsMeeting 2 = .ok (.putfield 43, 3) := by decide +kernel
theorem dX7_hallsMeeting_5 : decode cX7_hallsMeeting 5 = .ok (.aload_n 0, 1) := by decide +kernel
theorem dX7_hallsMeeting_6 : decode cX7_hallsMeeting 6 = .ok (.iload_n 1, 1) := by decide +kernel
theorem dX7_hallsMeeting_7 : decode cX7_hallsMeeting 7 = .ok (.invokevirtual 119, 3) := by decide +kernel
theorem dX7_hallsMeeting_10 : decode cX7_hallsMeeting 10 = .ok (.ifCond .ne 9, 3) := by decide +kernel
theorem dX7_hallsMeeting_13 : decode cX7_hallsMeeting 13 = .ok (.aload_n 0, 1) := by decide +kernel
theorem dX7_hallsMeeting_14 : decode cX7_hallsMeeting 14 = .ok (.iconst 1, 1) := by decide +kernel
theorem dX7_hallsMeeting_15 : decode cX7_hallsMeeting 15 = .ok (.invokevirtual 102, 3) := by decide +kernel
theorem dX7_hallsMeeting_18 : decode cX7_hallsMeeting 18 = .ok (.ireturn, 1) := by decide +kernel
theorem dX7_hallsMeeting_19 : decode cX7_hallsMeeting 19 = .ok (.iconst 0, 1) := by decide +kernel
theorem dX7_hallsMeeting_20 : decode cX7_hallsMeeting 20 = .ok (.istore_n 2, 1) := by decide +kernel
theorem dX7_hallsMeeting_21 : decode cX7_hallsMeeting 21 = .ok (.iconst 0, 1) := by decide +kernel
theorem dX7_hallsMeeting_22 : decode cX7_hallsMeeting 22 = .ok (.istore_n 3, 1) := by decide +kernel
theorem dX7_hallsMeeting_23 : decode cX7_hallsMeeting 23 = .ok (.iload_n 3, 1) := by decide +kernel
theorem dX7_hallsMeeting_24 : decode cX7_hallsMeeting 24 = .ok (.aload_n 0, 1) := by decide +kernel
theorem dX7_hallsMeeting_25 : decode cX7_hallsMeeting 25 = .ok (.getfield 47, 3) := by decide +kernel
theorem dX7_hallsMeeting_28 : decode cX7_hallsMeeting 28 = .ok (.if_icmp .ge 26, 3) := by decide +kernel
theorem dX7_hallsMeeting_31 : decode cX7_hallsMeeting 31 = .ok (.iload_n 2, 1) := by decide +kernel
theorem dX7_hallsMeeting_32 : decode cX7_hallsMeeting 32 = .ok (.aload_n 0, 1) := by decide +kernel
theorem dX7_hallsMeeting_33 : decode cX7_hallsMeeting 33 = .ok (.iload_n 3, 1) := by decide +kernel
theorem dX7_hallsMeeting_34 : decode cX7_hallsMeeting 34 = .ok (.iload_n 1, 1) := by decide +kernel
theorem dX7_hallsMeeting_35 : decode cX7_hallsMeeting 35 = .ok (.invokevirtual 128, 3) := by decide +kernel
theorem dX7_hallsMeeting_38 : decode cX7_hallsMeeting 38 = .ok (.ifCond .eq 7, 3) := by decide +kernel
theorem dX7_hallsMeeting_41 : decode cX7_hallsMeeting 41 = .ok (.iconst 1, 1) := by decide +kernel
theorem dX7_hallsMeeting_42 : decode cX7_hallsMeeting 42 = .ok (.goto 4, 3) := by decide +kernel
theorem dX7_hallsMeeting_45 : decode cX7_hallsMeeting 45 = .ok (.iconst 0, 1) := by decide +kernel
theorem dX7_hallsMeeting_46 : decode cX7_hallsMeeting 46 = .ok (.iadd, 1) := by decide +kernel
theorem dX7_hallsMeeting_47 : decode cX7_hallsMeeting 47 = .ok (.istore_n 2, 1) := by decide +kernel
theorem dX7_hallsMeeting_48 : decode cX7_hallsMeeting 48 = .ok (.iinc 3 1, 3) := by decide +kernel
theorem dX7_hallsMeeting_51 : decode cX7_hallsMeeting 51 = .ok (.goto (-28), 3) := by decide +kernel
theorem dX7_hallsMeeting_54 : decode cX7_hallsMeeting 54 = .ok (.iload_n 2, 1) := by decide +kernel
theorem dX7_hallsMeeting_55 : decode cX7_hallsMeeting 55 = .ok (.ireturn, 1) := by decide +kernel
theorem dX7_isCertified_0 : decode cX7_isCertified 0 = .ok (.aload_n 0, 1) := by decide +kernel
theorem dX7_isCertified_1 : decode cX7_isCertified 1 = .ok (.iconst 0, 1) := by decide +kernel
theorem dX7_isCertified_2 : decode cX7_isCertified 2 = .ok (.putfield 43, 3) := by decide +kernel
theorem dX7_isCertified_5 : decode cX7_isCertified 5 = .ok (.aload_n 0, 1) := by decide +kernel
theorem dX7_isCertified_6 : decode cX7_isCertified 6 = .ok (.iload_n 1, 1) := by decide +kernel
theorem dX7_isCertified_7 : decode cX7_isCertified 7 = .ok (.invokevirtual 57, 3) := by decide +kernel
theorem dX7_isCertified_10 : decode cX7_isCertified 10 = .ok (.ifCond .eq 21, 3) := by decide +kernel
theorem dX7_isCertified_13 : decode cX7_isCertified 13 = .ok (.aload_n 0, 1) := by decide +kernel
theorem dX7_isCertified_14 : decode cX7_isCertified 14 = .ok (.getfield 19, 3) := by decide +kernel
theorem dX7_isCertified_17 : decode cX7_isCertified 17 = .ok (.iload_n 1, 1) := by decide +kernel
theorem dX7_isCertified_18 : decode cX7_isCertified 18 = .ok (.iaload, 1) := by decide +kernel
theorem dX7_isCertified_19 : decode cX7_isCertified 19 = .ok (.iconst (-1), 1) := by decide +kernel
theorem dX7_isCertified_20 : decode cX7_isCertified 20 = .ok (.if_icmp .eq 7, 3) := by decide +kernel
theorem dX7_isCertified_23 : decode cX7_isCertified 23 = .ok (.iconst 1, 1) := by decide +kernel
theorem dX7_isCertified_24 : decode cX7_isCertified 24 = .ok (.goto 12, 3) := by decide +kernel
theorem dX7_isCertified_27 : decode cX7_isCertified 27 = .ok (.iconst 0, 1) := by decide +kernel
theorem dX7_isCertified_28 : decode cX7_isCertified 28 = .ok (.goto 8, 3) := by decide +kernel
theorem dX7_isCertified_31 : decode cX7_isCertified 31 = .ok (.aload_n 0, 1) := by decide +kernel
theorem dX7_isCertified_32 : decode cX7_isCertified 32 = .ok (.iconst 1, 1) := by decide +kernel
theorem dX7_isCertified_33 : decode cX7_isCertified 33 = .ok (.invokevirtual 151, 3) := by decide +kernel
theorem dX7_isCertified_36 : decode cX7_isCertified 36 = .ok (.ireturn, 1) := by decide +kernel
theorem dX7_certifiedBy_0 : decode cX7_certifiedBy 0 = .ok (.aload_n 0, 1) := by decide +kernel
theorem dX7_certifiedBy_1 : decode cX7_certifiedBy 1 = .ok (.iconst 0, 1) := by decide +kernel
theorem dX7_certifiedBy_2 : decode cX7_certifiedBy 2 = .ok (.putfield 43, 3) := by decide +kernel
theorem dX7_certifiedBy_5 : decode cX7_certifiedBy 5 = .ok (.aload_n 0, 1) := by decide +kernel
theorem dX7_certifiedBy_6 : decode cX7_certifiedBy 6 = .ok (.iload_n 1, 1) := by decide +kernel
theorem dX7_certifiedBy_7 : decode cX7_certifiedBy 7 = .ok (.invokevirtual 57, 3) := by decide +kernel
theorem dX7_certifiedBy_10 : decode cX7_certifiedBy 10 = .ok (.ifCond .ne 9, 3) := by decide +kernel
theorem dX7_certifiedBy_13 : decode cX7_certifiedBy 13 = .ok (.aload_n 0, 1) := by decide +kernel
theorem dX7_certifiedBy_14 : decode cX7_certifiedBy 14 = .ok (.iconst 1, 1) := by decide +kernel
theorem dX7_certifiedBy_15 : decode cX7_certifiedBy 15 = .ok (.invokevirtual 102, 3) := by decide +kernel
theorem dX7_certifiedBy_18 : decode cX7_certifiedBy 18 = .ok (.ireturn, 1) := by decide +kernel
theorem dX7_certifiedBy_19 : decode cX7_certifiedBy 19 = .ok (.aload_n 0, 1) := by decide +kernel
theorem dX7_certifiedBy_20 : decode cX7_certifiedBy 20 = .ok (.getfield 19, 3) := by decide +kernel
theorem dX7_certifiedBy_23 : decode cX7_certifiedBy 23 = .ok (.iload_n 1, 1) := by decide +kernel
theorem dX7_certifiedBy_24 : decode cX7_certifiedBy 24 = .ok (.iaload, 1) := by decide +kernel
theorem dX7_certifiedBy_25 : decode cX7_certifiedBy 25 = .ok (.iconst (-1), 1) := by decide +kernel
theorem dX7_certifiedBy_26 : decode cX7_certifiedBy 26 = .ok (.if_icmp .ne 11, 3) := by decide +kernel
theorem dX7_certifiedBy_29 : decode cX7_certifiedBy 29 = .ok (.aload_n 0, 1) := by decide +kernel
theorem dX7_certifiedBy_30 : decode cX7_certifiedBy 30 = .ok (.iconst 2, 1) := by decide +kernel
theorem dX7_certifiedBy_31 : decode cX7_certifiedBy 31 = .ok (.invokevirtual 102, 3) := by decide +kernel
theorem dX7_certifiedBy_34 : decode cX7_certifiedBy 34 = .ok (.goto 9, 3) := by decide +kernel
theorem dX7_certifiedBy_37 : decode cX7_certifiedBy 37 = .ok (.aload_n 0, 1) := by decide +kernel
theorem dX7_certifiedBy_38 : decode cX7_certifiedBy 38 = .ok (.getfield 19, 3) := by decide +kernel
theorem dX7_certifiedBy_41 : decode cX7_certifiedBy 41 = .ok (.iload_n 1, 1) := by decide +kernel
theorem dX7_certifiedBy_42 : decode cX7_certifiedBy 42 = .ok (.iaload, 1) := by decide +kernel
theorem dX7_certifiedBy_43 : decode cX7_certifiedBy 43 = .ok (.ireturn, 1) := by decide +kernel
theorem dX7_daysLeft_0 : decode cX7_daysLeft 0 = .ok (.aload_n 0, 1) := by decide +kernel
theorem dX7_daysLeft_1 : decode cX7_daysLeft 1 = .ok (.iconst 0, 1) := by decide +kernel
theorem dX7_daysLeft_2 : decode cX7_daysLeft 2 = .ok (.putfield 43, 3) := by decide +kernel
theorem dX7_daysLeft_5 : decode cX7_daysLeft 5 = .ok (.aload_n 0, 1) := by decide +kernel
theorem dX7_daysLeft_6 : decode cX7_daysLeft 6 = .ok (.iload_n 1, 1) := by decide +kernel
theorem dX7_daysLeft_7 : decode cX7_daysLeft 7 = .ok (.invokevirtual 57, 3) := by decide +kernel
theorem dX7_daysLeft_10 : decode cX7_daysLeft 10 = .ok (.ifCond .eq 12, 3) := by decide +kernel
theorem dX7_daysLeft_13 : decode cX7_daysLeft 13 = .ok (.aload_n 0, 1) := by decide +kernel
theorem dX7_daysLeft_14 : decode cX7_daysLeft 14 = .ok (.getfield 22, 3) := by decide +kernel
theorem dX7_daysLeft_17 : decode cX7_daysLeft 17 = .ok (.iload_n 1, 1) := by decide +kernel
theorem dX7_daysLeft_18 : decode cX7_daysLeft 18 = .ok (.iaload, 1) := by decide +kernel
theorem dX7_daysLeft_19 : decode cX7_daysLeft 19 = .ok (.goto 8, 3) := by decide +kernel
theorem dX7_daysLeft_22 : decode cX7_daysLeft 22 = .ok (.aload_n 0, 1) := by decide +kernel
theorem dX7_daysLeft_23 : decode cX7_daysLeft 23 = .ok (.iconst 1, 1) := by decide +kernel
theorem dX7_daysLeft_24 : decode cX7_daysLeft 24 = .ok (.invokevirtual 102, 3) := by decide +kernel
theorem dX7_daysLeft_27 : decode cX7_daysLeft 27 = .ok (.ireturn, 1) := by decide +kernel
theorem dX7_halls_0 : decode cX7_halls 0 = .ok (.aload_n 0, 1) := by decide +kernel
theorem dX7_halls_1 : decode cX7_halls 1 = .ok (.iconst 0, 1) := by decide +kernel
theorem dX7_halls_2 : decode cX7_halls 2 = .ok (.putfield 43, 3) := by decide +kernel
theorem dX7_halls_5 : decode cX7_halls 5 = .ok (.aload_n 0, 1) := by decide +kernel
theorem dX7_halls_6 : decode cX7_halls 6 = .ok (.getfield 47, 3) := by decide +kernel
theorem dX7_halls_9 : decode cX7_halls 9 = .ok (.ireturn, 1) := by decide +kernel
theorem dX7_standards_0 : decode cX7_standards 0 = .ok (.aload_n 0, 1) := by decide +kernel
theorem dX7_standards_1 : decode cX7_standards 1 = .ok (.iconst 0, 1) := by decide +kernel
theorem dX7_standards_2 : decode cX7_standards 2 = .ok (.putfield 43, 3) := by decide +kernel
theorem dX7_standards_5 : decode cX7_standards 5 = .ok (.aload_n 0, 1) := by decide +kernel
theorem dX7_standards_6 : decode cX7_standards 6 = .ok (.getfield 54, 3) := by decide +kernel
theorem dX7_standards_9 : decode cX7_standards 9 = .ok (.ireturn, 1) := by decide +kernel
theorem dX7_day_0 : decode cX7_day 0 = .ok (.aload_n 0, 1) := by decide +kernel
theorem dX7_day_1 : decode cX7_day 1 = .ok (.iconst 0, 1) := by decide +kernel
theorem dX7_day_2 : decode cX7_day 2 = .ok (.putfield 43, 3) := by decide +kernel
theorem dX7_day_5 : decode cX7_day 5 = .ok (.aload_n 0, 1) := by decide +kernel
theorem dX7_day_6 : decode cX7_day 6 = .ok (.getfield 134, 3) := by decide +kernel
theorem dX7_day_9 : decode cX7_day 9 = .ok (.ireturn, 1) := by decide +kernel
theorem dX7_inspections_0 : decode cX7_inspections 0 = .ok (.aload_n 0, 1) := by decide +kernel
theorem dX7_inspections_1 : decode cX7_inspections 1 = .ok (.iconst 0, 1) := by decide +kernel
theorem dX7_inspections_2 : decode cX7_inspections 2 = .ok (.putfield 43, 3) := by decide +kernel
theorem dX7_inspections_5 : decode cX7_inspections 5 = .ok (.aload_n 0, 1) := by decide +kernel
theorem dX7_inspections_6 : decode cX7_inspections 6 = .ok (.getfield 125, 3) := by decide +kernel
theorem dX7_inspections_9 : decode cX7_inspections 9 = .ok (.ireturn, 1) := by decide +kernel
theorem dX7_certifiedHalls_0 : decode cX7_certifiedHalls 0 = .ok (.aload_n 0, 1) := by decide +kernel
theorem dX7_certifiedHalls_1 : decode cX7_certifiedHalls 1 = .ok (.iconst 0, 1) := by decide +kernel
theorem dX7_certifiedHalls_2 : decode cX7_certifiedHalls 2 = .ok (.putfield 43, 3) := by decide +kernel
theorem dX7_certifiedHalls_5 : decode cX7_certifiedHalls 5 = .ok (.aload_n 0, 1) := by decide +kernel
theorem dX7_certifiedHalls_6 : decode cX7_certifiedHalls 6 = .ok (.invokevirtual 137, 3) := by decide +kernel
theorem dX7_certifiedHalls_9 : decode cX7_certifiedHalls 9 = .ok (.ireturn, 1) := by decide +kernel
theorem dX7_meetsWithDamping_0 : decode cX7_meetsWithDamping 0 = .ok (.aload_n 0, 1) := by decide +kernel
theorem dX7_meetsWithDamping_1 : decode cX7_meetsWithDamping 1 = .ok (.iload_n 1, 1) := by decide +kernel
theorem dX7_meetsWithDamping_2 : decode cX7_meetsWithDamping 2 = .ok (.iload_n 2, 1) := by decide +kernel
theorem dX7_meetsWithDamping_3 : decode cX7_meetsWithDamping 3 = .ok (.invokevirtual 122, 3) := by decide +kernel
theorem dX7_meetsWithDamping_6 : decode cX7_meetsWithDamping 6 = .ok (.ifCond .ne 5, 3) := by decide +kernel
theorem dX7_meetsWithDamping_9 : decode cX7_meetsWithDamping 9 = .ok (.iconst 0, 1) := by decide +kernel
theorem dX7_meetsWithDamping_10 : decode cX7_meetsWithDamping 10 = .ok (.ireturn, 1) := by decide +kernel
theorem dX7_meetsWithDamping_11 : decode cX7_meetsWithDamping 11 = .ok (.iload_n 3, 1) := by decide +kernel
theorem dX7_meetsWithDamping_12 : decode cX7_meetsWithDamping 12 = .ok (.iconst 0, 1) := by decide +kernel
theorem dX7_meetsWithDamping_13 : decode cX7_meetsWithDamping 13 = .ok (.bipush 90, 2) := by decide +kernel
theorem dX7_meetsWithDamping_15 : decode cX7_meetsWithDamping 15 = .ok (.invokestatic 50, 3) := by decide +kernel
theorem dX7_meetsWithDamping_18 : decode cX7_meetsWithDamping 18 = .ok (.ifCond .eq 19, 3) := by decide +kernel
theorem dX7_meetsWithDamping_21 : decode cX7_meetsWithDamping 21 = .ok (.aload_n 0, 1) := by decide +kernel
theorem dX7_meetsWithDamping_22 : decode cX7_meetsWithDamping 22 = .ok (.iload_n 1, 1) := by decide +kernel
theorem dX7_meetsWithDamping_23 : decode cX7_meetsWithDamping 23 = .ok (.iload_n 2, 1) := by decide +kernel
theorem dX7_meetsWithDamping_24 : decode cX7_meetsWithDamping 24 = .ok (.iload_n 3, 1) := by decide +kernel
theorem dX7_meetsWithDamping_25 : decode cX7_meetsWithDamping 25 = .ok (.aload_n 0, 1) := by decide +kernel
theorem dX7_meetsWithDamping_26 : decode cX7_meetsWithDamping 26 = .ok (.getfield 16, 3) := by decide +kernel
theorem dX7_meetsWithDamping_29 : decode cX7_meetsWithDamping 29 = .ok (.iload_n 1, 1) := by decide +kernel
theorem dX7_meetsWithDamping_30 : decode cX7_meetsWithDamping 30 = .ok (.iaload, 1) := by decide +kernel
theorem dX7_meetsWithDamping_31 : decode cX7_meetsWithDamping 31 = .ok (.invokevirtual 98, 3) := by decide +kernel
theorem dX7_meetsWithDamping_34 : decode cX7_meetsWithDamping 34 = .ok (.goto 8, 3) := by decide +kernel
theorem dX7_meetsWithDamping_37 : decode cX7_meetsWithDamping 37 = .ok (.aload_n 0, 1) := by decide +kernel
theorem dX7_meetsWithDamping_38 : decode cX7_meetsWithDamping 38 = .ok (.iconst 2, 1) := by decide +kernel
theorem dX7_meetsWithDamping_39 : decode cX7_meetsWithDamping 39 = .ok (.invokevirtual 151, 3) := by decide +kernel
theorem dX7_meetsWithDamping_42 : decode cX7_meetsWithDamping 42 = .ok (.ireturn, 1) := by decide +kernel
theorem dX7_least_0 : decode cX7_least 0 = .ok (.iconst 0, 1) := by decide +kernel
theorem dX7_least_1 : decode cX7_least 1 = .ok (.istore_n 3, 1) := by decide +kernel
theorem dX7_least_2 : decode cX7_least 2 = .ok (.iload_n 3, 1) := by decide +kernel
theorem dX7_least_3 : decode cX7_least 3 = .ok (.bipush 90, 2) := by decide +kernel
theorem dX7_least_5 : decode cX7_least 5 = .ok (.if_icmp .gt 27, 3) := by decide +kernel
theorem dX7_least_8 : decode cX7_least 8 = .ok (.aload_n 0, 1) := by decide +kernel
theorem dX7_least_9 : decode cX7_least 9 = .ok (.iload_n 1, 1) := by decide +kernel
theorem dX7_least_10 : decode cX7_least 10 = .ok (.iload_n 2, 1) := by decide +kernel
theorem dX7_least_11 : decode cX7_least 11 = .ok (.iload_n 3, 1) := by decide +kernel
theorem dX7_least_12 : decode cX7_least 12 = .ok (.aload_n 0, 1) := by decide +kernel
theorem dX7_least_13 : decode cX7_least 13 = .ok (.getfield 16, 3) := by decide +kernel
theorem dX7_least_16 : decode cX7_least 16 = .ok (.iload_n 1, 1) := by decide +kernel
theorem dX7_least_17 : decode cX7_least 17 = .ok (.iaload, 1) := by decide +kernel
theorem dX7_least_18 : decode cX7_least 18 = .ok (.invokevirtual 98, 3) := by decide +kernel
theorem dX7_least_21 : decode cX7_least 21 = .ok (.ifCond .eq 5, 3) := by decide +kernel
theorem dX7_least_24 : decode cX7_least 24 = .ok (.iload_n 3, 1) := by decide +kernel
theorem dX7_least_25 : decode cX7_least 25 = .ok (.ireturn, 1) := by decide +kernel
theorem dX7_least_26 : decode cX7_least 26 = .ok (.iinc 3 1, 3) := by decide +kernel
theorem dX7_least_29 : decode cX7_least 29 = .ok (.goto (-27), 3) := by decide +kernel
theorem dX7_least_32 : decode cX7_least 32 = .ok (.iconst (-1), 1) := by decide +kernel
theorem dX7_least_33 : decode cX7_least 33 = .ok (.ireturn, 1) := by decide +kernel
theorem dX7_leastDamping_0 : decode cX7_leastDamping 0 = .ok (.aload_n 0, 1) := by decide +kernel
theorem dX7_leastDamping_1 : decode cX7_leastDamping 1 = .ok (.iload_n 1, 1) := by decide +kernel
theorem dX7_leastDamping_2 : decode cX7_leastDamping 2 = .ok (.iload_n 2, 1) := by decide +kernel
theorem dX7_leastDamping_3 : decode cX7_leastDamping 3 = .ok (.invokevirtual 122, 3) := by decide +kernel
theorem dX7_leastDamping_6 : decode cX7_leastDamping 6 = .ok (.ifCond .eq 12, 3) := by decide +kernel
theorem dX7_leastDamping_9 : decode cX7_leastDamping 9 = .ok (.aload_n 0, 1) := by decide +kernel
theorem dX7_leastDamping_10 : decode cX7_leastDamping 10 = .ok (.iload_n 1, 1) := by decide +kernel
theorem dX7_leastDamping_11 : decode cX7_leastDamping 11 = .ok (.iload_n 2, 1) := by decide +kernel
theorem dX7_leastDamping_12 : decode cX7_leastDamping 12 = .ok (.invokevirtual 154, 3) := by decide +kernel
theorem dX7_leastDamping_15 : decode cX7_leastDamping 15 = .ok (.goto 4, 3) := by decide +kernel
theorem dX7_leastDamping_18 : decode cX7_leastDamping 18 = .ok (.iconst 0, 1) := by decide +kernel
theorem dX7_leastDamping_19 : decode cX7_leastDamping 19 = .ok (.ireturn, 1) := by decide +kernel
theorem dX7_daysUntilMet_0 : decode cX7_daysUntilMet 0 = .ok (.aload_n 0, 1) := by decide +kernel
theorem dX7_daysUntilMet_1 : decode cX7_daysUntilMet 1 = .ok (.iload_n 1, 1) := by decide +kernel
theorem dX7_daysUntilMet_2 : decode cX7_daysUntilMet 2 = .ok (.iload_n 2, 1) := by decide +kernel
theorem dX7_daysUntilMet_3 : decode cX7_daysUntilMet 3 = .ok (.invokevirtual 122, 3) := by decide +kernel
theorem dX7_daysUntilMet_6 : decode cX7_daysUntilMet 6 = .ok (.ifCond .ne 5, 3) := by decide +kernel
theorem dX7_daysUntilMet_9 : decode cX7_daysUntilMet 9 = .ok (.iconst 0, 1) := by decide +kernel
theorem dX7_daysUntilMet_10 : decode cX7_daysUntilMet 10 = .ok (.ireturn, 1) := by decide +kernel
theorem dX7_daysUntilMet_11 : decode cX7_daysUntilMet 11 = .ok (.iconst 0, 1) := by decide +kernel
theorem dX7_daysUntilMet_12 : decode cX7_daysUntilMet 12 = .ok (.istore_n 3, 1) := by decide +kernel
theorem dX7_daysUntilMet_13 : decode cX7_daysUntilMet 13 = .ok (.iload_n 3, 1) := by decide +kernel
theorem dX7_daysUntilMet_14 : decode cX7_daysUntilMet 14 = .ok (.bipush 100, 2) := by decide +kernel
theorem dX7_daysUntilMet_16 : decode cX7_daysUntilMet 16 = .ok (.if_icmp .gt 39, 3) := by decide +kernel
theorem dX7_daysUntilMet_19 : decode cX7_daysUntilMet 19 = .ok (.aload_n 0, 1) := by decide +kernel
theorem dX7_daysUntilMet_20 : decode cX7_daysUntilMet 20 = .ok (.iload_n 1, 1) := by decide +kernel
theorem dX7_daysUntilMet_21 : decode cX7_daysUntilMet 21 = .ok (.iload_n 2, 1) := by decide +kernel
theorem dX7_daysUntilMet_22 : decode cX7_daysUntilMet 22 = .ok (.aload_n 0, 1) := by decide +kernel
theorem dX7_daysUntilMet_23 : decode cX7_daysUntilMet 23 = .ok (.getfield 13, 3) := by decide +kernel
theorem dX7_daysUntilMet_26 : decode cX7_daysUntilMet 26 = .ok (.iload_n 1, 1) := by decide +kernel
theorem dX7_daysUntilMet_27 : decode cX7_daysUntilMet 27 = .ok (.iaload, 1) := by decide +kernel
theorem dX7_daysUntilMet_28 : decode cX7_daysUntilMet 28 = .ok (.bipush 100, 2) := by decide +kernel
theorem dX7_daysUntilMet_30 : decode cX7_daysUntilMet 30 = .ok (.aload_n 0, 1) := by decide +kernel
theorem dX7_daysUntilMet_31 : decode cX7_daysUntilMet 31 = .ok (.getfield 16, 3) := by decide +kernel
theorem dX7_daysUntilMet_34 : decode cX7_daysUntilMet 34 = .ok (.iload_n 1, 1) := by decide +kernel
theorem dX7_daysUntilMet_35 : decode cX7_daysUntilMet 35 = .ok (.iaload, 1) := by decide +kernel
theorem dX7_daysUntilMet_36 : decode cX7_daysUntilMet 36 = .ok (.iload_n 3, 1) := by decide +kernel
theorem dX7_daysUntilMet_37 : decode cX7_daysUntilMet 37 = .ok (.iadd, 1) := by decide +kernel
theorem dX7_daysUntilMet_38 : decode cX7_daysUntilMet 38 = .ok (.invokestatic 131, 3) := by decide +kernel
theorem dX7_daysUntilMet_41 : decode cX7_daysUntilMet 41 = .ok (.invokevirtual 98, 3) := by decide +kernel
theorem dX7_daysUntilMet_44 : decode cX7_daysUntilMet 44 = .ok (.ifCond .eq 5, 3) := by decide +kernel
theorem dX7_daysUntilMet_47 : decode cX7_daysUntilMet 47 = .ok (.iload_n 3, 1) := by decide +kernel
theorem dX7_daysUntilMet_48 : decode cX7_daysUntilMet 48 = .ok (.ireturn, 1) := by decide +kernel
theorem dX7_daysUntilMet_49 : decode cX7_daysUntilMet 49 = .ok (.iinc 3 1, 3) := by decide +kernel
theorem dX7_daysUntilMet_52 : decode cX7_daysUntilMet 52 = .ok (.goto (-39), 3) := by decide +kernel
theorem dX7_daysUntilMet_55 : decode cX7_daysUntilMet 55 = .ok (.iconst (-1), 1) := by decide +kernel
theorem dX7_daysUntilMet_56 : decode cX7_daysUntilMet 56 = .ok (.ireturn, 1) := by decide +kernel
theorem dX7_easiestHall_0 : decode cX7_easiestHall 0 = .ok (.aload_n 0, 1) := by decide +kernel
theorem dX7_easiestHall_1 : decode cX7_easiestHall 1 = .ok (.iconst 0, 1) := by decide +kernel
theorem dX7_easiestHall_2 : decode cX7_easiestHall 2 = .ok (.putfield 43, 3) := by decide +kernel
theorem dX7_easiestHall_5 : decode cX7_easiestHall 5 = .ok (.aload_n 0, 1) := by decide +kernel
theorem dX7_easiestHall_6 : decode cX7_easiestHall 6 = .ok (.iload_n 1, 1) := by decide +kernel
theorem dX7_easiestHall_7 : decode cX7_easiestHall 7 = .ok (.invokevirtual 119, 3) := by decide +kernel
theorem dX7_easiestHall_10 : decode cX7_easiestHall 10 = .ok (.ifCond .ne 9, 3) := by decide +kernel
theorem dX7_easiestHall_13 : decode cX7_easiestHall 13 = .ok (.aload_n 0, 1) := by decide +kernel
theorem dX7_easiestHall_14 : decode cX7_easiestHall 14 = .ok (.iconst 1, 1) := by decide +kernel
theorem dX7_easiestHall_15 : decode cX7_easiestHall 15 = .ok (.invokevirtual 102, 3) := by decide +kernel
theorem dX7_easiestHall_18 : decode cX7_easiestHall 18 = .ok (.ireturn, 1) := by decide +kernel
theorem dX7_easiestHall_19 : decode cX7_easiestHall 19 = .ok (.iconst (-1), 1) := by decide +kernel
theorem dX7_easiestHall_20 : decode cX7_easiestHall 20 = .ok (.istore_n 2, 1) := by decide +kernel
theorem dX7_easiestHall_21 : decode cX7_easiestHall 21 = .ok (.bipush 91, 2) := by decide +kernel
theorem dX7_easiestHall_23 : decode cX7_easiestHall 23 = .ok (.istore_n 3, 1) := by decide +kernel
theorem dX7_easiestHall_24 : decode cX7_easiestHall 24 = .ok (.iconst 0, 1) := by decide +kernel
theorem dX7_easiestHall_25 : decode cX7_easiestHall 25 = .ok (.istore 4, 2) := by decide +kernel
theorem dX7_easiestHall_27 : decode cX7_easiestHall 27 = .ok (.iload 4, 2) := by decide +kernel
theorem dX7_easiestHall_29 : decode cX7_easiestHall 29 = .ok (.aload_n 0, 1) := by decide +kernel
theorem dX7_easiestHall_30 : decode cX7_easiestHall 30 = .ok (.getfield 47, 3) := by decide +kernel
theorem dX7_easiestHall_33 : decode cX7_easiestHall 33 = .ok (.if_icmp .ge 39, 3) := by decide +kernel
theorem dX7_easiestHall_36 : decode cX7_easiestHall 36 = .ok (.aload_n 0, 1) := by decide +kernel
theorem dX7_easiestHall_37 : decode cX7_easiestHall 37 = .ok (.iload 4, 2) := by decide +kernel
theorem dX7_easiestHall_39 : decode cX7_easiestHall 39 = .ok (.iload_n 1, 1) := by decide +kernel
theorem dX7_easiestHall_40 : decode cX7_easiestHall 40 = .ok (.invokevirtual 154, 3) := by decide +kernel
theorem dX7_easiestHall_43 : decode cX7_easiestHall 43 = .ok (.istore 5, 2) := by decide +kernel
theorem dX7_easiestHall_45 : decode cX7_easiestHall 45 = .ok (.iload 5, 2) := by decide +kernel
theorem dX7_easiestHall_47 : decode cX7_easiestHall 47 = .ok (.iconst (-1), 1) := by decide +kernel
theorem dX7_easiestHall_48 : decode cX7_easiestHall 48 = .ok (.if_icmp .eq 18, 3) := by decide +kernel
theorem dX7_easiestHall_51 : decode cX7_easiestHall 51 = .ok (.iload 5, 2) := by decide +kernel
theorem dX7_easiestHall_53 : decode cX7_easiestHall 53 = .ok (.iload_n 3, 1) := by decide +kernel
theorem dX7_easiestHall_54 : decode cX7_easiestHall 54 = .ok (.if_icmp .lt 6, 3) := by decide +kernel
theorem dX7_easiestHall_57 : decode cX7_easiestHall 57 = .ok (.goto 9, 3) := by decide +kernel
theorem dX7_easiestHall_60 : decode cX7_easiestHall 60 = .ok (.iload 4, 2) := by decide +kernel
theorem dX7_easiestHall_62 : decode cX7_easiestHall 62 = .ok (.istore_n 2, 1) := by decide +kernel
theorem dX7_easiestHall_63 : decode cX7_easiestHall 63 = .ok (.iload 5, 2) := by decide +kernel
theorem dX7_easiestHall_65 : decode cX7_easiestHall 65 = .ok (.istore_n 3, 1) := by decide +kernel
theorem dX7_easiestHall_66 : decode cX7_easiestHall 66 = .ok (.iinc 4 1, 3) := by decide +kernel
theorem dX7_easiestHall_69 : decode cX7_easiestHall 69 = .ok (.goto (-42), 3) := by decide +kernel
theorem dX7_easiestHall_72 : decode cX7_easiestHall 72 = .ok (.iload_n 2, 1) := by decide +kernel
theorem dX7_easiestHall_73 : decode cX7_easiestHall 73 = .ok (.ireturn, 1) := by decide +kernel
theorem dX7_meanDamping_0 : decode cX7_meanDamping 0 = .ok (.aload_n 0, 1) := by decide +kernel
theorem dX7_meanDamping_1 : decode cX7_meanDamping 1 = .ok (.iconst 0, 1) := by decide +kernel
theorem dX7_meanDamping_2 : decode cX7_meanDamping 2 = .ok (.putfield 43, 3) := by decide +kernel
theorem dX7_meanDamping_5 : decode cX7_meanDamping 5 = .ok (.iconst 0, 1) := by decide +kernel
theorem dX7_meanDamping_6 : decode cX7_meanDamping 6 = .ok (.istore_n 1, 1) := by decide +kernel
theorem dX7_meanDamping_7 : decode cX7_meanDamping 7 = .ok (.iconst 0, 1) := by decide +kernel
theorem dX7_meanDamping_8 : decode cX7_meanDamping 8 = .ok (.istore_n 2, 1) := by decide +kernel
theorem dX7_meanDamping_9 : decode cX7_meanDamping 9 = .ok (.iload_n 2, 1) := by decide +kernel
theorem dX7_meanDamping_10 : decode cX7_meanDamping 10 = .ok (.aload_n 0, 1) := by decide +kernel
theorem dX7_meanDamping_11 : decode cX7_meanDamping 11 = .ok (.getfield 47, 3) := by decide +kernel
theorem dX7_meanDamping_14 : decode cX7_meanDamping 14 = .ok (.if_icmp .ge 18, 3) := by decide +kernel
theorem dX7_meanDamping_17 : decode cX7_meanDamping 17 = .ok (.iload_n 1, 1) := by decide +kernel
theorem dX7_meanDamping_18 : decode cX7_meanDamping 18 = .ok (.aload_n 0, 1) := by decide +kernel
theorem dX7_meanDamping_19 : decode cX7_meanDamping 19 = .ok (.getfield 13, 3) := by decide +kernel
theorem dX7_meanDamping_22 : decode cX7_meanDamping 22 = .ok (.iload_n 2, 1) := by decide +kernel
theorem dX7_meanDamping_23 : decode cX7_meanDamping 23 = .ok (.iaload, 1) := by decide +kernel
theorem dX7_meanDamping_24 : decode cX7_meanDamping 24 = .ok (.iadd, 1) := by decide +kernel
theorem dX7_meanDamping_25 : decode cX7_meanDamping 25 = .ok (.istore_n 1, 1) := by decide +kernel
theorem dX7_meanDamping_26 : decode cX7_meanDamping 26 = .ok (.iinc 2 1, 3) := by decide +kernel
theorem dX7_meanDamping_29 : decode cX7_meanDamping 29 = .ok (.goto (-20), 3) := by decide +kernel
theorem dX7_meanDamping_32 : decode cX7_meanDamping 32 = .ok (.aload_n 0, 1) := by decide +kernel
theorem dX7_meanDamping_33 : decode cX7_meanDamping 33 = .ok (.getfield 47, 3) := by decide +kernel
theorem dX7_meanDamping_36 : decode cX7_meanDamping 36 = .ok (.ifCond .ne 7, 3) := by decide +kernel
theorem dX7_meanDamping_39 : decode cX7_meanDamping 39 = .ok (.dconst 0, 1) := by decide +kernel
theorem dX7_meanDamping_40 : decode cX7_meanDamping 40 = .ok (.goto 11, 3) := by decide +kernel
theorem dX7_meanDamping_43 : decode cX7_meanDamping 43 = .ok (.iload_n 1, 1) := by decide +kernel
theorem dX7_meanDamping_44 : decode cX7_meanDamping 44 = .ok (.i2d, 1) := by decide +kernel
theorem dX7_meanDamping_45 : decode cX7_meanDamping 45 = .ok (.aload_n 0, 1) := by decide +kernel
theorem dX7_meanDamping_46 : decode cX7_meanDamping 46 = .ok (.getfield 47, 3) := by decide +kernel
theorem dX7_meanDamping_49 : decode cX7_meanDamping 49 = .ok (.i2d, 1) := by decide +kernel
theorem dX7_meanDamping_50 : decode cX7_meanDamping 50 = .ok (.ddiv, 1) := by decide +kernel
theorem dX7_meanDamping_51 : decode cX7_meanDamping 51 = .ok (.dreturn, 1) := by decide +kernel
theorem dX7_digest_0 : decode cX7_digest 0 = .ok (.aload_n 0, 1) := by decide +kernel
theorem dX7_digest_1 : decode cX7_digest 1 = .ok (.iconst 0, 1) := by decide +kernel
theorem dX7_digest_2 : decode cX7_digest 2 = .ok (.putfield 43, 3) := by decide +kernel
theorem dX7_digest_5 : decode cX7_digest 5 = .ok (.iconst 5, 1) := by decide +kernel
theorem dX7_digest_6 : decode cX7_digest 6 = .ok (.newarray .int, 2) := by decide +kernel
theorem dX7_digest_8 : decode cX7_digest 8 = .ok (.dup, 1) := by decide +kernel
theorem dX7_digest_9 : decode cX7_digest 9 = .ok (.iconst 0, 1) := by decide +kernel
theorem dX7_digest_10 : decode cX7_digest 10 = .ok (.aload_n 0, 1) := by decide +kernel
theorem dX7_digest_11 : decode cX7_digest 11 = .ok (.getfield 47, 3) := by decide +kernel
theorem dX7_digest_14 : decode cX7_digest 14 = .ok (.iastore, 1) := by decide +kernel
theorem dX7_digest_15 : decode cX7_digest 15 = .ok (.dup, 1) := by decide +kernel
theorem dX7_digest_16 : decode cX7_digest 16 = .ok (.iconst 1, 1) := by decide +kernel
theorem dX7_digest_17 : decode cX7_digest 17 = .ok (.aload_n 0, 1) := by decide +kernel
theorem dX7_digest_18 : decode cX7_digest 18 = .ok (.getfield 54, 3) := by decide +kernel
theorem dX7_digest_21 : decode cX7_digest 21 = .ok (.iastore, 1) := by decide +kernel
theorem dX7_digest_22 : decode cX7_digest 22 = .ok (.dup, 1) := by decide +kernel
theorem dX7_digest_23 : decode cX7_digest 23 = .ok (.iconst 2, 1) := by decide +kernel
theorem dX7_digest_24 : decode cX7_digest 24 = .ok (.aload_n 0, 1) := by decide +kernel
theorem dX7_digest_25 : decode cX7_digest 25 = .ok (.getfield 134, 3) := by decide +kernel
theorem dX7_digest_28 : decode cX7_digest 28 = .ok (.iastore, 1) := by decide +kernel
theorem dX7_digest_29 : decode cX7_digest 29 = .ok (.dup, 1) := by decide +kernel
theorem dX7_digest_30 : decode cX7_digest 30 = .ok (.iconst 3, 1) := by decide +kernel
theorem dX7_digest_31 : decode cX7_digest 31 = .ok (.aload_n 0, 1) := by decide +kernel
theorem dX7_digest_32 : decode cX7_digest 32 = .ok (.getfield 125, 3) := by decide +kernel
theorem dX7_digest_35 : decode cX7_digest 35 = .ok (.iastore, 1) := by decide +kernel
theorem dX7_digest_36 : decode cX7_digest 36 = .ok (.dup, 1) := by decide +kernel
theorem dX7_digest_37 : decode cX7_digest 37 = .ok (.iconst 4, 1) := by decide +kernel
theorem dX7_digest_38 : decode cX7_digest 38 = .ok (.aload_n 0, 1) := by decide +kernel
theorem dX7_digest_39 : decode cX7_digest 39 = .ok (.invokevirtual 137, 3) := by decide +kernel
theorem dX7_digest_42 : decode cX7_digest 42 = .ok (.iastore, 1) := by decide +kernel
theorem dX7_digest_43 : decode cX7_digest 43 = .ok (.astore_n 1, 1) := by decide +kernel
theorem dX7_digest_44 : decode cX7_digest 44 = .ok (.ldc2_w 157, 3) := by decide +kernel
theorem dX7_digest_47 : decode cX7_digest 47 = .ok (.lstore_n 2, 1) := by decide +kernel
theorem dX7_digest_48 : decode cX7_digest 48 = .ok (.aload_n 1, 1) := by decide +kernel
theorem dX7_digest_49 : decode cX7_digest 49 = .ok (.astore 4, 2) := by decide +kernel
theorem dX7_digest_51 : decode cX7_digest 51 = .ok (.aload 4, 2) := by decide +kernel
theorem dX7_digest_53 : decode cX7_digest 53 = .ok (.arraylength, 1) := by decide +kernel
theorem dX7_digest_54 : decode cX7_digest 54 = .ok (.istore 5, 2) := by decide +kernel
theorem dX7_digest_56 : decode cX7_digest 56 = .ok (.iconst 0, 1) := by decide +kernel
theorem dX7_digest_57 : decode cX7_digest 57 = .ok (.istore 6, 2) := by decide +kernel
theorem dX7_digest_59 : decode cX7_digest 59 = .ok (.iload 6, 2) := by decide +kernel
theorem dX7_digest_61 : decode cX7_digest 61 = .ok (.iload 5, 2) := by decide +kernel
theorem dX7_digest_63 : decode cX7_digest 63 = .ok (.if_icmp .ge 26, 3) := by decide +kernel
theorem dX7_digest_66 : decode cX7_digest 66 = .ok (.aload 4, 2) := by decide +kernel
theorem dX7_digest_68 : decode cX7_digest 68 = .ok (.iload 6, 2) := by decide +kernel
theorem dX7_digest_70 : decode cX7_digest 70 = .ok (.iaload, 1) := by decide +kernel
theorem dX7_digest_71 : decode cX7_digest 71 = .ok (.istore 7, 2) := by decide +kernel
theorem dX7_digest_73 : decode cX7_digest 73 = .ok (.lload_n 2, 1) := by decide +kernel
theorem dX7_digest_74 : decode cX7_digest 74 = .ok (.ldc2_w 159, 3) := by decide +kernel
theorem dX7_digest_77 : decode cX7_digest 77 = .ok (.lmul, 1) := by decide +kernel
theorem dX7_digest_78 : decode cX7_digest 78 = .ok (.iload 7, 2) := by decide +kernel
theorem dX7_digest_80 : decode cX7_digest 80 = .ok (.i2l, 1) := by decide +kernel
theorem dX7_digest_81 : decode cX7_digest 81 = .ok (.ladd, 1) := by decide +kernel
theorem dX7_digest_82 : decode cX7_digest 82 = .ok (.lstore_n 2, 1) := by decide +kernel
theorem dX7_digest_83 : decode cX7_digest 83 = .ok (.iinc 6 1, 3) := by decide +kernel
theorem dX7_digest_86 : decode cX7_digest 86 = .ok (.goto (-27), 3) := by decide +kernel
theorem dX7_digest_89 : decode cX7_digest 89 = .ok (.iconst 0, 1) := by decide +kernel
theorem dX7_digest_90 : decode cX7_digest 90 = .ok (.istore 4, 2) := by decide +kernel
theorem dX7_digest_92 : decode cX7_digest 92 = .ok (.iload 4, 2) := by decide +kernel
theorem dX7_digest_94 : decode cX7_digest 94 = .ok (.aload_n 0, 1) := by decide +kernel
theorem dX7_digest_95 : decode cX7_digest 95 = .ok (.getfield 47, 3) := by decide +kernel
theorem dX7_digest_98 : decode cX7_digest 98 = .ok (.if_icmp .ge 171, 3) := by decide +kernel
theorem dX7_digest_101 : decode cX7_digest 101 = .ok (.iconst 5, 1) := by decide +kernel
theorem dX7_digest_102 : decode cX7_digest 102 = .ok (.newarray .int, 2) := by decide +kernel
theorem dX7_digest_104 : decode cX7_digest 104 = .ok (.dup, 1) := by decide +kernel
theorem dX7_digest_105 : decode cX7_digest 105 = .ok (.iconst 0, 1) := by decide +kernel
theorem dX7_digest_106 : decode cX7_digest 106 = .ok (.aload_n 0, 1) := by decide +kernel
theorem dX7_digest_107 : decode cX7_digest 107 = .ok (.getfield 9, 3) := by decide +kernel
theorem dX7_digest_110 : decode cX7_digest 110 = .ok (.iload 4, 2) := by decide +kernel
theorem dX7_digest_112 : decode cX7_digest 112 = .ok (.iaload, 1) := by decide +kernel
theorem dX7_digest_113 : decode cX7_digest 113 = .ok (.iastore, 1) := by decide +kernel
theorem dX7_digest_114 : decode cX7_digest 114 = .ok (.dup, 1) := by decide +kernel
theorem dX7_digest_115 : decode cX7_digest 115 = .ok (.iconst 1, 1) := by decide +kernel
theorem dX7_digest_116 : decode cX7_digest 116 = .ok (.aload_n 0, 1) := by decide +kernel
theorem dX7_digest_117 : decode cX7_digest 117 = .ok (.getfield 13, 3) := by decide +kernel
theorem dX7_digest_120 : decode cX7_digest 120 = .ok (.iload 4, 2) := by decide +kernel
theorem dX7_digest_122 : decode cX7_digest 122 = .ok (.iaload, 1) := by decide +kernel
theorem dX7_digest_123 : decode cX7_digest 123 = .ok (.iastore, 1) := by decide +kernel
theorem dX7_digest_124 : decode cX7_digest 124 = .ok (.dup, 1) := by decide +kernel
theorem dX7_digest_125 : decode cX7_digest 125 = .ok (.iconst 2, 1) := by decide +kernel
theorem dX7_digest_126 : decode cX7_digest 126 = .ok (.aload_n 0, 1) := by decide +kernel
theorem dX7_digest_127 : decode cX7_digest 127 = .ok (.getfield 16, 3) := by decide +kernel
theorem dX7_digest_130 : decode cX7_digest 130 = .ok (.iload 4, 2) := by decide +kernel
theorem dX7_digest_132 : decode cX7_digest 132 = .ok (.iaload, 1) := by decide +kernel
theorem dX7_digest_133 : decode cX7_digest 133 = .ok (.iastore, 1) := by decide +kernel
theorem dX7_digest_134 : decode cX7_digest 134 = .ok (.dup, 1) := by decide +kernel
theorem dX7_digest_135 : decode cX7_digest 135 = .ok (.iconst 3, 1) := by decide +kernel
theorem dX7_digest_136 : decode cX7_digest 136 = .ok (.aload_n 0, 1) := by decide +kernel
theorem dX7_digest_137 : decode cX7_digest 137 = .ok (.getfield 19, 3) := by decide +kernel
theorem dX7_digest_140 : decode cX7_digest 140 = .ok (.iload 4, 2) := by decide +kernel
theorem dX7_digest_142 : decode cX7_digest 142 = .ok (.iaload, 1) := by decide +kernel
theorem dX7_digest_143 : decode cX7_digest 143 = .ok (.iastore, 1) := by decide +kernel
theorem dX7_digest_144 : decode cX7_digest 144 = .ok (.dup, 1) := by decide +kernel
theorem dX7_digest_145 : decode cX7_digest 145 = .ok (.iconst 4, 1) := by decide +kernel
theorem dX7_digest_146 : decode cX7_digest 146 = .ok (.aload_n 0, 1) := by decide +kernel
theorem dX7_digest_147 : decode cX7_digest 147 = .ok (.getfield 22, 3) := by decide +kernel
theorem dX7_digest_150 : decode cX7_digest 150 = .ok (.iload 4, 2) := by decide +kernel
theorem dX7_digest_152 : decode cX7_digest 152 = .ok (.iaload, 1) := by decide +kernel
theorem dX7_digest_153 : decode cX7_digest 153 = .ok (.iastore, 1) := by decide +kernel
theorem dX7_digest_154 : decode cX7_digest 154 = .ok (.astore 5, 2) := by decide +kernel
theorem dX7_digest_156 : decode cX7_digest 156 = .ok (.aload 5, 2) := by decide +kernel
theorem dX7_digest_158 : decode cX7_digest 158 = .ok (.astore 6, 2) := by decide +kernel
theorem dX7_digest_160 : decode cX7_digest 160 = .ok (.aload 6, 2) := by decide +kernel
theorem dX7_digest_162 : decode cX7_digest 162 = .ok (.arraylength, 1) := by decide +kernel
theorem dX7_digest_163 : decode cX7_digest 163 = .ok (.istore 7, 2) := by decide +kernel
theorem dX7_digest_165 : decode cX7_digest 165 = .ok (.iconst 0, 1) := by decide +kernel
theorem dX7_digest_166 : decode cX7_digest 166 = .ok (.istore 8, 2) := by decide +kernel
theorem dX7_digest_168 : decode cX7_digest 168 = .ok (.iload 8, 2) := by decide +kernel
theorem dX7_digest_170 : decode cX7_digest 170 = .ok (.iload 7, 2) := by decide +kernel
theorem dX7_digest_172 : decode cX7_digest 172 = .ok (.if_icmp .ge 26, 3) := by decide +kernel
theorem dX7_digest_175 : decode cX7_digest 175 = .ok (.aload 6, 2) := by decide +kernel
theorem dX7_digest_177 : decode cX7_digest 177 = .ok (.iload 8, 2) := by decide +kernel
theorem dX7_digest_179 : decode cX7_digest 179 = .ok (.iaload, 1) := by decide +kernel
theorem dX7_digest_180 : decode cX7_digest 180 = .ok (.istore 9, 2) := by decide +kernel
theorem dX7_digest_182 : decode cX7_digest 182 = .ok (.lload_n 2, 1) := by decide +kernel
theorem dX7_digest_183 : decode cX7_digest 183 = .ok (.ldc2_w 159, 3) := by decide +kernel
theorem dX7_digest_186 : decode cX7_digest 186 = .ok (.lmul, 1) := by decide +kernel
theorem dX7_digest_187 : decode cX7_digest 187 = .ok (.iload 9, 2) := by decide +kernel
theorem dX7_digest_189 : decode cX7_digest 189 = .ok (.i2l, 1) := by decide +kernel
theorem dX7_digest_190 : decode cX7_digest 190 = .ok (.ladd, 1) := by decide +kernel
theorem dX7_digest_191 : decode cX7_digest 191 = .ok (.lstore_n 2, 1) := by decide +kernel
theorem dX7_digest_192 : decode cX7_digest 192 = .ok (.iinc 8 1, 3) := by decide +kernel
theorem dX7_digest_195 : decode cX7_digest 195 = .ok (.goto (-27), 3) := by decide +kernel
theorem dX7_digest_198 : decode cX7_digest 198 = .ok (.iconst 0, 1) := by decide +kernel
theorem dX7_digest_199 : decode cX7_digest 199 = .ok (.istore 6, 2) := by decide +kernel
theorem dX7_digest_201 : decode cX7_digest 201 = .ok (.iload 6, 2) := by decide +kernel
theorem dX7_digest_203 : decode cX7_digest 203 = .ok (.aload_n 0, 1) := by decide +kernel
theorem dX7_digest_204 : decode cX7_digest 204 = .ok (.getfield 9, 3) := by decide +kernel
theorem dX7_digest_207 : decode cX7_digest 207 = .ok (.iload 4, 2) := by decide +kernel
theorem dX7_digest_209 : decode cX7_digest 209 = .ok (.iaload, 1) := by decide +kernel
theorem dX7_digest_210 : decode cX7_digest 210 = .ok (.if_icmp .ge 53, 3) := by decide +kernel
theorem dX7_digest_213 : decode cX7_digest 213 = .ok (.lload_n 2, 1) := by decide +kernel
theorem dX7_digest_214 : decode cX7_digest 214 = .ok (.ldc2_w 159, 3) := by decide +kernel
theorem dX7_digest_217 : decode cX7_digest 217 = .ok (.lmul, 1) := by decide +kernel
theorem dX7_digest_218 : decode cX7_digest 218 = .ok (.aload_n 0, 1) := by decide +kernel
theorem dX7_digest_219 : decode cX7_digest 219 = .ok (.getfield 25, 3) := by decide +kernel
theorem dX7_digest_222 : decode cX7_digest 222 = .ok (.bipush 6, 2) := by decide +kernel
theorem dX7_digest_224 : decode cX7_digest 224 = .ok (.iload 4, 2) := by decide +kernel
theorem dX7_digest_226 : decode cX7_digest 226 = .ok (.imul, 1) := by decide +kernel
theorem dX7_digest_227 : decode cX7_digest 227 = .ok (.iload 6, 2) := by decide +kernel
theorem dX7_digest_229 : decode cX7_digest 229 = .ok (.iadd, 1) := by decide +kernel
theorem dX7_digest_230 : decode cX7_digest 230 = .ok (.iaload, 1) := by decide +kernel
theorem dX7_digest_231 : decode cX7_digest 231 = .ok (.i2l, 1) := by decide +kernel
theorem dX7_digest_232 : decode cX7_digest 232 = .ok (.ladd, 1) := by decide +kernel
theorem dX7_digest_233 : decode cX7_digest 233 = .ok (.lstore_n 2, 1) := by decide +kernel
theorem dX7_digest_234 : decode cX7_digest 234 = .ok (.lload_n 2, 1) := by decide +kernel
theorem dX7_digest_235 : decode cX7_digest 235 = .ok (.ldc2_w 159, 3) := by decide +kernel
theorem dX7_digest_238 : decode cX7_digest 238 = .ok (.lmul, 1) := by decide +kernel
theorem dX7_digest_239 : decode cX7_digest 239 = .ok (.aload_n 0, 1) := by decide +kernel
theorem dX7_digest_240 : decode cX7_digest 240 = .ok (.iload 4, 2) := by decide +kernel
theorem dX7_digest_242 : decode cX7_digest 242 = .ok (.iload 6, 2) := by decide +kernel
theorem dX7_digest_244 : decode cX7_digest 244 = .ok (.aload_n 0, 1) := by decide +kernel
theorem dX7_digest_245 : decode cX7_digest 245 = .ok (.getfield 16, 3) := by decide +kernel
theorem dX7_digest_248 : decode cX7_digest 248 = .ok (.iload 4, 2) := by decide +kernel
theorem dX7_digest_250 : decode cX7_digest 250 = .ok (.iaload, 1) := by decide +kernel
theorem dX7_digest_251 : decode cX7_digest 251 = .ok (.invokevirtual 70, 3) := by decide +kernel
theorem dX7_digest_254 : decode cX7_digest 254 = .ok (.i2l, 1) := by decide +kernel
theorem dX7_digest_255 : decode cX7_digest 255 = .ok (.ladd, 1) := by decide +kernel
theorem dX7_digest_256 : decode cX7_digest 256 = .ok (.lstore_n 2, 1) := by decide +kernel
theorem dX7_digest_257 : decode cX7_digest 257 = .ok (.iinc 6 1, 3) := by decide +kernel
theorem dX7_digest_260 : decode cX7_digest 260 = .ok (.goto (-59), 3) := by decide +kernel
theorem dX7_digest_263 : decode cX7_digest 263 = .ok (.iinc 4 1, 3) := by decide +kernel
theorem dX7_digest_266 : decode cX7_digest 266 = .ok (.goto (-174), 3) := by decide +kernel
theorem dX7_digest_269 : decode cX7_digest 269 = .ok (.iconst 0, 1) := by decide +kernel
theorem dX7_digest_270 : decode cX7_digest 270 = .ok (.istore 4, 2) := by decide +kernel
theorem dX7_digest_272 : decode cX7_digest 272 = .ok (.iload 4, 2) := by decide +kernel
theorem dX7_digest_274 : decode cX7_digest 274 = .ok (.aload_n 0, 1) := by decide +kernel
theorem dX7_digest_275 : decode cX7_digest 275 = .ok (.getfield 47, 3) := by decide +kernel
theorem dX7_digest_278 : decode cX7_digest 278 = .ok (.if_icmp .ge 135, 3) := by decide +kernel
theorem dX7_digest_281 : decode cX7_digest 281 = .ok (.aload_n 0, 1) := by decide +kernel
theorem dX7_digest_282 : decode cX7_digest 282 = .ok (.iload 4, 2) := by decide +kernel
theorem dX7_digest_284 : decode cX7_digest 284 = .ok (.sipush 1000, 3) := by decide +kernel
theorem dX7_digest_287 : decode cX7_digest 287 = .ok (.invokevirtual 140, 3) := by decide +kernel
theorem dX7_digest_290 : decode cX7_digest 290 = .ok (.iconst 4, 1) := by decide +kernel
theorem dX7_digest_291 : decode cX7_digest 291 = .ok (.newarray .int, 2) := by decide +kernel
theorem dX7_digest_293 : decode cX7_digest 293 = .ok (.dup, 1) := by decide +kernel
theorem dX7_digest_294 : decode cX7_digest 294 = .ok (.iconst 0, 1) := by decide +kernel
theorem dX7_digest_295 : decode cX7_digest 295 = .ok (.aload_n 0, 1) := by decide +kernel
theorem dX7_digest_296 : decode cX7_digest 296 = .ok (.invokevirtual 82, 3) := by decide +kernel
theorem dX7_digest_299 : decode cX7_digest 299 = .ok (.iastore, 1) := by decide +kernel
theorem dX7_digest_300 : decode cX7_digest 300 = .ok (.dup, 1) := by decide +kernel
theorem dX7_digest_301 : decode cX7_digest 301 = .ok (.iconst 1, 1) := by decide +kernel
theorem dX7_digest_302 : decode cX7_digest 302 = .ok (.aload_n 0, 1) := by decide +kernel
theorem dX7_digest_303 : decode cX7_digest 303 = .ok (.invokevirtual 86, 3) := by decide +kernel
theorem dX7_digest_306 : decode cX7_digest 306 = .ok (.iastore, 1) := by decide +kernel
theorem dX7_digest_307 : decode cX7_digest 307 = .ok (.dup, 1) := by decide +kernel
theorem dX7_digest_308 : decode cX7_digest 308 = .ok (.iconst 2, 1) := by decide +kernel
theorem dX7_digest_309 : decode cX7_digest 309 = .ok (.aload_n 0, 1) := by decide +kernel
theorem dX7_digest_310 : decode cX7_digest 310 = .ok (.invokevirtual 92, 3) := by decide +kernel
theorem dX7_digest_313 : decode cX7_digest 313 = .ok (.iastore, 1) := by decide +kernel
theorem dX7_digest_314 : decode cX7_digest 314 = .ok (.dup, 1) := by decide +kernel
theorem dX7_digest_315 : decode cX7_digest 315 = .ok (.iconst 3, 1) := by decide +kernel
theorem dX7_digest_316 : decode cX7_digest 316 = .ok (.aload_n 0, 1) := by decide +kernel
theorem dX7_digest_317 : decode cX7_digest 317 = .ok (.invokevirtual 148, 3) := by decide +kernel
theorem dX7_digest_320 : decode cX7_digest 320 = .ok (.iastore, 1) := by decide +kernel
theorem dX7_digest_321 : decode cX7_digest 321 = .ok (.astore 5, 2) := by decide +kernel
theorem dX7_digest_323 : decode cX7_digest 323 = .ok (.aload 5, 2) := by decide +kernel
theorem dX7_digest_325 : decode cX7_digest 325 = .ok (.astore 6, 2) := by decide +kernel
theorem dX7_digest_327 : decode cX7_digest 327 = .ok (.aload 6, 2) := by decide +kernel
theorem dX7_digest_329 : decode cX7_digest 329 = .ok (.arraylength, 1) := by decide +kernel
theorem dX7_digest_330 : decode cX7_digest 330 = .ok (.istore 7, 2) := by decide +kernel
theorem dX7_digest_332 : decode cX7_digest 332 = .ok (.iconst 0, 1) := by decide +kernel
theorem dX7_digest_333 : decode cX7_digest 333 = .ok (.istore 8, 2) := by decide +kernel
theorem dX7_digest_335 : decode cX7_digest 335 = .ok (.iload 8, 2) := by decide +kernel
theorem dX7_digest_337 : decode cX7_digest 337 = .ok (.iload 7, 2) := by decide +kernel
theorem dX7_digest_339 : decode cX7_digest 339 = .ok (.if_icmp .ge 26, 3) := by decide +kernel
theorem dX7_digest_342 : decode cX7_digest 342 = .ok (.aload 6, 2) := by decide +kernel
theorem dX7_digest_344 : decode cX7_digest 344 = .ok (.iload 8, 2) := by decide +kernel
theorem dX7_digest_346 : decode cX7_digest 346 = .ok (.iaload, 1) := by decide +kernel
theorem dX7_digest_347 : decode cX7_digest 347 = .ok (.istore 9, 2) := by decide +kernel
theorem dX7_digest_349 : decode cX7_digest 349 = .ok (.lload_n 2, 1) := by decide +kernel
theorem dX7_digest_350 : decode cX7_digest 350 = .ok (.ldc2_w 159, 3) := by decide +kernel
theorem dX7_digest_353 : decode cX7_digest 353 = .ok (.lmul, 1) := by decide +kernel
theorem dX7_digest_354 : decode cX7_digest 354 = .ok (.iload 9, 2) := by decide +kernel
theorem dX7_digest_356 : decode cX7_digest 356 = .ok (.i2l, 1) := by decide +kernel
theorem dX7_digest_357 : decode cX7_digest 357 = .ok (.ladd, 1) := by decide +kernel
theorem dX7_digest_358 : decode cX7_digest 358 = .ok (.lstore_n 2, 1) := by decide +kernel
theorem dX7_digest_359 : decode cX7_digest 359 = .ok (.iinc 8 1, 3) := by decide +kernel
theorem dX7_digest_362 : decode cX7_digest 362 = .ok (.goto (-27), 3) := by decide +kernel
theorem dX7_digest_365 : decode cX7_digest 365 = .ok (.iconst 0, 1) := by decide +kernel
theorem dX7_digest_366 : decode cX7_digest 366 = .ok (.istore 6, 2) := by decide +kernel
theorem dX7_digest_368 : decode cX7_digest 368 = .ok (.iload 6, 2) := by decide +kernel
theorem dX7_digest_370 : decode cX7_digest 370 = .ok (.aload_n 0, 1) := by decide +kernel
theorem dX7_digest_371 : decode cX7_digest 371 = .ok (.getfield 54, 3) := by decide +kernel
theorem dX7_digest_374 : decode cX7_digest 374 = .ok (.if_icmp .ge 33, 3) := by decide +kernel
theorem dX7_digest_377 : decode cX7_digest 377 = .ok (.lload_n 2, 1) := by decide +kernel
theorem dX7_digest_378 : decode cX7_digest 378 = .ok (.ldc2_w 159, 3) := by decide +kernel
theorem dX7_digest_381 : decode cX7_digest 381 = .ok (.lmul, 1) := by decide +kernel
theorem dX7_digest_382 : decode cX7_digest 382 = .ok (.aload_n 0, 1) := by decide +kernel
theorem dX7_digest_383 : decode cX7_digest 383 = .ok (.iload 4, 2) := by decide +kernel
theorem dX7_digest_385 : decode cX7_digest 385 = .ok (.iload 6, 2) := by decide +kernel
theorem dX7_digest_387 : decode cX7_digest 387 = .ok (.invokevirtual 128, 3) := by decide +kernel
theorem dX7_digest_390 : decode cX7_digest 390 = .ok (.ifCond .eq 7, 3) := by decide +kernel
theorem dX7_digest_393 : decode cX7_digest 393 = .ok (.iconst 1, 1) := by decide +kernel
theorem dX7_digest_394 : decode cX7_digest 394 = .ok (.goto 4, 3) := by decide +kernel
theorem dX7_digest_397 : decode cX7_digest 397 = .ok (.iconst 0, 1) := by decide +kernel
theorem dX7_digest_398 : decode cX7_digest 398 = .ok (.i2l, 1) := by decide +kernel
theorem dX7_digest_399 : decode cX7_digest 399 = .ok (.ladd, 1) := by decide +kernel
theorem dX7_digest_400 : decode cX7_digest 400 = .ok (.lstore_n 2, 1) := by decide +kernel
theorem dX7_digest_401 : decode cX7_digest 401 = .ok (.iinc 6 1, 3) := by decide +kernel
theorem dX7_digest_404 : decode cX7_digest 404 = .ok (.goto (-36), 3) := by decide +kernel
theorem dX7_digest_407 : decode cX7_digest 407 = .ok (.iinc 4 1, 3) := by decide +kernel
theorem dX7_digest_410 : decode cX7_digest 410 = .ok (.goto (-138), 3) := by decide +kernel
theorem dX7_digest_413 : decode cX7_digest 413 = .ok (.lload_n 2, 1) := by decide +kernel
theorem dX7_digest_414 : decode cX7_digest 414 = .ok (.lreturn, 1) := by decide +kernel
end
section
theorem dL_addHall_0 : decode cL_addHall 0 = .ok (.aload_n 2, 1) := by decide +kernel
theorem dL_addHall_1 : decode cL_addHall 1 = .ok (.iconst 0, 1) := by decide +kernel
theorem dL_addHall_2 : decode cL_addHall 2 = .ok (.aload_n 0, 1) := by decide +kernel
theorem dL_addHall_3 : decode cL_addHall 3 = .ok (.iload_n 1, 1) := by decide +kernel
theorem dL_addHall_4 : decode cL_addHall 4 = .ok (.invokevirtual 7, 3) := by decide +kernel
theorem dL_addHall_7 : decode cL_addHall 7 = .ok (.i2l, 1) := by decide +kernel
theorem dL_addHall_8 : decode cL_addHall 8 = .ok (.lastore, 1) := by decide +kernel
theorem dL_addHall_9 : decode cL_addHall 9 = .ok (.goto 9, 3) := by decide +kernel
theorem dL_addHall_12 : decode cL_addHall 12 = .ok (.astore_n 3, 1) := by decide +kernel
theorem dL_addHall_13 : decode cL_addHall 13 = .ok (.iconst 1, 1) := by decide +kernel
theorem dL_addHall_14 : decode cL_addHall 14 = .ok (.ireturn, 1) := by decide +kernel
theorem dL_addHall_15 : decode cL_addHall 15 = .ok (.astore_n 3, 1) := by decide +kernel
theorem dL_addHall_16 : decode cL_addHall 16 = .ok (.iconst 2, 1) := by decide +kernel
theorem dL_addHall_17 : decode cL_addHall 17 = .ok (.ireturn, 1) := by decide +kernel
theorem dL_addHall_18 : decode cL_addHall 18 = .ok (.iconst 0, 1) := by decide +kernel
theorem dL_addHall_19 : decode cL_addHall 19 = .ok (.ireturn, 1) := by decide +kernel
theorem dL_addSurface_0 : decode cL_addSurface 0 = .ok (.aload 4, 2) := by decide +kernel
theorem dL_addSurface_2 : decode cL_addSurface 2 = .ok (.iconst 0, 1) := by decide +kernel
theorem dL_addSurface_3 : decode cL_addSurface 3 = .ok (.aload_n 0, 1) := by decide +kernel
theorem dL_addSurface_4 : decode cL_addSurface 4 = .ok (.iload_n 1, 1) := by decide +kernel
theorem dL_addSurface_5 : decode cL_addSurface 5 = .ok (.iload_n 2, 1) := by decide +kernel
theorem dL_addSurface_6 : decode cL_addSurface 6 = .ok (.iload_n 3, 1) := by decide +kernel
theorem dL_addSurface_7 : decode cL_addSurface 7 = .ok (.invokevirtual 17, 3) := by decide +kernel
theorem dL_addSurface_10 : decode cL_addSurface 10 = .ok (.i2l, 1) := by decide +kernel
theorem dL_addSurface_11 : decode cL_addSurface 11 = .ok (.lastore, 1) := by decide +kernel
theorem dL_addSurface_12 : decode cL_addSurface 12 = .ok (.goto 15, 3) := by decide +kernel
theorem dL_addSurface_15 : decode cL_addSurface 15 = .ok (.astore 5, 2) := by decide +kernel
theorem dL_addSurface_17 : decode cL_addSurface 17 = .ok (.iconst 1, 1) := by decide +kernel
theorem dL_addSurface_18 : decode cL_addSurface 18 = .ok (.ireturn, 1) := by decide +kernel
theorem dL_addSurface_19 : decode cL_addSurface 19 = .ok (.astore 5, 2) := by decide +kernel
theorem dL_addSurface_21 : decode cL_addSurface 21 = .ok (.iconst 2, 1) := by decide +kernel
theorem dL_addSurface_22 : decode cL_addSurface 22 = .ok (.ireturn, 1) := by decide +kernel
theorem dL_addSurface_23 : decode cL_addSurface 23 = .ok (.astore 5, 2) := by decide +kernel
theorem dL_addSurface_25 : decode cL_addSurface 25 = .ok (.iconst 3, 1) := by decide +kernel
theorem dL_addSurface_26 : decode cL_addSurface 26 = .ok (.ireturn, 1) := by decide +kernel
theorem dL_addSurface_27 : decode cL_addSurface 27 = .ok (.iconst 0, 1) := by decide +kernel
theorem dL_addSurface_28 : decode cL_addSurface 28 = .ok (.ireturn, 1) := by decide +kernel
theorem dL_moveSurface_0 : decode cL_moveSurface 0 = .ok (.aload 4, 2) := by decide +kernel
theorem dL_moveSurface_2 : decode cL_moveSurface 2 = .ok (.iconst 0, 1) := by decide +kernel
theorem dL_moveSurface_3 : decode cL_moveSurface 3 = .ok (.aload_n 0, 1) := by decide +kernel
theorem dL_moveSurface_4 : decode cL_moveSurface 4 = .ok (.iload_n 1, 1) := by decide +kernel
theorem dL_moveSurface_5 : decode cL_moveSurface 5 = .ok (.iload_n 2, 1) := by decide +kernel
theorem dL_moveSurface_6 : decode cL_moveSurface 6 = .ok (.iload_n 3, 1) := by decide +kernel
theorem dL_moveSurface_7 : decode cL_moveSurface 7 = .ok (.invokevirtual 23, 3) := by decide +kernel
theorem dL_moveSurface_10 : decode cL_moveSurface 10 = .ok (.i2l, 1) := by decide +kernel
theorem dL_moveSurface_11 : decode cL_moveSurface 11 = .ok (.lastore, 1) := by decide +kernel
theorem dL_moveSurface_12 : decode cL_moveSurface 12 = .ok (.goto 11, 3) := by decide +kernel
theorem dL_moveSurface_15 : decode cL_moveSurface 15 = .ok (.astore 5, 2) := by decide +kernel
theorem dL_moveSurface_17 : decode cL_moveSurface 17 = .ok (.iconst 1, 1) := by decide +kernel
theorem dL_moveSurface_18 : decode cL_moveSurface 18 = .ok (.ireturn, 1) := by decide +kernel
theorem dL_moveSurface_19 : decode cL_moveSurface 19 = .ok (.astore 5, 2) := by decide +kernel
theorem dL_moveSurface_21 : decode cL_moveSurface 21 = .ok (.iconst 2, 1) := by decide +kernel
theorem dL_moveSurface_22 : decode cL_moveSurface 22 = .ok (.ireturn, 1) := by decide +kernel
theorem dL_moveSurface_23 : decode cL_moveSurface 23 = .ok (.iconst 0, 1) := by decide +kernel
theorem dL_moveSurface_24 : decode cL_moveSurface 24 = .ok (.ireturn, 1) := by decide +kernel
theorem dL_setDamping_0 : decode cL_setDamping 0 = .ok (.aload_n 3, 1) := by decide +kernel
theorem dL_setDamping_1 : decode cL_setDamping 1 = .ok (.iconst 0, 1) := by decide +kernel
theorem dL_setDamping_2 : decode cL_setDamping 2 = .ok (.aload_n 0, 1) := by decide +kernel
theorem dL_setDamping_3 : decode cL_setDamping 3 = .ok (.iload_n 1, 1) := by decide +kernel
theorem dL_setDamping_4 : decode cL_setDamping 4 = .ok (.iload_n 2, 1) := by decide +kernel
theorem dL_setDamping_5 : decode cL_setDamping 5 = .ok (.invokevirtual 26, 3) := by decide +kernel
theorem dL_setDamping_8 : decode cL_setDamping 8 = .ok (.i2l, 1) := by decide +kernel
theorem dL_setDamping_9 : decode cL_setDamping 9 = .ok (.lastore, 1) := by decide +kernel
theorem dL_setDamping_10 : decode cL_setDamping 10 = .ok (.goto 11, 3) := by decide +kernel
theorem dL_setDamping_13 : decode cL_setDamping 13 = .ok (.astore 4, 2) := by decide +kernel
theorem dL_setDamping_15 : decode cL_setDamping 15 = .ok (.iconst 1, 1) := by decide +kernel
theorem dL_setDamping_16 : decode cL_setDamping 16 = .ok (.ireturn, 1) := by decide +kernel
theorem dL_setDamping_17 : decode cL_setDamping 17 = .ok (.astore 4, 2) := by decide +kernel
theorem dL_setDamping_19 : decode cL_setDamping 19 = .ok (.iconst 2, 1) := by decide +kernel
theorem dL_setDamping_20 : decode cL_setDamping 20 = .ok (.ireturn, 1) := by decide +kernel
theorem dL_setDamping_21 : decode cL_setDamping 21 = .ok (.iconst 0, 1) := by decide +kernel
theorem dL_setDamping_22 : decode cL_setDamping 22 = .ok (.ireturn, 1) := by decide +kernel
theorem dL_clean_0 : decode cL_clean 0 = .ok (.aload_n 2, 1) := by decide +kernel
theorem dL_clean_1 : decode cL_clean 1 = .ok (.iconst 0, 1) := by decide +kernel
theorem dL_clean_2 : decode cL_clean 2 = .ok (.aload_n 0, 1) := by decide +kernel
theorem dL_clean_3 : decode cL_clean 3 = .ok (.iload_n 1, 1) := by decide +kernel
theorem dL_clean_4 : decode cL_clean 4 = .ok (.invokevirtual 30, 3) := by decide +kernel
theorem dL_clean_7 : decode cL_clean 7 = .ok (.i2l, 1) := by decide +kernel
theorem dL_clean_8 : decode cL_clean 8 = .ok (.lastore, 1) := by decide +kernel
theorem dL_clean_9 : decode cL_clean 9 = .ok (.goto 6, 3) := by decide +kernel
theorem dL_clean_12 : decode cL_clean 12 = .ok (.astore_n 3, 1) := by decide +kernel
theorem dL_clean_13 : decode cL_clean 13 = .ok (.iconst 1, 1) := by decide +kernel
theorem dL_clean_14 : decode cL_clean 14 = .ok (.ireturn, 1) := by decide +kernel
theorem dL_clean_15 : decode cL_clean 15 = .ok (.iconst 0, 1) := by decide +kernel
theorem dL_clean_16 : decode cL_clean 16 = .ok (.ireturn, 1) := by decide +kernel
theorem dL_addStandard_0 : decode cL_addStandard 0 = .ok (.aload 6, 2) := by decide +kernel
theorem dL_addStandard_2 : decode cL_addStandard 2 = .ok (.iconst 0, 1) := by decide +kernel
theorem dL_addStandard_3 : decode cL_addStandard 3 = .ok (.aload_n 0, 1) := by decide +kernel
theorem dL_addStandard_4 : decode cL_addStandard 4 = .ok (.iload_n 1, 1) := by decide +kernel
theorem dL_addStandard_5 : decode cL_addStandard 5 = .ok (.iload_n 2, 1) := by decide +kernel
theorem dL_addStandard_6 : decode cL_addStandard 6 = .ok (.iload_n 3, 1) := by decide +kernel
theorem dL_addStandard_7 : decode cL_addStandard 7 = .ok (.iload 4, 2) := by decide +kernel
theorem dL_addStandard_9 : decode cL_addStandard 9 = .ok (.iload 5, 2) := by decide +kernel
theorem dL_addStandard_11 : decode cL_addStandard 11 = .ok (.invokevirtual 33, 3) := by decide +kernel
theorem dL_addStandard_14 : decode cL_addStandard 14 = .ok (.i2l, 1) := by decide +kernel
theorem dL_addStandard_15 : decode cL_addStandard 15 = .ok (.lastore, 1) := by decide +kernel
theorem dL_addStandard_16 : decode cL_addStandard 16 = .ok (.goto 11, 3) := by decide +kernel
theorem dL_addStandard_19 : decode cL_addStandard 19 = .ok (.astore 7, 2) := by decide +kernel
theorem dL_addStandard_21 : decode cL_addStandard 21 = .ok (.iconst 1, 1) := by decide +kernel
theorem dL_addStandard_22 : decode cL_addStandard 22 = .ok (.ireturn, 1) := by decide +kernel
theorem dL_addStandard_23 : decode cL_addStandard 23 = .ok (.astore 7, 2) := by decide +kernel
theorem dL_addStandard_25 : decode cL_addStandard 25 = .ok (.iconst 2, 1) := by decide +kernel
theorem dL_addStandard_26 : decode cL_addStandard 26 = .ok (.ireturn, 1) := by decide +kernel
theorem dL_addStandard_27 : decode cL_addStandard 27 = .ok (.iconst 0, 1) := by decide +kernel
theorem dL_addStandard_28 : decode cL_addStandard 28 = .ok (.ireturn, 1) := by decide +kernel
theorem dL_inspect_0 : decode cL_inspect 0 = .ok (.aload_n 3, 1) := by decide +kernel
theorem dL_inspect_1 : decode cL_inspect 1 = .ok (.iconst 0, 1) := by decide +kernel
theorem dL_inspect_2 : decode cL_inspect 2 = .ok (.aload_n 0, 1) := by decide +kernel
theorem dL_inspect_3 : decode cL_inspect 3 = .ok (.iload_n 1, 1) := by decide +kernel
theorem dL_inspect_4 : decode cL_inspect 4 = .ok (.iload_n 2, 1) := by decide +kernel
theorem dL_inspect_5 : decode cL_inspect 5 = .ok (.invokevirtual 37, 3) := by decide +kernel
theorem dL_inspect_8 : decode cL_inspect 8 = .ok (.ifCond .eq 7, 3) := by decide +kernel
theorem dL_inspect_11 : decode cL_inspect 11 = .ok (.lconst 1, 1) := by decide +kernel
theorem dL_inspect_12 : decode cL_inspect 12 = .ok (.goto 4, 3) := by decide +kernel
theorem dL_inspect_15 : decode cL_inspect 15 = .ok (.lconst 0, 1) := by decide +kernel
theorem dL_inspect_16 : decode cL_inspect 16 = .ok (.lastore, 1) := by decide +kernel
theorem dL_inspect_17 : decode cL_inspect 17 = .ok (.goto 7, 3) := by decide +kernel
theorem dL_inspect_20 : decode cL_inspect 20 = .ok (.astore 4, 2) := by decide +kernel
theorem dL_inspect_22 : decode cL_inspect 22 = .ok (.iconst 1, 1) := by decide +kernel
theorem dL_inspect_23 : decode cL_inspect 23 = .ok (.ireturn, 1) := by decide +kernel
theorem dL_inspect_24 : decode cL_inspect 24 = .ok (.iconst 0, 1) := by decide +kernel
theorem dL_inspect_25 : decode cL_inspect 25 = .ok (.ireturn, 1) := by decide +kernel
theorem dL_revoke_0 : decode cL_revoke 0 = .ok (.aload_n 2, 1) := by decide +kernel
theorem dL_revoke_1 : decode cL_revoke 1 = .ok (.iconst 0, 1) := by decide +kernel
theorem dL_revoke_2 : decode cL_revoke 2 = .ok (.aload_n 0, 1) := by decide +kernel
theorem dL_revoke_3 : decode cL_revoke 3 = .ok (.iload_n 1, 1) := by decide +kernel
theorem dL_revoke_4 : decode cL_revoke 4 = .ok (.invokevirtual 41, 3) := by decide +kernel
theorem dL_revoke_7 : decode cL_revoke 7 = .ok (.i2l, 1) := by decide +kernel
theorem dL_revoke_8 : decode cL_revoke 8 = .ok (.lastore, 1) := by decide +kernel
theorem dL_revoke_9 : decode cL_revoke 9 = .ok (.goto 9, 3) := by decide +kernel
theorem dL_revoke_12 : decode cL_revoke 12 = .ok (.astore_n 3, 1) := by decide +kernel
theorem dL_revoke_13 : decode cL_revoke 13 = .ok (.iconst 1, 1) := by decide +kernel
theorem dL_revoke_14 : decode cL_revoke 14 = .ok (.ireturn, 1) := by decide +kernel
theorem dL_revoke_15 : decode cL_revoke 15 = .ok (.astore_n 3, 1) := by decide +kernel
theorem dL_revoke_16 : decode cL_revoke 16 = .ok (.iconst 2, 1) := by decide +kernel
theorem dL_revoke_17 : decode cL_revoke 17 = .ok (.ireturn, 1) := by decide +kernel
theorem dL_revoke_18 : decode cL_revoke 18 = .ok (.iconst 0, 1) := by decide +kernel
theorem dL_revoke_19 : decode cL_revoke 19 = .ok (.ireturn, 1) := by decide +kernel
theorem dL_passDays_0 : decode cL_passDays 0 = .ok (.aload_n 2, 1) := by decide +kernel
theorem dL_passDays_1 : decode cL_passDays 1 = .ok (.iconst 0, 1) := by decide +kernel
theorem dL_passDays_2 : decode cL_passDays 2 = .ok (.aload_n 0, 1) := by decide +kernel
theorem dL_passDays_3 : decode cL_passDays 3 = .ok (.iload_n 1, 1) := by decide +kernel
theorem dL_passDays_4 : decode cL_passDays 4 = .ok (.invokevirtual 44, 3) := by decide +kernel
theorem dL_passDays_7 : decode cL_passDays 7 = .ok (.i2l, 1) := by decide +kernel
theorem dL_passDays_8 : decode cL_passDays 8 = .ok (.lastore, 1) := by decide +kernel
theorem dL_passDays_9 : decode cL_passDays 9 = .ok (.goto 6, 3) := by decide +kernel
theorem dL_passDays_12 : decode cL_passDays 12 = .ok (.astore_n 3, 1) := by decide +kernel
theorem dL_passDays_13 : decode cL_passDays 13 = .ok (.iconst 1, 1) := by decide +kernel
theorem dL_passDays_14 : decode cL_passDays 14 = .ok (.ireturn, 1) := by decide +kernel
theorem dL_passDays_15 : decode cL_passDays 15 = .ok (.iconst 0, 1) := by decide +kernel
theorem dL_passDays_16 : decode cL_passDays 16 = .ok (.ireturn, 1) := by decide +kernel
theorem dL_surfacesOf_0 : decode cL_surfacesOf 0 = .ok (.aload_n 2, 1) := by decide +kernel
theorem dL_surfacesOf_1 : decode cL_surfacesOf 1 = .ok (.iconst 0, 1) := by decide +kernel
theorem dL_surfacesOf_2 : decode cL_surfacesOf 2 = .ok (.aload_n 0, 1) := by decide +kernel
theorem dL_surfacesOf_3 : decode cL_surfacesOf 3 = .ok (.iload_n 1, 1) := by decide +kernel
theorem dL_surfacesOf_4 : decode cL_surfacesOf 4 = .ok (.invokevirtual 47, 3) := by decide +kernel
theorem dL_surfacesOf_7 : decode cL_surfacesOf 7 = .ok (.i2l, 1) := by decide +kernel
theorem dL_surfacesOf_8 : decode cL_surfacesOf 8 = .ok (.lastore, 1) := by decide +kernel
theorem dL_surfacesOf_9 : decode cL_surfacesOf 9 = .ok (.goto 6, 3) := by decide +kernel
theorem dL_surfacesOf_12 : decode cL_surfacesOf 12 = .ok (.astore_n 3, 1) := by decide +kernel
theorem dL_surfacesOf_13 : decode cL_surfacesOf 13 = .ok (.iconst 1, 1) := by decide +kernel
theorem dL_surfacesOf_14 : decode cL_surfacesOf 14 = .ok (.ireturn, 1) := by decide +kernel
theorem dL_surfacesOf_15 : decode cL_surfacesOf 15 = .ok (.iconst 0, 1) := by decide +kernel
theorem dL_surfacesOf_16 : decode cL_surfacesOf 16 = .ok (.ireturn, 1) := by decide +kernel
theorem dL_distanceOf_0 : decode cL_distanceOf 0 = .ok (.aload_n 3, 1) := by decide +kernel
theorem dL_distanceOf_1 : decode cL_distanceOf 1 = .ok (.iconst 0, 1) := by decide +kernel
theorem dL_distanceOf_2 : decode cL_distanceOf 2 = .ok (.aload_n 0, 1) := by decide +kernel
theorem dL_distanceOf_3 : decode cL_distanceOf 3 = .ok (.iload_n 1, 1) := by decide +kernel
theorem dL_distanceOf_4 : decode cL_distanceOf 4 = .ok (.iload_n 2, 1) := by decide +kernel
theorem dL_distanceOf_5 : decode cL_distanceOf 5 = .ok (.invokevirtual 50, 3) := by decide +kernel
theorem dL_distanceOf_8 : decode cL_distanceOf 8 = .ok (.i2l, 1) := by decide +kernel
theorem dL_distanceOf_9 : decode cL_distanceOf 9 = .ok (.lastore, 1) := by decide +kernel
theorem dL_distanceOf_10 : decode cL_distanceOf 10 = .ok (.goto 7, 3) := by decide +kernel
theorem dL_distanceOf_13 : decode cL_distanceOf 13 = .ok (.astore 4, 2) := by decide +kernel
theorem dL_distanceOf_15 : decode cL_distanceOf 15 = .ok (.iconst 1, 1) := by decide +kernel
theorem dL_distanceOf_16 : decode cL_distanceOf 16 = .ok (.ireturn, 1) := by decide +kernel
theorem dL_distanceOf_17 : decode cL_distanceOf 17 = .ok (.iconst 0, 1) := by decide +kernel
theorem dL_distanceOf_18 : decode cL_distanceOf 18 = .ok (.ireturn, 1) := by decide +kernel
theorem dL_hardnessOf_0 : decode cL_hardnessOf 0 = .ok (.aload_n 3, 1) := by decide +kernel
theorem dL_hardnessOf_1 : decode cL_hardnessOf 1 = .ok (.iconst 0, 1) := by decide +kernel
theorem dL_hardnessOf_2 : decode cL_hardnessOf 2 = .ok (.aload_n 0, 1) := by decide +kernel
theorem dL_hardnessOf_3 : decode cL_hardnessOf 3 = .ok (.iload_n 1, 1) := by decide +kernel
theorem dL_hardnessOf_4 : decode cL_hardnessOf 4 = .ok (.iload_n 2, 1) := by decide +kernel
theorem dL_hardnessOf_5 : decode cL_hardnessOf 5 = .ok (.invokevirtual 53, 3) := by decide +kernel
theorem dL_hardnessOf_8 : decode cL_hardnessOf 8 = .ok (.i2l, 1) := by decide +kernel
theorem dL_hardnessOf_9 : decode cL_hardnessOf 9 = .ok (.lastore, 1) := by decide +kernel
theorem dL_hardnessOf_10 : decode cL_hardnessOf 10 = .ok (.goto 7, 3) := by decide +kernel
theorem dL_hardnessOf_13 : decode cL_hardnessOf 13 = .ok (.astore 4, 2) := by decide +kernel
theorem dL_hardnessOf_15 : decode cL_hardnessOf 15 = .ok (.iconst 1, 1) := by decide +kernel
theorem dL_hardnessOf_16 : decode cL_hardnessOf 16 = .ok (.ireturn, 1) := by decide +kernel
theorem dL_hardnessOf_17 : decode cL_hardnessOf 17 = .ok (.iconst 0, 1) := by decide +kernel
theorem dL_hardnessOf_18 : decode cL_hardnessOf 18 = .ok (.ireturn, 1) := by decide +kernel
theorem dL_dampingOf_0 : decode cL_dampingOf 0 = .ok (.aload_n 2, 1) := by decide +kernel
theorem dL_dampingOf_1 : decode cL_dampingOf 1 = .ok (.iconst 0, 1) := by decide +kernel
theorem dL_dampingOf_2 : decode cL_dampingOf 2 = .ok (.aload_n 0, 1) := by decide +kernel
theorem dL_dampingOf_3 : decode cL_dampingOf 3 = .ok (.iload_n 1, 1) := by decide +kernel
theorem dL_dampingOf_4 : decode cL_dampingOf 4 = .ok (.invokevirtual 56, 3) := by decide +kernel
theorem dL_dampingOf_7 : decode cL_dampingOf 7 = .ok (.i2l, 1) := by decide +kernel
theorem dL_dampingOf_8 : decode cL_dampingOf 8 = .ok (.lastore, 1) := by decide +kernel
theorem dL_dampingOf_9 : decode cL_dampingOf 9 = .ok (.goto 6, 3) := by decide +kernel
theorem dL_dampingOf_12 : decode cL_dampingOf 12 = .ok (.astore_n 3, 1) := by decide +kernel
theorem dL_dampingOf_13 : decode cL_dampingOf 13 = .ok (.iconst 1, 1) := by decide +kernel
theorem dL_dampingOf_14 : decode cL_dampingOf 14 = .ok (.ireturn, 1) := by decide +kernel
theorem dL_dampingOf_15 : decode cL_dampingOf 15 = .ok (.iconst 0, 1) := by decide +kernel
theorem dL_dampingOf_16 : decode cL_dampingOf 16 = .ok (.ireturn, 1) := by decide +kernel
theorem dL_dustOf_0 : decode cL_dustOf 0 = .ok (.aload_n 2, 1) := by decide +kernel
theorem dL_dustOf_1 : decode cL_dustOf 1 = .ok (.iconst 0, 1) := by decide +kernel
theorem dL_dustOf_2 : decode cL_dustOf 2 = .ok (.aload_n 0, 1) := by decide +kernel
theorem dL_dustOf_3 : decode cL_dustOf 3 = .ok (.iload_n 1, 1) := by decide +kernel
theorem dL_dustOf_4 : decode cL_dustOf 4 = .ok (.invokevirtual 59, 3) := by decide +kernel
theorem dL_dustOf_7 : decode cL_dustOf 7 = .ok (.i2l, 1) := by decide +kernel
theorem dL_dustOf_8 : decode cL_dustOf 8 = .ok (.lastore, 1) := by decide +kernel
theorem dL_dustOf_9 : decode cL_dustOf 9 = .ok (.goto 6, 3) := by decide +kernel
theorem dL_dustOf_12 : decode cL_dustOf 12 = .ok (.astore_n 3, 1) := by decide +kernel
theorem dL_dustOf_13 : decode cL_dustOf 13 = .ok (.iconst 1, 1) := by decide +kernel
theorem dL_dustOf_14 : decode cL_dustOf 14 = .ok (.ireturn, 1) := by decide +kernel
theorem dL_dustOf_15 : decode cL_dustOf 15 = .ok (.iconst 0, 1) := by decide +kernel
theorem dL_dustOf_16 : decode cL_dustOf 16 = .ok (.ireturn, 1) := by decide +kernel
theorem dL_echoes_0 : decode cL_echoes 0 = .ok (.aload_n 3, 1) := by decide +kernel
theorem dL_echoes_1 : decode cL_echoes 1 = .ok (.iconst 0, 1) := by decide +kernel
theorem dL_echoes_2 : decode cL_echoes 2 = .ok (.aload_n 0, 1) := by decide +kernel
theorem dL_echoes_3 : decode cL_echoes 3 = .ok (.iload_n 1, 1) := by decide +kernel
theorem dL_echoes_4 : decode cL_echoes 4 = .ok (.iload_n 2, 1) := by decide +kernel
theorem dL_echoes_5 : decode cL_echoes 5 = .ok (.invokevirtual 62, 3) := by decide +kernel
theorem dL_echoes_8 : decode cL_echoes 8 = .ok (.i2l, 1) := by decide +kernel
theorem dL_echoes_9 : decode cL_echoes 9 = .ok (.lastore, 1) := by decide +kernel
theorem dL_echoes_10 : decode cL_echoes 10 = .ok (.goto 11, 3) := by decide +kernel
theorem dL_echoes_13 : decode cL_echoes 13 = .ok (.astore 4, 2) := by decide +kernel
theorem dL_echoes_15 : decode cL_echoes 15 = .ok (.iconst 1, 1) := by decide +kernel
theorem dL_echoes_16 : decode cL_echoes 16 = .ok (.ireturn, 1) := by decide +kernel
theorem dL_echoes_17 : decode cL_echoes 17 = .ok (.astore 4, 2) := by decide +kernel
theorem dL_echoes_19 : decode cL_echoes 19 = .ok (.iconst 2, 1) := by decide +kernel
theorem dL_echoes_20 : decode cL_echoes 20 = .ok (.ireturn, 1) := by decide +kernel
theorem dL_echoes_21 : decode cL_echoes 21 = .ok (.iconst 0, 1) := by decide +kernel
theorem dL_echoes_22 : decode cL_echoes 22 = .ok (.ireturn, 1) := by decide +kernel
theorem dL_loudEchoes_0 : decode cL_loudEchoes 0 = .ok (.aload 4, 2) := by decide +kernel
theorem dL_loudEchoes_2 : decode cL_loudEchoes 2 = .ok (.iconst 0, 1) := by decide +kernel
theorem dL_loudEchoes_3 : decode cL_loudEchoes 3 = .ok (.aload_n 0, 1) := by decide +kernel
theorem dL_loudEchoes_4 : decode cL_loudEchoes 4 = .ok (.iload_n 1, 1) := by decide +kernel
theorem dL_loudEchoes_5 : decode cL_loudEchoes 5 = .ok (.iload_n 2, 1) := by decide +kernel
theorem dL_loudEchoes_6 : decode cL_loudEchoes 6 = .ok (.iload_n 3, 1) := by decide +kernel
theorem dL_loudEchoes_7 : decode cL_loudEchoes 7 = .ok (.invokevirtual 65, 3) := by decide +kernel
theorem dL_loudEchoes_10 : decode cL_loudEchoes 10 = .ok (.i2l, 1) := by decide +kernel
theorem dL_loudEchoes_11 : decode cL_loudEchoes 11 = .ok (.lastore, 1) := by decide +kernel
theorem dL_loudEchoes_12 : decode cL_loudEchoes 12 = .ok (.goto 11, 3) := by decide +kernel
theorem dL_loudEchoes_15 : decode cL_loudEchoes 15 = .ok (.astore 5, 2) := by decide +kernel
theorem dL_loudEchoes_17 : decode cL_loudEchoes 17 = .ok (.iconst 1, 1) := by decide +kernel
theorem dL_loudEchoes_18 : decode cL_loudEchoes 18 = .ok (.ireturn, 1) := by decide +kernel
theorem dL_loudEchoes_19 : decode cL_loudEchoes 19 = .ok (.astore 5, 2) := by decide +kernel
theorem dL_loudEchoes_21 : decode cL_loudEchoes 21 = .ok (.iconst 2, 1) := by decide +kernel
theorem dL_loudEchoes_22 : decode cL_loudEchoes 22 = .ok (.ireturn, 1) := by decide +kernel
theorem dL_loudEchoes_23 : decode cL_loudEchoes 23 = .ok (.iconst 0, 1) := by decide +kernel
theorem dL_loudEchoes_24 : decode cL_loudEchoes 24 = .ok (.ireturn, 1) := by decide +kernel
theorem dL_firstEcho_0 : decode cL_firstEcho 0 = .ok (.aload_n 3, 1) := by decide +kernel
theorem dL_firstEcho_1 : decode cL_firstEcho 1 = .ok (.iconst 0, 1) := by decide +kernel
theorem dL_firstEcho_2 : decode cL_firstEcho 2 = .ok (.aload_n 0, 1) := by decide +kernel
theorem dL_firstEcho_3 : decode cL_firstEcho 3 = .ok (.iload_n 1, 1) := by decide +kernel
theorem dL_firstEcho_4 : decode cL_firstEcho 4 = .ok (.iload_n 2, 1) := by decide +kernel
theorem dL_firstEcho_5 : decode cL_firstEcho 5 = .ok (.invokevirtual 68, 3) := by decide +kernel
theorem dL_firstEcho_8 : decode cL_firstEcho 8 = .ok (.i2l, 1) := by decide +kernel
theorem dL_firstEcho_9 : decode cL_firstEcho 9 = .ok (.lastore, 1) := by decide +kernel
theorem dL_firstEcho_10 : decode cL_firstEcho 10 = .ok (.goto 11, 3) := by decide +kernel
theorem dL_firstEcho_13 : decode cL_firstEcho 13 = .ok (.astore 4, 2) := by decide +kernel
theorem dL_firstEcho_15 : decode cL_firstEcho 15 = .ok (.iconst 1, 1) := by decide +kernel
theorem dL_firstEcho_16 : decode cL_firstEcho 16 = .ok (.ireturn, 1) := by decide +kernel
theorem dL_firstEcho_17 : decode cL_firstEcho 17 = .ok (.astore 4, 2) := by decide +kernel
theorem dL_firstEcho_19 : decode cL_firstEcho 19 = .ok (.iconst 2, 1) := by decide +kernel
theorem dL_firstEcho_20 : decode cL_firstEcho 20 = .ok (.ireturn, 1) := by decide +kernel
theorem dL_firstEcho_21 : decode cL_firstEcho 21 = .ok (.iconst 0, 1) := by decide +kernel
theorem dL_firstEcho_22 : decode cL_firstEcho 22 = .ok (.ireturn, 1) := by decide +kernel
theorem dL_lastEcho_0 : decode cL_lastEcho 0 = .ok (.aload_n 3, 1) := by decide +kernel
theorem dL_lastEcho_1 : decode cL_lastEcho 1 = .ok (.iconst 0, 1) := by decide +kernel
theorem dL_lastEcho_2 : decode cL_lastEcho 2 = .ok (.aload_n 0, 1) := by decide +kernel
theorem dL_lastEcho_3 : decode cL_lastEcho 3 = .ok (.iload_n 1, 1) := by decide +kernel
theorem dL_lastEcho_4 : decode cL_lastEcho 4 = .ok (.iload_n 2, 1) := by decide +kernel
theorem dL_lastEcho_5 : decode cL_lastEcho 5 = .ok (.invokevirtual 71, 3) := by decide +kernel
theorem dL_lastEcho_8 : decode cL_lastEcho 8 = .ok (.i2l, 1) := by decide +kernel
theorem dL_lastEcho_9 : decode cL_lastEcho 9 = .ok (.lastore, 1) := by decide +kernel
theorem dL_lastEcho_10 : decode cL_lastEcho 10 = .ok (.goto 11, 3) := by decide +kernel
theorem dL_lastEcho_13 : decode cL_lastEcho 13 = .ok (.astore 4, 2) := by decide +kernel
theorem dL_lastEcho_15 : decode cL_lastEcho 15 = .ok (.iconst 1, 1) := by decide +kernel
theorem dL_lastEcho_16 : decode cL_lastEcho 16 = .ok (.ireturn, 1) := by decide +kernel
theorem dL_lastEcho_17 : decode cL_lastEcho 17 = .ok (.astore 4, 2) := by decide +kernel
theorem dL_lastEcho_19 : decode cL_lastEcho 19 = .ok (.iconst 2, 1) := by decide +kernel
theorem dL_lastEcho_20 : decode cL_lastEcho 20 = .ok (.ireturn, 1) := by decide +kernel
theorem dL_lastEcho_21 : decode cL_lastEcho 21 = .ok (.iconst 0, 1) := by decide +kernel
theorem dL_lastEcho_22 : decode cL_lastEcho 22 = .ok (.ireturn, 1) := by decide +kernel
theorem dL_loudnessAt_0 : decode cL_loudnessAt 0 = .ok (.aload 4, 2) := by decide +kernel
theorem dL_loudnessAt_2 : decode cL_loudnessAt 2 = .ok (.iconst 0, 1) := by decide +kernel
theorem dL_loudnessAt_3 : decode cL_loudnessAt 3 = .ok (.aload_n 0, 1) := by decide +kernel
theorem dL_loudnessAt_4 : decode cL_loudnessAt 4 = .ok (.iload_n 1, 1) := by decide +kernel
theorem dL_loudnessAt_5 : decode cL_loudnessAt 5 = .ok (.iload_n 2, 1) := by decide +kernel
theorem dL_loudnessAt_6 : decode cL_loudnessAt 6 = .ok (.iload_n 3, 1) := by decide +kernel
theorem dL_loudnessAt_7 : decode cL_loudnessAt 7 = .ok (.invokevirtual 74, 3) := by decide +kernel
theorem dL_loudnessAt_10 : decode cL_loudnessAt 10 = .ok (.i2l, 1) := by decide +kernel
theorem dL_loudnessAt_11 : decode cL_loudnessAt 11 = .ok (.lastore, 1) := by decide +kernel
theorem dL_loudnessAt_12 : decode cL_loudnessAt 12 = .ok (.goto 11, 3) := by decide +kernel
theorem dL_loudnessAt_15 : decode cL_loudnessAt 15 = .ok (.astore 5, 2) := by decide +kernel
theorem dL_loudnessAt_17 : decode cL_loudnessAt 17 = .ok (.iconst 1, 1) := by decide +kernel
theorem dL_loudnessAt_18 : decode cL_loudnessAt 18 = .ok (.ireturn, 1) := by decide +kernel
theorem dL_loudnessAt_19 : decode cL_loudnessAt 19 = .ok (.astore 5, 2) := by decide +kernel
theorem dL_loudnessAt_21 : decode cL_loudnessAt 21 = .ok (.iconst 2, 1) := by decide +kernel
theorem dL_loudnessAt_22 : decode cL_loudnessAt 22 = .ok (.ireturn, 1) := by decide +kernel
theorem dL_loudnessAt_23 : decode cL_loudnessAt 23 = .ok (.iconst 0, 1) := by decide +kernel
theorem dL_loudnessAt_24 : decode cL_loudnessAt 24 = .ok (.ireturn, 1) := by decide +kernel
theorem dL_loudestMoment_0 : decode cL_loudestMoment 0 = .ok (.aload_n 3, 1) := by decide +kernel
theorem dL_loudestMoment_1 : decode cL_loudestMoment 1 = .ok (.iconst 0, 1) := by decide +kernel
theorem dL_loudestMoment_2 : decode cL_loudestMoment 2 = .ok (.aload_n 0, 1) := by decide +kernel
theorem dL_loudestMoment_3 : decode cL_loudestMoment 3 = .ok (.iload_n 1, 1) := by decide +kernel
theorem dL_loudestMoment_4 : decode cL_loudestMoment 4 = .ok (.iload_n 2, 1) := by decide +kernel
theorem dL_loudestMoment_5 : decode cL_loudestMoment 5 = .ok (.invokevirtual 77, 3) := by decide +kernel
theorem dL_loudestMoment_8 : decode cL_loudestMoment 8 = .ok (.i2l, 1) := by decide +kernel
theorem dL_loudestMoment_9 : decode cL_loudestMoment 9 = .ok (.lastore, 1) := by decide +kernel
theorem dL_loudestMoment_10 : decode cL_loudestMoment 10 = .ok (.goto 11, 3) := by decide +kernel
theorem dL_loudestMoment_13 : decode cL_loudestMoment 13 = .ok (.astore 4, 2) := by decide +kernel
theorem dL_loudestMoment_15 : decode cL_loudestMoment 15 = .ok (.iconst 1, 1) := by decide +kernel
theorem dL_loudestMoment_16 : decode cL_loudestMoment 16 = .ok (.ireturn, 1) := by decide +kernel
theorem dL_loudestMoment_17 : decode cL_loudestMoment 17 = .ok (.astore 4, 2) := by decide +kernel
theorem dL_loudestMoment_19 : decode cL_loudestMoment 19 = .ok (.iconst 2, 1) := by decide +kernel
theorem dL_loudestMoment_20 : decode cL_loudestMoment 20 = .ok (.ireturn, 1) := by decide +kernel
theorem dL_loudestMoment_21 : decode cL_loudestMoment 21 = .ok (.iconst 0, 1) := by decide +kernel
theorem dL_loudestMoment_22 : decode cL_loudestMoment 22 = .ok (.ireturn, 1) := by decide +kernel
theorem dL_meets_0 : decode cL_meets 0 = .ok (.aload_n 3, 1) := by decide +kernel
theorem dL_meets_1 : decode cL_meets 1 = .ok (.iconst 0, 1) := by decide +kernel
theorem dL_meets_2 : decode cL_meets 2 = .ok (.aload_n 0, 1) := by decide +kernel
theorem dL_meets_3 : decode cL_meets 3 = .ok (.iload_n 1, 1) := by decide +kernel
theorem dL_meets_4 : decode cL_meets 4 = .ok (.iload_n 2, 1) := by decide +kernel
theorem dL_meets_5 : decode cL_meets 5 = .ok (.invokevirtual 80, 3) := by decide +kernel
theorem dL_meets_8 : decode cL_meets 8 = .ok (.ifCond .eq 7, 3) := by decide +kernel
theorem dL_meets_11 : decode cL_meets 11 = .ok (.lconst 1, 1) := by decide +kernel
theorem dL_meets_12 : decode cL_meets 12 = .ok (.goto 4, 3) := by decide +kernel
theorem dL_meets_15 : decode cL_meets 15 = .ok (.lconst 0, 1) := by decide +kernel
theorem dL_meets_16 : decode cL_meets 16 = .ok (.lastore, 1) := by decide +kernel
theorem dL_meets_17 : decode cL_meets 17 = .ok (.goto 7, 3) := by decide +kernel
theorem dL_meets_20 : decode cL_meets 20 = .ok (.astore 4, 2) := by decide +kernel
theorem dL_meets_22 : decode cL_meets 22 = .ok (.iconst 1, 1) := by decide +kernel
theorem dL_meets_23 : decode cL_meets 23 = .ok (.ireturn, 1) := by decide +kernel
theorem dL_meets_24 : decode cL_meets 24 = .ok (.iconst 0, 1) := by decide +kernel
theorem dL_meets_25 : decode cL_meets 25 = .ok (.ireturn, 1) := by decide +kernel
theorem dL_hallsMeeting_0 : decode cL_hallsMeeting 0 = .ok (.aload_n 2, 1) := by decide +kernel
theorem dL_hallsMeeting_1 : decode cL_hallsMeeting 1 = .ok (.iconst 0, 1) := by decide +kernel
theorem dL_hallsMeeting_2 : decode cL_hallsMeeting 2 = .ok (.aload_n 0, 1) := by decide +kernel
theorem dL_hallsMeeting_3 : decode cL_hallsMeeting 3 = .ok (.iload_n 1, 1) := by decide +kernel
theorem dL_hallsMeeting_4 : decode cL_hallsMeeting 4 = .ok (.invokevirtual 83, 3) := by decide +kernel
theorem dL_hallsMeeting_7 : decode cL_hallsMeeting 7 = .ok (.i2l, 1) := by decide +kernel
theorem dL_hallsMeeting_8 : decode cL_hallsMeeting 8 = .ok (.lastore, 1) := by decide +kernel
theorem dL_hallsMeeting_9 : decode cL_hallsMeeting 9 = .ok (.goto 6, 3) := by decide +kernel
theorem dL_hallsMeeting_12 : decode cL_hallsMeeting 12 = .ok (.astore_n 3, 1) := by decide +kernel
theorem dL_hallsMeeting_13 : decode cL_hallsMeeting 13 = .ok (.iconst 1, 1) := by decide +kernel
theorem dL_hallsMeeting_14 : decode cL_hallsMeeting 14 = .ok (.ireturn, 1) := by decide +kernel
theorem dL_hallsMeeting_15 : decode cL_hallsMeeting 15 = .ok (.iconst 0, 1) := by decide +kernel
theorem dL_hallsMeeting_16 : decode cL_hallsMeeting 16 = .ok (.ireturn, 1) := by decide +kernel
theorem dL_isCertified_0 : decode cL_isCertified 0 = .ok (.aload_n 2, 1) := by decide +kernel
theorem dL_isCertified_1 : decode cL_isCertified 1 = .ok (.iconst 0, 1) := by decide +kernel
theorem dL_isCertified_2 : decode cL_isCertified 2 = .ok (.aload_n 0, 1) := by decide +kernel
theorem dL_isCertified_3 : decode cL_isCertified 3 = .ok (.iload_n 1, 1) := by decide +kernel
theorem dL_isCertified_4 : decode cL_isCertified 4 = .ok (.invokevirtual 86, 3) := by decide +kernel
theorem dL_isCertified_7 : decode cL_isCertified 7 = .ok (.ifCond .eq 7, 3) := by decide +kernel
theorem dL_isCertified_10 : decode cL_isCertified 10 = .ok (.lconst 1, 1) := by decide +kernel
theorem dL_isCertified_11 : decode cL_isCertified 11 = .ok (.goto 4, 3) := by decide +kernel
theorem dL_isCertified_14 : decode cL_isCertified 14 = .ok (.lconst 0, 1) := by decide +kernel
theorem dL_isCertified_15 : decode cL_isCertified 15 = .ok (.lastore, 1) := by decide +kernel
theorem dL_isCertified_16 : decode cL_isCertified 16 = .ok (.goto 6, 3) := by decide +kernel
theorem dL_isCertified_19 : decode cL_isCertified 19 = .ok (.astore_n 3, 1) := by decide +kernel
theorem dL_isCertified_20 : decode cL_isCertified 20 = .ok (.iconst 1, 1) := by decide +kernel
theorem dL_isCertified_21 : decode cL_isCertified 21 = .ok (.ireturn, 1) := by decide +kernel
theorem dL_isCertified_22 : decode cL_isCertified 22 = .ok (.iconst 0, 1) := by decide +kernel
theorem dL_isCertified_23 : decode cL_isCertified 23 = .ok (.ireturn, 1) := by decide +kernel
theorem dL_certifiedBy_0 : decode cL_certifiedBy 0 = .ok (.aload_n 2, 1) := by decide +kernel
theorem dL_certifiedBy_1 : decode cL_certifiedBy 1 = .ok (.iconst 0, 1) := by decide +kernel
theorem dL_certifiedBy_2 : decode cL_certifiedBy 2 = .ok (.aload_n 0, 1) := by decide +kernel
theorem dL_certifiedBy_3 : decode cL_certifiedBy 3 = .ok (.iload_n 1, 1) := by decide +kernel
theorem dL_certifiedBy_4 : decode cL_certifiedBy 4 = .ok (.invokevirtual 90, 3) := by decide +kernel
theorem dL_certifiedBy_7 : decode cL_certifiedBy 7 = .ok (.i2l, 1) := by decide +kernel
theorem dL_certifiedBy_8 : decode cL_certifiedBy 8 = .ok (.lastore, 1) := by decide +kernel
theorem dL_certifiedBy_9 : decode cL_certifiedBy 9 = .ok (.goto 9, 3) := by decide +kernel
theorem dL_certifiedBy_12 : decode cL_certifiedBy 12 = .ok (.astore_n 3, 1) := by decide +kernel
theorem dL_certifiedBy_13 : decode cL_certifiedBy 13 = .ok (.iconst 1, 1) := by decide +kernel
theorem dL_certifiedBy_14 : decode cL_certifiedBy 14 = .ok (.ireturn, 1) := by decide +kernel
theorem dL_certifiedBy_15 : decode cL_certifiedBy 15 = .ok (.astore_n 3, 1) := by decide +kernel
theorem dL_certifiedBy_16 : decode cL_certifiedBy 16 = .ok (.iconst 2, 1) := by decide +kernel
theorem dL_certifiedBy_17 : decode cL_certifiedBy 17 = .ok (.ireturn, 1) := by decide +kernel
theorem dL_certifiedBy_18 : decode cL_certifiedBy 18 = .ok (.iconst 0, 1) := by decide +kernel
theorem dL_certifiedBy_19 : decode cL_certifiedBy 19 = .ok (.ireturn, 1) := by decide +kernel
theorem dL_daysLeft_0 : decode cL_daysLeft 0 = .ok (.aload_n 2, 1) := by decide +kernel
theorem dL_daysLeft_1 : decode cL_daysLeft 1 = .ok (.iconst 0, 1) := by decide +kernel
theorem dL_daysLeft_2 : decode cL_daysLeft 2 = .ok (.aload_n 0, 1) := by decide +kernel
theorem dL_daysLeft_3 : decode cL_daysLeft 3 = .ok (.iload_n 1, 1) := by decide +kernel
theorem dL_daysLeft_4 : decode cL_daysLeft 4 = .ok (.invokevirtual 93, 3) := by decide +kernel
theorem dL_daysLeft_7 : decode cL_daysLeft 7 = .ok (.i2l, 1) := by decide +kernel
theorem dL_daysLeft_8 : decode cL_daysLeft 8 = .ok (.lastore, 1) := by decide +kernel
theorem dL_daysLeft_9 : decode cL_daysLeft 9 = .ok (.goto 6, 3) := by decide +kernel
theorem dL_daysLeft_12 : decode cL_daysLeft 12 = .ok (.astore_n 3, 1) := by decide +kernel
theorem dL_daysLeft_13 : decode cL_daysLeft 13 = .ok (.iconst 1, 1) := by decide +kernel
theorem dL_daysLeft_14 : decode cL_daysLeft 14 = .ok (.ireturn, 1) := by decide +kernel
theorem dL_daysLeft_15 : decode cL_daysLeft 15 = .ok (.iconst 0, 1) := by decide +kernel
theorem dL_daysLeft_16 : decode cL_daysLeft 16 = .ok (.ireturn, 1) := by decide +kernel
theorem dL_meetsWithDamping_0 : decode cL_meetsWithDamping 0 = .ok (.aload 4, 2) := by decide +kernel
theorem dL_meetsWithDamping_2 : decode cL_meetsWithDamping 2 = .ok (.iconst 0, 1) := by decide +kernel
theorem dL_meetsWithDamping_3 : decode cL_meetsWithDamping 3 = .ok (.aload_n 0, 1) := by decide +kernel
theorem dL_meetsWithDamping_4 : decode cL_meetsWithDamping 4 = .ok (.iload_n 1, 1) := by decide +kernel
theorem dL_meetsWithDamping_5 : decode cL_meetsWithDamping 5 = .ok (.iload_n 2, 1) := by decide +kernel
theorem dL_meetsWithDamping_6 : decode cL_meetsWithDamping 6 = .ok (.iload_n 3, 1) := by decide +kernel
theorem dL_meetsWithDamping_7 : decode cL_meetsWithDamping 7 = .ok (.invokevirtual 96, 3) := by decide +kernel
theorem dL_meetsWithDamping_10 : decode cL_meetsWithDamping 10 = .ok (.ifCond .eq 7, 3) := by decide +kernel
theorem dL_meetsWithDamping_13 : decode cL_meetsWithDamping 13 = .ok (.lconst 1, 1) := by decide +kernel
theorem dL_meetsWithDamping_14 : decode cL_meetsWithDamping 14 = .ok (.goto 4, 3) := by decide +kernel
theorem dL_meetsWithDamping_17 : decode cL_meetsWithDamping 17 = .ok (.lconst 0, 1) := by decide +kernel
theorem dL_meetsWithDamping_18 : decode cL_meetsWithDamping 18 = .ok (.lastore, 1) := by decide +kernel
theorem dL_meetsWithDamping_19 : decode cL_meetsWithDamping 19 = .ok (.goto 11, 3) := by decide +kernel
theorem dL_meetsWithDamping_22 : decode cL_meetsWithDamping 22 = .ok (.astore 5, 2) := by decide +kernel
theorem dL_meetsWithDamping_24 : decode cL_meetsWithDamping 24 = .ok (.iconst 1, 1) := by decide +kernel
theorem dL_meetsWithDamping_25 : decode cL_meetsWithDamping 25 = .ok (.ireturn, 1) := by decide +kernel
theorem dL_meetsWithDamping_26 : decode cL_meetsWithDamping 26 = .ok (.astore 5, 2) := by decide +kernel
theorem dL_meetsWithDamping_28 : decode cL_meetsWithDamping 28 = .ok (.iconst 2, 1) := by decide +kernel
theorem dL_meetsWithDamping_29 : decode cL_meetsWithDamping 29 = .ok (.ireturn, 1) := by decide +kernel
theorem dL_meetsWithDamping_30 : decode cL_meetsWithDamping 30 = .ok (.iconst 0, 1) := by decide +kernel
theorem dL_meetsWithDamping_31 : decode cL_meetsWithDamping 31 = .ok (.ireturn, 1) := by decide +kernel
theorem dL_leastDamping_0 : decode cL_leastDamping 0 = .ok (.aload_n 3, 1) := by decide +kernel
theorem dL_leastDamping_1 : decode cL_leastDamping 1 = .ok (.iconst 0, 1) := by decide +kernel
theorem dL_leastDamping_2 : decode cL_leastDamping 2 = .ok (.aload_n 0, 1) := by decide +kernel
theorem dL_leastDamping_3 : decode cL_leastDamping 3 = .ok (.iload_n 1, 1) := by decide +kernel
theorem dL_leastDamping_4 : decode cL_leastDamping 4 = .ok (.iload_n 2, 1) := by decide +kernel
theorem dL_leastDamping_5 : decode cL_leastDamping 5 = .ok (.invokevirtual 100, 3) := by decide +kernel
theorem dL_leastDamping_8 : decode cL_leastDamping 8 = .ok (.i2l, 1) := by decide +kernel
theorem dL_leastDamping_9 : decode cL_leastDamping 9 = .ok (.lastore, 1) := by decide +kernel
theorem dL_leastDamping_10 : decode cL_leastDamping 10 = .ok (.goto 7, 3) := by decide +kernel
theorem dL_leastDamping_13 : decode cL_leastDamping 13 = .ok (.astore 4, 2) := by decide +kernel
theorem dL_leastDamping_15 : decode cL_leastDamping 15 = .ok (.iconst 1, 1) := by decide +kernel
theorem dL_leastDamping_16 : decode cL_leastDamping 16 = .ok (.ireturn, 1) := by decide +kernel
theorem dL_leastDamping_17 : decode cL_leastDamping 17 = .ok (.iconst 0, 1) := by decide +kernel
theorem dL_leastDamping_18 : decode cL_leastDamping 18 = .ok (.ireturn, 1) := by decide +kernel
theorem dL_daysUntilMet_0 : decode cL_daysUntilMet 0 = .ok (.aload_n 3, 1) := by decide +kernel
theorem dL_daysUntilMet_1 : decode cL_daysUntilMet 1 = .ok (.iconst 0, 1) := by decide +kernel
theorem dL_daysUntilMet_2 : decode cL_daysUntilMet 2 = .ok (.aload_n 0, 1) := by decide +kernel
theorem dL_daysUntilMet_3 : decode cL_daysUntilMet 3 = .ok (.iload_n 1, 1) := by decide +kernel
theorem dL_daysUntilMet_4 : decode cL_daysUntilMet 4 = .ok (.iload_n 2, 1) := by decide +kernel
theorem dL_daysUntilMet_5 : decode cL_daysUntilMet 5 = .ok (.invokevirtual 103, 3) := by decide +kernel
theorem dL_daysUntilMet_8 : decode cL_daysUntilMet 8 = .ok (.i2l, 1) := by decide +kernel
theorem dL_daysUntilMet_9 : decode cL_daysUntilMet 9 = .ok (.lastore, 1) := by decide +kernel
theorem dL_daysUntilMet_10 : decode cL_daysUntilMet 10 = .ok (.goto 7, 3) := by decide +kernel
theorem dL_daysUntilMet_13 : decode cL_daysUntilMet 13 = .ok (.astore 4, 2) := by decide +kernel
theorem dL_daysUntilMet_15 : decode cL_daysUntilMet 15 = .ok (.iconst 1, 1) := by decide +kernel
theorem dL_daysUntilMet_16 : decode cL_daysUntilMet 16 = .ok (.ireturn, 1) := by decide +kernel
theorem dL_daysUntilMet_17 : decode cL_daysUntilMet 17 = .ok (.iconst 0, 1) := by decide +kernel
theorem dL_daysUntilMet_18 : decode cL_daysUntilMet 18 = .ok (.ireturn, 1) := by decide +kernel
theorem dL_easiestHall_0 : decode cL_easiestHall 0 = .ok (.aload_n 2, 1) := by decide +kernel
theorem dL_easiestHall_1 : decode cL_easiestHall 1 = .ok (.iconst 0, 1) := by decide +kernel
theorem dL_easiestHall_2 : decode cL_easiestHall 2 = .ok (.aload_n 0, 1) := by decide +kernel
theorem dL_easiestHall_3 : decode cL_easiestHall 3 = .ok (.iload_n 1, 1) := by decide +kernel
theorem dL_easiestHall_4 : decode cL_easiestHall 4 = .ok (.invokevirtual 106, 3) := by decide +kernel
theorem dL_easiestHall_7 : decode cL_easiestHall 7 = .ok (.i2l, 1) := by decide +kernel
theorem dL_easiestHall_8 : decode cL_easiestHall 8 = .ok (.lastore, 1) := by decide +kernel
theorem dL_easiestHall_9 : decode cL_easiestHall 9 = .ok (.goto 6, 3) := by decide +kernel
theorem dL_easiestHall_12 : decode cL_easiestHall 12 = .ok (.astore_n 3, 1) := by decide +kernel
theorem dL_easiestHall_13 : decode cL_easiestHall 13 = .ok (.iconst 1, 1) := by decide +kernel
theorem dL_easiestHall_14 : decode cL_easiestHall 14 = .ok (.ireturn, 1) := by decide +kernel
theorem dL_easiestHall_15 : decode cL_easiestHall 15 = .ok (.iconst 0, 1) := by decide +kernel
theorem dL_easiestHall_16 : decode cL_easiestHall 16 = .ok (.ireturn, 1) := by decide +kernel
theorem dL_law_0 : decode cL_law 0 = .ok (.new 8, 3) := by decide +kernel
theorem dL_law_3 : decode cL_law 3 = .ok (.dup, 1) := by decide +kernel
theorem dL_law_4 : decode cL_law 4 = .ok (.invokespecial 109, 3) := by decide +kernel
theorem dL_law_7 : decode cL_law 7 = .ok (.astore_n 1, 1) := by decide +kernel
theorem dL_law_8 : decode cL_law 8 = .ok (.new 110, 3) := by decide +kernel
theorem dL_law_11 : decode cL_law 11 = .ok (.dup, 1) := by decide +kernel
theorem dL_law_12 : decode cL_law 12 = .ok (.invokespecial 112, 3) := by decide +kernel
theorem dL_law_15 : decode cL_law 15 = .ok (.astore_n 2, 1) := by decide +kernel
theorem dL_law_16 : decode cL_law 16 = .ok (.iconst 1, 1) := by decide +kernel
theorem dL_law_17 : decode cL_law 17 = .ok (.newarray .long, 2) := by decide +kernel
theorem dL_law_19 : decode cL_law 19 = .ok (.astore_n 3, 1) := by decide +kernel
theorem dL_law_20 : decode cL_law 20 = .ok (.iconst 0, 1) := by decide +kernel
theorem dL_law_21 : decode cL_law 21 = .ok (.istore 4, 2) := by decide +kernel
theorem dL_law_23 : decode cL_law 23 = .ok (.iload 4, 2) := by decide +kernel
theorem dL_law_25 : decode cL_law 25 = .ok (.aload_n 0, 1) := by decide +kernel
theorem dL_law_26 : decode cL_law 26 = .ok (.arraylength, 1) := by decide +kernel
theorem dL_law_27 : decode cL_law 27 = .ok (.bipush 6, 2) := by decide +kernel
theorem dL_law_29 : decode cL_law 29 = .ok (.isub, 1) := by decide +kernel
theorem dL_law_30 : decode cL_law 30 = .ok (.if_icmp .gt 2248, 3) := by decide +kernel
theorem dL_law_33 : decode cL_law 33 = .ok (.aload_n 0, 1) := by decide +kernel
theorem dL_law_34 : decode cL_law 34 = .ok (.iload 4, 2) := by decide +kernel
theorem dL_law_36 : decode cL_law 36 = .ok (.iaload, 1) := by decide +kernel
theorem dL_law_37 : decode cL_law 37 = .ok (.bipush 63, 2) := by decide +kernel
theorem dL_law_39 : decode cL_law 39 = .ok (.iand, 1) := by decide +kernel
theorem dL_law_40 : decode cL_law 40 = .ok (.tableswitch 2232 0 35 #[160, 216, 296, 376, 444, 500, 604, 679, 735, 791, 847, 915, 983, 1039, 1095, 1163, 1243, 1311, 1379, 1459, 1527, 1602, 1658, 1721, 1777, 1833, 1846, 1859, 1872, 1885, 1898, 1985, 2053, 2121, 2177, 2218], 160) := by decide +kernel
theorem dL_law_200 : decode cL_law 200 = .ok (.aload_n 1, 1) := by decide +kernel
theorem dL_law_201 : decode cL_law 201 = .ok (.aload_n 0, 1) := by decide +kernel
theorem dL_law_202 : decode cL_law 202 = .ok (.iload 4, 2) := by decide +kernel
theorem dL_law_204 : decode cL_law 204 = .ok (.iconst 1, 1) := by decide +kernel
theorem dL_law_205 : decode cL_law 205 = .ok (.iadd, 1) := by decide +kernel
theorem dL_law_206 : decode cL_law 206 = .ok (.iaload, 1) := by decide +kernel
theorem dL_law_207 : decode cL_law 207 = .ok (.aload_n 3, 1) := by decide +kernel
theorem dL_law_208 : decode cL_law 208 = .ok (.invokestatic 113, 3) := by decide +kernel
theorem dL_law_211 : decode cL_law 211 = .ok (.istore 5, 2) := by decide +kernel
theorem dL_law_213 : decode cL_law 213 = .ok (.aload_n 2, 1) := by decide +kernel
theorem dL_law_214 : decode cL_law 214 = .ok (.aload_n 0, 1) := by decide +kernel
theorem dL_law_215 : decode cL_law 215 = .ok (.iload 4, 2) := by decide +kernel
theorem dL_law_217 : decode cL_law 217 = .ok (.iconst 1, 1) := by decide +kernel
theorem dL_law_218 : decode cL_law 218 = .ok (.iadd, 1) := by decide +kernel
theorem dL_law_219 : decode cL_law 219 = .ok (.iaload, 1) := by decide +kernel
theorem dL_law_220 : decode cL_law 220 = .ok (.invokevirtual 118, 3) := by decide +kernel
theorem dL_law_223 : decode cL_law 223 = .ok (.istore 6, 2) := by decide +kernel
theorem dL_law_225 : decode cL_law 225 = .ok (.aload_n 2, 1) := by decide +kernel
theorem dL_law_226 : decode cL_law 226 = .ok (.invokevirtual 119, 3) := by decide +kernel
theorem dL_law_229 : decode cL_law 229 = .ok (.iload 5, 2) := by decide +kernel
theorem dL_law_231 : decode cL_law 231 = .ok (.if_icmp .eq 5, 3) := by decide +kernel
theorem dL_law_234 : decode cL_law 234 = .ok (.iconst 0, 1) := by decide +kernel
theorem dL_law_235 : decode cL_law 235 = .ok (.ireturn, 1) := by decide +kernel
theorem dL_law_236 : decode cL_law 236 = .ok (.iload 5, 2) := by decide +kernel
theorem dL_law_238 : decode cL_law 238 = .ok (.ifCond .ne 15, 3) := by decide +kernel
theorem dL_law_241 : decode cL_law 241 = .ok (.aload_n 3, 1) := by decide +kernel
theorem dL_law_242 : decode cL_law 242 = .ok (.iconst 0, 1) := by decide +kernel
theorem dL_law_243 : decode cL_law 243 = .ok (.laload, 1) := by decide +kernel
theorem dL_law_244 : decode cL_law 244 = .ok (.iload 6, 2) := by decide +kernel
theorem dL_law_246 : decode cL_law 246 = .ok (.i2l, 1) := by decide +kernel
theorem dL_law_247 : decode cL_law 247 = .ok (.lcmp, 1) := by decide +kernel
theorem dL_law_248 : decode cL_law 248 = .ok (.ifCond .eq 5, 3) := by decide +kernel
theorem dL_law_251 : decode cL_law 251 = .ok (.iconst 0, 1) := by decide +kernel
theorem dL_law_252 : decode cL_law 252 = .ok (.ireturn, 1) := by decide +kernel
theorem dL_law_253 : decode cL_law 253 = .ok (.goto 2019, 3) := by decide +kernel
theorem dL_law_256 : decode cL_law 256 = .ok (.aload_n 1, 1) := by decide +kernel
theorem dL_law_257 : decode cL_law 257 = .ok (.aload_n 0, 1) := by decide +kernel
theorem dL_law_258 : decode cL_law 258 = .ok (.iload 4, 2) := by decide +kernel
theorem dL_law_260 : decode cL_law 260 = .ok (.iconst 1, 1) := by decide +kernel
theorem dL_law_261 : decode cL_law 261 = .ok (.iadd, 1) := by decide +kernel
theorem dL_law_262 : decode cL_law 262 = .ok (.iaload, 1) := by decide +kernel
theorem dL_law_263 : decode cL_law 263 = .ok (.aload_n 0, 1) := by decide +kernel
theorem dL_law_264 : decode cL_law 264 = .ok (.iload 4, 2) := by decide +kernel
theorem dL_law_266 : decode cL_law 266 = .ok (.iconst 2, 1) := by decide +kernel
theorem dL_law_267 : decode cL_law 267 = .ok (.iadd, 1) := by decide +kernel
theorem dL_law_268 : decode cL_law 268 = .ok (.iaload, 1) := by decide +kernel
theorem dL_law_269 : decode cL_law 269 = .ok (.aload_n 0, 1) := by decide +kernel
theorem dL_law_270 : decode cL_law 270 = .ok (.iload 4, 2) := by decide +kernel
theorem dL_law_272 : decode cL_law 272 = .ok (.iconst 3, 1) := by decide +kernel
theorem dL_law_273 : decode cL_law 273 = .ok (.iadd, 1) := by decide +kernel
theorem dL_law_274 : decode cL_law 274 = .ok (.iaload, 1) := by decide +kernel
theorem dL_law_275 : decode cL_law 275 = .ok (.aload_n 3, 1) := by decide +kernel
theorem dL_law_276 : decode cL_law 276 = .ok (.invokestatic 123, 3) := by decide +kernel
theorem dL_law_279 : decode cL_law 279 = .ok (.istore 5, 2) := by decide +kernel
theorem dL_law_281 : decode cL_law 281 = .ok (.aload_n 2, 1) := by decide +kernel
theorem dL_law_282 : decode cL_law 282 = .ok (.aload_n 0, 1) := by decide +kernel
theorem dL_law_283 : decode cL_law 283 = .ok (.iload 4, 2) := by decide +kernel
theorem dL_law_285 : decode cL_law 285 = .ok (.iconst 1, 1) := by decide +kernel
theorem dL_law_286 : decode cL_law 286 = .ok (.iadd, 1) := by decide +kernel
theorem dL_law_287 : decode cL_law 287 = .ok (.iaload, 1) := by decide +kernel
theorem dL_law_288 : decode cL_law 288 = .ok (.aload_n 0, 1) := by decide +kernel
theorem dL_law_289 : decode cL_law 289 = .ok (.iload 4, 2) := by decide +kernel
theorem dL_law_291 : decode cL_law 291 = .ok (.iconst 2, 1) := by decide +kernel
theorem dL_law_292 : decode cL_law 292 = .ok (.iadd, 1) := by decide +kernel
theorem dL_law_293 : decode cL_law 293 = .ok (.iaload, 1) := by decide +kernel
theorem dL_law_294 : decode cL_law 294 = .ok (.aload_n 0, 1) := by decide +kernel
theorem dL_law_295 : decode cL_law 295 = .ok (.iload 4, 2) := by decide +kernel
theorem dL_law_297 : decode cL_law 297 = .ok (.iconst 3, 1) := by decide +kernel
theorem dL_law_298 : decode cL_law 298 = .ok (.iadd, 1) := by decide +kernel
theorem dL_law_299 : decode cL_law 299 = .ok (.iaload, 1) := by decide +kernel
theorem dL_law_300 : decode cL_law 300 = .ok (.invokevirtual 126, 3) := by decide +kernel
theorem dL_law_303 : decode cL_law 303 = .ok (.istore 6, 2) := by decide +kernel
theorem dL_law_305 : decode cL_law 305 = .ok (.aload_n 2, 1) := by decide +kernel
theorem dL_law_306 : decode cL_law 306 = .ok (.invokevirtual 119, 3) := by decide +kernel
theorem dL_law_309 : decode cL_law 309 = .ok (.iload 5, 2) := by decide +kernel
theorem dL_law_311 : decode cL_law 311 = .ok (.if_icmp .eq 5, 3) := by decide +kernel
theorem dL_law_314 : decode cL_law 314 = .ok (.iconst 0, 1) := by decide +kernel
theorem dL_law_315 : decode cL_law 315 = .ok (.ireturn, 1) := by decide +kernel
theorem dL_law_316 : decode cL_law 316 = .ok (.iload 5, 2) := by decide +kernel
theorem dL_law_318 : decode cL_law 318 = .ok (.ifCond .ne 15, 3) := by decide +kernel
theorem dL_law_321 : decode cL_law 321 = .ok (.aload_n 3, 1) := by decide +kernel
theorem dL_law_322 : decode cL_law 322 = .ok (.iconst 0, 1) := by decide +kernel
theorem dL_law_323 : decode cL_law 323 = .ok (.laload, 1) := by decide +kernel
theorem dL_law_324 : decode cL_law 324 = .ok (.iload 6, 2) := by decide +kernel
theorem dL_law_326 : decode cL_law 326 = .ok (.i2l, 1) := by decide +kernel
theorem dL_law_327 : decode cL_law 327 = .ok (.lcmp, 1) := by decide +kernel
theorem dL_law_328 : decode cL_law 328 = .ok (.ifCond .eq 5, 3) := by decide +kernel
theorem dL_law_331 : decode cL_law 331 = .ok (.iconst 0, 1) := by decide +kernel
theorem dL_law_332 : decode cL_law 332 = .ok (.ireturn, 1) := by decide +kernel
theorem dL_law_333 : decode cL_law 333 = .ok (.goto 1939, 3) := by decide +kernel
theorem dL_law_336 : decode cL_law 336 = .ok (.aload_n 1, 1) := by decide +kernel
theorem dL_law_337 : decode cL_law 337 = .ok (.aload_n 0, 1) := by decide +kernel
theorem dL_law_338 : decode cL_law 338 = .ok (.iload 4, 2) := by decide +kernel
theorem dL_law_340 : decode cL_law 340 = .ok (.iconst 1, 1) := by decide +kernel
theorem dL_law_341 : decode cL_law 341 = .ok (.iadd, 1) := by decide +kernel
theorem dL_law_342 : decode cL_law 342 = .ok (.iaload, 1) := by decide +kernel
theorem dL_law_343 : decode cL_law 343 = .ok (.aload_n 0, 1) := by decide +kernel
theorem dL_law_344 : decode cL_law 344 = .ok (.iload 4, 2) := by decide +kernel
theorem dL_law_346 : decode cL_law 346 = .ok (.iconst 2, 1) := by decide +kernel
theorem dL_law_347 : decode cL_law 347 = .ok (.iadd, 1) := by decide +kernel
theorem dL_law_348 : decode cL_law 348 = .ok (.iaload, 1) := by decide +kernel
theorem dL_law_349 : decode cL_law 349 = .ok (.aload_n 0, 1) := by decide +kernel
theorem dL_law_350 : decode cL_law 350 = .ok (.iload 4, 2) := by decide +kernel
theorem dL_law_352 : decode cL_law 352 = .ok (.iconst 3, 1) := by decide +kernel
theorem dL_law_353 : decode cL_law 353 = .ok (.iadd, 1) := by decide +kernel
theorem dL_law_354 : decode cL_law 354 = .ok (.iaload, 1) := by decide +kernel
theorem dL_law_355 : decode cL_law 355 = .ok (.aload_n 3, 1) := by decide +kernel
theorem dL_law_356 : decode cL_law 356 = .ok (.invokestatic 127, 3) := by decide +kernel
theorem dL_law_359 : decode cL_law 359 = .ok (.istore 5, 2) := by decide +kernel
theorem dL_law_361 : decode cL_law 361 = .ok (.aload_n 2, 1) := by decide +kernel
theorem dL_law_362 : decode cL_law 362 = .ok (.aload_n 0, 1) := by decide +kernel
theorem dL_law_363 : decode cL_law 363 = .ok (.iload 4, 2) := by decide +kernel
theorem dL_law_365 : decode cL_law 365 = .ok (.iconst 1, 1) := by decide +kernel
theorem dL_law_366 : decode cL_law 366 = .ok (.iadd, 1) := by decide +kernel
theorem dL_law_367 : decode cL_law 367 = .ok (.iaload, 1) := by decide +kernel
theorem dL_law_368 : decode cL_law 368 = .ok (.aload_n 0, 1) := by decide +kernel
theorem dL_law_369 : decode cL_law 369 = .ok (.iload 4, 2) := by decide +kernel
theorem dL_law_371 : decode cL_law 371 = .ok (.iconst 2, 1) := by decide +kernel
theorem dL_law_372 : decode cL_law 372 = .ok (.iadd, 1) := by decide +kernel
theorem dL_law_373 : decode cL_law 373 = .ok (.iaload, 1) := by decide +kernel
theorem dL_law_374 : decode cL_law 374 = .ok (.aload_n 0, 1) := by decide +kernel
theorem dL_law_375 : decode cL_law 375 = .ok (.iload 4, 2) := by decide +kernel
theorem dL_law_377 : decode cL_law 377 = .ok (.iconst 3, 1) := by decide +kernel
theorem dL_law_378 : decode cL_law 378 = .ok (.iadd, 1) := by decide +kernel
theorem dL_law_379 : decode cL_law 379 = .ok (.iaload, 1) := by decide +kernel
theorem dL_law_380 : decode cL_law 380 = .ok (.invokevirtual 129, 3) := by decide +kernel
theorem dL_law_383 : decode cL_law 383 = .ok (.istore 6, 2) := by decide +kernel
theorem dL_law_385 : decode cL_law 385 = .ok (.aload_n 2, 1) := by decide +kernel
theorem dL_law_386 : decode cL_law 386 = .ok (.invokevirtual 119, 3) := by decide +kernel
theorem dL_law_389 : decode cL_law 389 = .ok (.iload 5, 2) := by decide +kernel
theorem dL_law_391 : decode cL_law 391 = .ok (.if_icmp .eq 5, 3) := by decide +kernel
theorem dL_law_394 : decode cL_law 394 = .ok (.iconst 0, 1) := by decide +kernel
theorem dL_law_395 : decode cL_law 395 = .ok (.ireturn, 1) := by decide +kernel
theorem dL_law_396 : decode cL_law 396 = .ok (.iload 5, 2) := by decide +kernel
theorem dL_law_398 : decode cL_law 398 = .ok (.ifCond .ne 15, 3) := by decide +kernel
theorem dL_law_401 : decode cL_law 401 = .ok (.aload_n 3, 1) := by decide +kernel
theorem dL_law_402 : decode cL_law 402 = .ok (.iconst 0, 1) := by decide +kernel
theorem dL_law_403 : decode cL_law 403 = .ok (.laload, 1) := by decide +kernel
theorem dL_law_404 : decode cL_law 404 = .ok (.iload 6, 2) := by decide +kernel
theorem dL_law_406 : decode cL_law 406 = .ok (.i2l, 1) := by decide +kernel
theorem dL_law_407 : decode cL_law 407 = .ok (.lcmp, 1) := by decide +kernel
theorem dL_law_408 : decode cL_law 408 = .ok (.ifCond .eq 5, 3) := by decide +kernel
theorem dL_law_411 : decode cL_law 411 = .ok (.iconst 0, 1) := by decide +kernel
theorem dL_law_412 : decode cL_law 412 = .ok (.ireturn, 1) := by decide +kernel
theorem dL_law_413 : decode cL_law 413 = .ok (.goto 1859, 3) := by decide +kernel
theorem dL_law_416 : decode cL_law 416 = .ok (.aload_n 1, 1) := by decide +kernel
theorem dL_law_417 : decode cL_law 417 = .ok (.aload_n 0, 1) := by decide +kernel
theorem dL_law_418 : decode cL_law 418 = .ok (.iload 4, 2) := by decide +kernel
theorem dL_law_420 : decode cL_law 420 = .ok (.iconst 1, 1) := by decide +kernel
theorem dL_law_421 : decode cL_law 421 = .ok (.iadd, 1) := by decide +kernel
theorem dL_law_422 : decode cL_law 422 = .ok (.iaload, 1) := by decide +kernel
theorem dL_law_423 : decode cL_law 423 = .ok (.aload_n 0, 1) := by decide +kernel
theorem dL_law_424 : decode cL_law 424 = .ok (.iload 4, 2) := by decide +kernel
theorem dL_law_426 : decode cL_law 426 = .ok (.iconst 2, 1) := by decide +kernel
theorem dL_law_427 : decode cL_law 427 = .ok (.iadd, 1) := by decide +kernel
theorem dL_law_428 : decode cL_law 428 = .ok (.iaload, 1) := by decide +kernel
theorem dL_law_429 : decode cL_law 429 = .ok (.aload_n 3, 1) := by decide +kernel
theorem dL_law_430 : decode cL_law 430 = .ok (.invokestatic 130, 3) := by decide +kernel
theorem dL_law_433 : decode cL_law 433 = .ok (.istore 5, 2) := by decide +kernel
theorem dL_law_435 : decode cL_law 435 = .ok (.aload_n 2, 1) := by decide +kernel
theorem dL_law_436 : decode cL_law 436 = .ok (.aload_n 0, 1) := by decide +kernel
theorem dL_law_437 : decode cL_law 437 = .ok (.iload 4, 2) := by decide +kernel
theorem dL_law_439 : decode cL_law 439 = .ok (.iconst 1, 1) := by decide +kernel
theorem dL_law_440 : decode cL_law 440 = .ok (.iadd, 1) := by decide +kernel
theorem dL_law_441 : decode cL_law 441 = .ok (.iaload, 1) := by decide +kernel
theorem dL_law_442 : decode cL_law 442 = .ok (.aload_n 0, 1) := by decide +kernel
theorem dL_law_443 : decode cL_law 443 = .ok (.iload 4, 2) := by decide +kernel
theorem dL_law_445 : decode cL_law 445 = .ok (.iconst 2, 1) := by decide +kernel
theorem dL_law_446 : decode cL_law 446 = .ok (.iadd, 1) := by decide +kernel
theorem dL_law_447 : decode cL_law 447 = .ok (.iaload, 1) := by decide +kernel
theorem dL_law_448 : decode cL_law 448 = .ok (.invokevirtual 133, 3) := by decide +kernel
theorem dL_law_451 : decode cL_law 451 = .ok (.istore 6, 2) := by decide +kernel
theorem dL_law_453 : decode cL_law 453 = .ok (.aload_n 2, 1) := by decide +kernel
theorem dL_law_454 : decode cL_law 454 = .ok (.invokevirtual 119, 3) := by decide +kernel
theorem dL_law_457 : decode cL_law 457 = .ok (.iload 5, 2) := by decide +kernel
theorem dL_law_459 : decode cL_law 459 = .ok (.if_icmp .eq 5, 3) := by decide +kernel
theorem dL_law_462 : decode cL_law 462 = .ok (.iconst 0, 1) := by decide +kernel
theorem dL_law_463 : decode cL_law 463 = .ok (.ireturn, 1) := by decide +kernel
theorem dL_law_464 : decode cL_law 464 = .ok (.iload 5, 2) := by decide +kernel
theorem dL_law_466 : decode cL_law 466 = .ok (.ifCond .ne 15, 3) := by decide +kernel
theorem dL_law_469 : decode cL_law 469 = .ok (.aload_n 3, 1) := by decide +kernel
theorem dL_law_470 : decode cL_law 470 = .ok (.iconst 0, 1) := by decide +kernel
theorem dL_law_471 : decode cL_law 471 = .ok (.laload, 1) := by decide +kernel
theorem dL_law_472 : decode cL_law 472 = .ok (.iload 6, 2) := by decide +kernel
theorem dL_law_474 : decode cL_law 474 = .ok (.i2l, 1) := by decide +kernel
theorem dL_law_475 : decode cL_law 475 = .ok (.lcmp, 1) := by decide +kernel
theorem dL_law_476 : decode cL_law 476 = .ok (.ifCond .eq 5, 3) := by decide +kernel
theorem dL_law_479 : decode cL_law 479 = .ok (.iconst 0, 1) := by decide +kernel
theorem dL_law_480 : decode cL_law 480 = .ok (.ireturn, 1) := by decide +kernel
theorem dL_law_481 : decode cL_law 481 = .ok (.goto 1791, 3) := by decide +kernel
theorem dL_law_484 : decode cL_law 484 = .ok (.aload_n 1, 1) := by decide +kernel
theorem dL_law_485 : decode cL_law 485 = .ok (.aload_n 0, 1) := by decide +kernel
theorem dL_law_486 : decode cL_law 486 = .ok (.iload 4, 2) := by decide +kernel
theorem dL_law_488 : decode cL_law 488 = .ok (.iconst 1, 1) := by decide +kernel
theorem dL_law_489 : decode cL_law 489 = .ok (.iadd, 1) := by decide +kernel
theorem dL_law_490 : decode cL_law 490 = .ok (.iaload, 1) := by decide +kernel
theorem dL_law_491 : decode cL_law 491 = .ok (.aload_n 3, 1) := by decide +kernel
theorem dL_law_492 : decode cL_law 492 = .ok (.invokestatic 134, 3) := by decide +kernel
theorem dL_law_495 : decode cL_law 495 = .ok (.istore 5, 2) := by decide +kernel
theorem dL_law_497 : decode cL_law 497 = .ok (.aload_n 2, 1) := by decide +kernel
theorem dL_law_498 : decode cL_law 498 = .ok (.aload_n 0, 1) := by decide +kernel
theorem dL_law_499 : decode cL_law 499 = .ok (.iload 4, 2) := by decide +kernel
theorem dL_law_501 : decode cL_law 501 = .ok (.iconst 1, 1) := by decide +kernel
theorem dL_law_502 : decode cL_law 502 = .ok (.iadd, 1) := by decide +kernel
theorem dL_law_503 : decode cL_law 503 = .ok (.iaload, 1) := by decide +kernel
theorem dL_law_504 : decode cL_law 504 = .ok (.invokevirtual 136, 3) := by decide +kernel
theorem dL_law_507 : decode cL_law 507 = .ok (.istore 6, 2) := by decide +kernel
theorem dL_law_509 : decode cL_law 509 = .ok (.aload_n 2, 1) := by decide +kernel
theorem dL_law_510 : decode cL_law 510 = .ok (.invokevirtual 119, 3) := by decide +kernel
theorem dL_law_513 : decode cL_law 513 = .ok (.iload 5, 2) := by decide +kernel
theorem dL_law_515 : decode cL_law 515 = .ok (.if_icmp .eq 5, 3) := by decide +kernel
theorem dL_law_518 : decode cL_law 518 = .ok (.iconst 0, 1) := by decide +kernel
theorem dL_law_519 : decode cL_law 519 = .ok (.ireturn, 1) := by decide +kernel
theorem dL_law_520 : decode cL_law 520 = .ok (.iload 5, 2) := by decide +kernel
theorem dL_law_522 : decode cL_law 522 = .ok (.ifCond .ne 15, 3) := by decide +kernel
theorem dL_law_525 : decode cL_law 525 = .ok (.aload_n 3, 1) := by decide +kernel
theorem dL_law_526 : decode cL_law 526 = .ok (.iconst 0, 1) := by decide +kernel
theorem dL_law_527 : decode cL_law 527 = .ok (.laload, 1) := by decide +kernel
theorem dL_law_528 : decode cL_law 528 = .ok (.iload 6, 2) := by decide +kernel
theorem dL_law_530 : decode cL_law 530 = .ok (.i2l, 1) := by decide +kernel
theorem dL_law_531 : decode cL_law 531 = .ok (.lcmp, 1) := by decide +kernel
theorem dL_law_532 : decode cL_law 532 = .ok (.ifCond .eq 5, 3) := by decide +kernel
theorem dL_law_535 : decode cL_law 535 = .ok (.iconst 0, 1) := by decide +kernel
theorem dL_law_536 : decode cL_law 536 = .ok (.ireturn, 1) := by decide +kernel
theorem dL_law_537 : decode cL_law 537 = .ok (.goto 1735, 3) := by decide +kernel
theorem dL_law_540 : decode cL_law 540 = .ok (.aload_n 1, 1) := by decide +kernel
theorem dL_law_541 : decode cL_law 541 = .ok (.aload_n 0, 1) := by decide +kernel
theorem dL_law_542 : decode cL_law 542 = .ok (.iload 4, 2) := by decide +kernel
theorem dL_law_544 : decode cL_law 544 = .ok (.iconst 1, 1) := by decide +kernel
theorem dL_law_545 : decode cL_law 545 = .ok (.iadd, 1) := by decide +kernel
theorem dL_law_546 : decode cL_law 546 = .ok (.iaload, 1) := by decide +kernel
theorem dL_law_547 : decode cL_law 547 = .ok (.aload_n 0, 1) := by decide +kernel
theorem dL_law_548 : decode cL_law 548 = .ok (.iload 4, 2) := by decide +kernel
theorem dL_law_550 : decode cL_law 550 = .ok (.iconst 2, 1) := by decide +kernel
theorem dL_law_551 : decode cL_law 551 = .ok (.iadd, 1) := by decide +kernel
theorem dL_law_552 : decode cL_law 552 = .ok (.iaload, 1) := by decide +kernel
theorem dL_law_553 : decode cL_law 553 = .ok (.aload_n 0, 1) := by decide +kernel
theorem dL_law_554 : decode cL_law 554 = .ok (.iload 4, 2) := by decide +kernel
theorem dL_law_556 : decode cL_law 556 = .ok (.iconst 3, 1) := by decide +kernel
theorem dL_law_557 : decode cL_law 557 = .ok (.iadd, 1) := by decide +kernel
theorem dL_law_558 : decode cL_law 558 = .ok (.iaload, 1) := by decide +kernel
theorem dL_law_559 : decode cL_law 559 = .ok (.aload_n 0, 1) := by decide +kernel
theorem dL_law_560 : decode cL_law 560 = .ok (.iload 4, 2) := by decide +kernel
theorem dL_law_562 : decode cL_law 562 = .ok (.iconst 4, 1) := by decide +kernel
theorem dL_law_563 : decode cL_law 563 = .ok (.iadd, 1) := by decide +kernel
theorem dL_law_564 : decode cL_law 564 = .ok (.iaload, 1) := by decide +kernel
theorem dL_law_565 : decode cL_law 565 = .ok (.aload_n 0, 1) := by decide +kernel
theorem dL_law_566 : decode cL_law 566 = .ok (.iload 4, 2) := by decide +kernel
theorem dL_law_568 : decode cL_law 568 = .ok (.iconst 5, 1) := by decide +kernel
theorem dL_law_569 : decode cL_law 569 = .ok (.iadd, 1) := by decide +kernel
theorem dL_law_570 : decode cL_law 570 = .ok (.iaload, 1) := by decide +kernel
theorem dL_law_571 : decode cL_law 571 = .ok (.aload_n 3, 1) := by decide +kernel
theorem dL_law_572 : decode cL_law 572 = .ok (.invokestatic 137, 3) := by decide +kernel
theorem dL_law_575 : decode cL_law 575 = .ok (.istore 5, 2) := by decide +kernel
theorem dL_law_577 : decode cL_law 577 = .ok (.aload_n 2, 1) := by decide +kernel
theorem dL_law_578 : decode cL_law 578 = .ok (.aload_n 0, 1) := by decide +kernel
theorem dL_law_579 : decode cL_law 579 = .ok (.iload 4, 2) := by decide +kernel
theorem dL_law_581 : decode cL_law 581 = .ok (.iconst 1, 1) := by decide +kernel
theorem dL_law_582 : decode cL_law 582 = .ok (.iadd, 1) := by decide +kernel
theorem dL_law_583 : decode cL_law 583 = .ok (.iaload, 1) := by decide +kernel
theorem dL_law_584 : decode cL_law 584 = .ok (.aload_n 0, 1) := by decide +kernel
theorem dL_law_585 : decode cL_law 585 = .ok (.iload 4, 2) := by decide +kernel
theorem dL_law_587 : decode cL_law 587 = .ok (.iconst 2, 1) := by decide +kernel
theorem dL_law_588 : decode cL_law 588 = .ok (.iadd, 1) := by decide +kernel
theorem dL_law_589 : decode cL_law 589 = .ok (.iaload, 1) := by decide +kernel
theorem dL_law_590 : decode cL_law 590 = .ok (.aload_n 0, 1) := by decide +kernel
theorem dL_law_591 : decode cL_law 591 = .ok (.iload 4, 2) := by decide +kernel
theorem dL_law_593 : decode cL_law 593 = .ok (.iconst 3, 1) := by decide +kernel
theorem dL_law_594 : decode cL_law 594 = .ok (.iadd, 1) := by decide +kernel
theorem dL_law_595 : decode cL_law 595 = .ok (.iaload, 1) := by decide +kernel
theorem dL_law_596 : decode cL_law 596 = .ok (.aload_n 0, 1) := by decide +kernel
theorem dL_law_597 : decode cL_law 597 = .ok (.iload 4, 2) := by decide +kernel
theorem dL_law_599 : decode cL_law 599 = .ok (.iconst 4, 1) := by decide +kernel
theorem dL_law_600 : decode cL_law 600 = .ok (.iadd, 1) := by decide +kernel
theorem dL_law_601 : decode cL_law 601 = .ok (.iaload, 1) := by decide +kernel
theorem dL_law_602 : decode cL_law 602 = .ok (.aload_n 0, 1) := by decide +kernel
theorem dL_law_603 : decode cL_law 603 = .ok (.iload 4, 2) := by decide +kernel
theorem dL_law_605 : decode cL_law 605 = .ok (.iconst 5, 1) := by decide +kernel
theorem dL_law_606 : decode cL_law 606 = .ok (.iadd, 1) := by decide +kernel
theorem dL_law_607 : decode cL_law 607 = .ok (.iaload, 1) := by decide +kernel
theorem dL_law_608 : decode cL_law 608 = .ok (.invokevirtual 140, 3) := by decide +kernel
theorem dL_law_611 : decode cL_law 611 = .ok (.istore 6, 2) := by decide +kernel
theorem dL_law_613 : decode cL_law 613 = .ok (.aload_n 2, 1) := by decide +kernel
theorem dL_law_614 : decode cL_law 614 = .ok (.invokevirtual 119, 3) := by decide +kernel
theorem dL_law_617 : decode cL_law 617 = .ok (.iload 5, 2) := by decide +kernel
theorem dL_law_619 : decode cL_law 619 = .ok (.if_icmp .eq 5, 3) := by decide +kernel
theorem dL_law_622 : decode cL_law 622 = .ok (.iconst 0, 1) := by decide +kernel
theorem dL_law_623 : decode cL_law 623 = .ok (.ireturn, 1) := by decide +kernel
theorem dL_law_624 : decode cL_law 624 = .ok (.iload 5, 2) := by decide +kernel
theorem dL_law_626 : decode cL_law 626 = .ok (.ifCond .ne 15, 3) := by decide +kernel
theorem dL_law_629 : decode cL_law 629 = .ok (.aload_n 3, 1) := by decide +kernel
theorem dL_law_630 : decode cL_law 630 = .ok (.iconst 0, 1) := by decide +kernel
theorem dL_law_631 : decode cL_law 631 = .ok (.laload, 1) := by decide +kernel
theorem dL_law_632 : decode cL_law 632 = .ok (.iload 6, 2) := by decide +kernel
theorem dL_law_634 : decode cL_law 634 = .ok (.i2l, 1) := by decide +kernel
theorem dL_law_635 : decode cL_law 635 = .ok (.lcmp, 1) := by decide +kernel
theorem dL_law_636 : decode cL_law 636 = .ok (.ifCond .eq 5, 3) := by decide +kernel
theorem dL_law_639 : decode cL_law 639 = .ok (.iconst 0, 1) := by decide +kernel
theorem dL_law_640 : decode cL_law 640 = .ok (.ireturn, 1) := by decide +kernel
theorem dL_law_641 : decode cL_law 641 = .ok (.goto 1631, 3) := by decide +kernel
theorem dL_law_644 : decode cL_law 644 = .ok (.aload_n 1, 1) := by decide +kernel
theorem dL_law_645 : decode cL_law 645 = .ok (.aload_n 0, 1) := by decide +kernel
theorem dL_law_646 : decode cL_law 646 = .ok (.iload 4, 2) := by decide +kernel
theorem dL_law_648 : decode cL_law 648 = .ok (.iconst 1, 1) := by decide +kernel
theorem dL_law_649 : decode cL_law 649 = .ok (.iadd, 1) := by decide +kernel
theorem dL_law_650 : decode cL_law 650 = .ok (.iaload, 1) := by decide +kernel
theorem dL_law_651 : decode cL_law 651 = .ok (.aload_n 0, 1) := by decide +kernel
theorem dL_law_652 : decode cL_law 652 = .ok (.iload 4, 2) := by decide +kernel
theorem dL_law_654 : decode cL_law 654 = .ok (.iconst 2, 1) := by decide +kernel
theorem dL_law_655 : decode cL_law 655 = .ok (.iadd, 1) := by decide +kernel
theorem dL_law_656 : decode cL_law 656 = .ok (.iaload, 1) := by decide +kernel
theorem dL_law_657 : decode cL_law 657 = .ok (.aload_n 3, 1) := by decide +kernel
theorem dL_law_658 : decode cL_law 658 = .ok (.invokestatic 141, 3) := by decide +kernel
theorem dL_law_661 : decode cL_law 661 = .ok (.istore 5, 2) := by decide +kernel
theorem dL_law_663 : decode cL_law 663 = .ok (.aload_n 2, 1) := by decide +kernel
theorem dL_law_664 : decode cL_law 664 = .ok (.aload_n 0, 1) := by decide +kernel
theorem dL_law_665 : decode cL_law 665 = .ok (.iload 4, 2) := by decide +kernel
theorem dL_law_667 : decode cL_law 667 = .ok (.iconst 1, 1) := by decide +kernel
theorem dL_law_668 : decode cL_law 668 = .ok (.iadd, 1) := by decide +kernel
theorem dL_law_669 : decode cL_law 669 = .ok (.iaload, 1) := by decide +kernel
theorem dL_law_670 : decode cL_law 670 = .ok (.aload_n 0, 1) := by decide +kernel
theorem dL_law_671 : decode cL_law 671 = .ok (.iload 4, 2) := by decide +kernel
theorem dL_law_673 : decode cL_law 673 = .ok (.iconst 2, 1) := by decide +kernel
theorem dL_law_674 : decode cL_law 674 = .ok (.iadd, 1) := by decide +kernel
theorem dL_law_675 : decode cL_law 675 = .ok (.iaload, 1) := by decide +kernel
theorem dL_law_676 : decode cL_law 676 = .ok (.invokevirtual 143, 3) := by decide +kernel
theorem dL_law_679 : decode cL_law 679 = .ok (.istore 6, 2) := by decide +kernel
theorem dL_law_681 : decode cL_law 681 = .ok (.aload_n 2, 1) := by decide +kernel
theorem dL_law_682 : decode cL_law 682 = .ok (.invokevirtual 119, 3) := by decide +kernel
theorem dL_law_685 : decode cL_law 685 = .ok (.iload 5, 2) := by decide +kernel
theorem dL_law_687 : decode cL_law 687 = .ok (.if_icmp .eq 5, 3) := by decide +kernel
theorem dL_law_690 : decode cL_law 690 = .ok (.iconst 0, 1) := by decide +kernel
theorem dL_law_691 : decode cL_law 691 = .ok (.ireturn, 1) := by decide +kernel
theorem dL_law_692 : decode cL_law 692 = .ok (.iload 5, 2) := by decide +kernel
theorem dL_law_694 : decode cL_law 694 = .ok (.ifCond .ne 22, 3) := by decide +kernel
theorem dL_law_697 : decode cL_law 697 = .ok (.aload_n 3, 1) := by decide +kernel
theorem dL_law_698 : decode cL_law 698 = .ok (.iconst 0, 1) := by decide +kernel
theorem dL_law_699 : decode cL_law 699 = .ok (.laload, 1) := by decide +kernel
theorem dL_law_700 : decode cL_law 700 = .ok (.iload 6, 2) := by decide +kernel
theorem dL_law_702 : decode cL_law 702 = .ok (.ifCond .eq 7, 3) := by decide +kernel
theorem dL_law_705 : decode cL_law 705 = .ok (.lconst 1, 1) := by decide +kernel
theorem dL_law_706 : decode cL_law 706 = .ok (.goto 4, 3) := by decide +kernel
theorem dL_law_709 : decode cL_law 709 = .ok (.lconst 0, 1) := by decide +kernel
theorem dL_law_710 : decode cL_law 710 = .ok (.lcmp, 1) := by decide +kernel
theorem dL_law_711 : decode cL_law 711 = .ok (.ifCond .eq 5, 3) := by decide +kernel
theorem dL_law_714 : decode cL_law 714 = .ok (.iconst 0, 1) := by decide +kernel
theorem dL_law_715 : decode cL_law 715 = .ok (.ireturn, 1) := by decide +kernel
theorem dL_law_716 : decode cL_law 716 = .ok (.goto 1556, 3) := by decide +kernel
theorem dL_law_719 : decode cL_law 719 = .ok (.aload_n 1, 1) := by decide +kernel
theorem dL_law_720 : decode cL_law 720 = .ok (.aload_n 0, 1) := by decide +kernel
theorem dL_law_721 : decode cL_law 721 = .ok (.iload 4, 2) := by decide +kernel
theorem dL_law_723 : decode cL_law 723 = .ok (.iconst 1, 1) := by decide +kernel
theorem dL_law_724 : decode cL_law 724 = .ok (.iadd, 1) := by decide +kernel
theorem dL_law_725 : decode cL_law 725 = .ok (.iaload, 1) := by decide +kernel
theorem dL_law_726 : decode cL_law 726 = .ok (.aload_n 3, 1) := by decide +kernel
theorem dL_law_727 : decode cL_law 727 = .ok (.invokestatic 144, 3) := by decide +kernel
theorem dL_law_730 : decode cL_law 730 = .ok (.istore 5, 2) := by decide +kernel
theorem dL_law_732 : decode cL_law 732 = .ok (.aload_n 2, 1) := by decide +kernel
theorem dL_law_733 : decode cL_law 733 = .ok (.aload_n 0, 1) := by decide +kernel
theorem dL_law_734 : decode cL_law 734 = .ok (.iload 4, 2) := by decide +kernel
theorem dL_law_736 : decode cL_law 736 = .ok (.iconst 1, 1) := by decide +kernel
theorem dL_law_737 : decode cL_law 737 = .ok (.iadd, 1) := by decide +kernel
theorem dL_law_738 : decode cL_law 738 = .ok (.iaload, 1) := by decide +kernel
theorem dL_law_739 : decode cL_law 739 = .ok (.invokevirtual 146, 3) := by decide +kernel
theorem dL_law_742 : decode cL_law 742 = .ok (.istore 6, 2) := by decide +kernel
theorem dL_law_744 : decode cL_law 744 = .ok (.aload_n 2, 1) := by decide +kernel
theorem dL_law_745 : decode cL_law 745 = .ok (.invokevirtual 119, 3) := by decide +kernel
theorem dL_law_748 : decode cL_law 748 = .ok (.iload 5, 2) := by decide +kernel
theorem dL_law_750 : decode cL_law 750 = .ok (.if_icmp .eq 5, 3) := by decide +kernel
theorem dL_law_753 : decode cL_law 753 = .ok (.iconst 0, 1) := by decide +kernel
theorem dL_law_754 : decode cL_law 754 = .ok (.ireturn, 1) := by decide +kernel
theorem dL_law_755 : decode cL_law 755 = .ok (.iload 5, 2) := by decide +kernel
theorem dL_law_757 : decode cL_law 757 = .ok (.ifCond .ne 15, 3) := by decide +kernel
theorem dL_law_760 : decode cL_law 760 = .ok (.aload_n 3, 1) := by decide +kernel
theorem dL_law_761 : decode cL_law 761 = .ok (.iconst 0, 1) := by decide +kernel
theorem dL_law_762 : decode cL_law 762 = .ok (.laload, 1) := by decide +kernel
theorem dL_law_763 : decode cL_law 763 = .ok (.iload 6, 2) := by decide +kernel
theorem dL_law_765 : decode cL_law 765 = .ok (.i2l, 1) := by decide +kernel
theorem dL_law_766 : decode cL_law 766 = .ok (.lcmp, 1) := by decide +kernel
theorem dL_law_767 : decode cL_law 767 = .ok (.ifCond .eq 5, 3) := by decide +kernel
theorem dL_law_770 : decode cL_law 770 = .ok (.iconst 0, 1) := by decide +kernel
theorem dL_law_771 : decode cL_law 771 = .ok (.ireturn, 1) := by decide +kernel
theorem dL_law_772 : decode cL_law 772 = .ok (.goto 1500, 3) := by decide +kernel
theorem dL_law_775 : decode cL_law 775 = .ok (.aload_n 1, 1) := by decide +kernel
theorem dL_law_776 : decode cL_law 776 = .ok (.aload_n 0, 1) := by decide +kernel
theorem dL_law_777 : decode cL_law 777 = .ok (.iload 4, 2) := by decide +kernel
theorem dL_law_779 : decode cL_law 779 = .ok (.iconst 1, 1) := by decide +kernel
theorem dL_law_780 : decode cL_law 780 = .ok (.iadd, 1) := by decide +kernel
theorem dL_law_781 : decode cL_law 781 = .ok (.iaload, 1) := by decide +kernel
theorem dL_law_782 : decode cL_law 782 = .ok (.aload_n 3, 1) := by decide +kernel
theorem dL_law_783 : decode cL_law 783 = .ok (.invokestatic 147, 3) := by decide +kernel
theorem dL_law_786 : decode cL_law 786 = .ok (.istore 5, 2) := by decide +kernel
theorem dL_law_788 : decode cL_law 788 = .ok (.aload_n 2, 1) := by decide +kernel
theorem dL_law_789 : decode cL_law 789 = .ok (.aload_n 0, 1) := by decide +kernel
theorem dL_law_790 : decode cL_law 790 = .ok (.iload 4, 2) := by decide +kernel
theorem dL_law_792 : decode cL_law 792 = .ok (.iconst 1, 1) := by decide +kernel
theorem dL_law_793 : decode cL_law 793 = .ok (.iadd, 1) := by decide +kernel
theorem dL_law_794 : decode cL_law 794 = .ok (.iaload, 1) := by decide +kernel
theorem dL_law_795 : decode cL_law 795 = .ok (.invokevirtual 149, 3) := by decide +kernel
theorem dL_law_798 : decode cL_law 798 = .ok (.istore 6, 2) := by decide +kernel
theorem dL_law_800 : decode cL_law 800 = .ok (.aload_n 2, 1) := by decide +kernel
theorem dL_law_801 : decode cL_law 801 = .ok (.invokevirtual 119, 3) := by decide +kernel
theorem dL_law_804 : decode cL_law 804 = .ok (.iload 5, 2) := by decide +kernel
theorem dL_law_806 : decode cL_law 806 = .ok (.if_icmp .eq 5, 3) := by decide +kernel
theorem dL_law_809 : decode cL_law 809 = .ok (.iconst 0, 1) := by decide +kernel
theorem dL_law_810 : decode cL_law 810 = .ok (.ireturn, 1) := by decide +kernel
theorem dL_law_811 : decode cL_law 811 = .ok (.iload 5, 2) := by decide +kernel
theorem dL_law_813 : decode cL_law 813 = .ok (.ifCond .ne 15, 3) := by decide +kernel
theorem dL_law_816 : decode cL_law 816 = .ok (.aload_n 3, 1) := by decide +kernel
theorem dL_law_817 : decode cL_law 817 = .ok (.iconst 0, 1) := by decide +kernel
theorem dL_law_818 : decode cL_law 818 = .ok (.laload, 1) := by decide +kernel
theorem dL_law_819 : decode cL_law 819 = .ok (.iload 6, 2) := by decide +kernel
theorem dL_law_821 : decode cL_law 821 = .ok (.i2l, 1) := by decide +kernel
theorem dL_law_822 : decode cL_law 822 = .ok (.lcmp, 1) := by decide +kernel
theorem dL_law_823 : decode cL_law 823 = .ok (.ifCond .eq 5, 3) := by decide +kernel
theorem dL_law_826 : decode cL_law 826 = .ok (.iconst 0, 1) := by decide +kernel
theorem dL_law_827 : decode cL_law 827 = .ok (.ireturn, 1) := by decide +kernel
theorem dL_law_828 : decode cL_law 828 = .ok (.goto 1444, 3) := by decide +kernel
theorem dL_law_831 : decode cL_law 831 = .ok (.aload_n 1, 1) := by decide +kernel
theorem dL_law_832 : decode cL_law 832 = .ok (.aload_n 0, 1) := by decide +kernel
theorem dL_law_833 : decode cL_law 833 = .ok (.iload 4, 2) := by decide +kernel
theorem dL_law_835 : decode cL_law 835 = .ok (.iconst 1, 1) := by decide +kernel
theorem dL_law_836 : decode cL_law 836 = .ok (.iadd, 1) := by decide +kernel
theorem dL_law_837 : decode cL_law 837 = .ok (.iaload, 1) := by decide +kernel
theorem dL_law_838 : decode cL_law 838 = .ok (.aload_n 3, 1) := by decide +kernel
theorem dL_law_839 : decode cL_law 839 = .ok (.invokestatic 150, 3) := by decide +kernel
theorem dL_law_842 : decode cL_law 842 = .ok (.istore 5, 2) := by decide +kernel
theorem dL_law_844 : decode cL_law 844 = .ok (.aload_n 2, 1) := by decide +kernel
theorem dL_law_845 : decode cL_law 845 = .ok (.aload_n 0, 1) := by decide +kernel
theorem dL_law_846 : decode cL_law 846 = .ok (.iload 4, 2) := by decide +kernel
theorem dL_law_848 : decode cL_law 848 = .ok (.iconst 1, 1) := by decide +kernel
theorem dL_law_849 : decode cL_law 849 = .ok (.iadd, 1) := by decide +kernel
theorem dL_law_850 : decode cL_law 850 = .ok (.iaload, 1) := by decide +kernel
theorem dL_law_851 : decode cL_law 851 = .ok (.invokevirtual 152, 3) := by decide +kernel
theorem dL_law_854 : decode cL_law 854 = .ok (.istore 6, 2) := by decide +kernel
theorem dL_law_856 : decode cL_law 856 = .ok (.aload_n 2, 1) := by decide +kernel
theorem dL_law_857 : decode cL_law 857 = .ok (.invokevirtual 119, 3) := by decide +kernel
theorem dL_law_860 : decode cL_law 860 = .ok (.iload 5, 2) := by decide +kernel
theorem dL_law_862 : decode cL_law 862 = .ok (.if_icmp .eq 5, 3) := by decide +kernel
theorem dL_law_865 : decode cL_law 865 = .ok (.iconst 0, 1) := by decide +kernel
theorem dL_law_866 : decode cL_law 866 = .ok (.ireturn, 1) := by decide +kernel
theorem dL_law_867 : decode cL_law 867 = .ok (.iload 5, 2) := by decide +kernel
theorem dL_law_869 : decode cL_law 869 = .ok (.ifCond .ne 15, 3) := by decide +kernel
theorem dL_law_872 : decode cL_law 872 = .ok (.aload_n 3, 1) := by decide +kernel
theorem dL_law_873 : decode cL_law 873 = .ok (.iconst 0, 1) := by decide +kernel
theorem dL_law_874 : decode cL_law 874 = .ok (.laload, 1) := by decide +kernel
theorem dL_law_875 : decode cL_law 875 = .ok (.iload 6, 2) := by decide +kernel
theorem dL_law_877 : decode cL_law 877 = .ok (.i2l, 1) := by decide +kernel
theorem dL_law_878 : decode cL_law 878 = .ok (.lcmp, 1) := by decide +kernel
theorem dL_law_879 : decode cL_law 879 = .ok (.ifCond .eq 5, 3) := by decide +kernel
theorem dL_law_882 : decode cL_law 882 = .ok (.iconst 0, 1) := by decide +kernel
theorem dL_law_883 : decode cL_law 883 = .ok (.ireturn, 1) := by decide +kernel
theorem dL_law_884 : decode cL_law 884 = .ok (.goto 1388, 3) := by decide +kernel
theorem dL_law_887 : decode cL_law 887 = .ok (.aload_n 1, 1) := by decide +kernel
theorem dL_law_888 : decode cL_law 888 = .ok (.aload_n 0, 1) := by decide +kernel
theorem dL_law_889 : decode cL_law 889 = .ok (.iload 4, 2) := by decide +kernel
theorem dL_law_891 : decode cL_law 891 = .ok (.iconst 1, 1) := by decide +kernel
theorem dL_law_892 : decode cL_law 892 = .ok (.iadd, 1) := by decide +kernel
theorem dL_law_893 : decode cL_law 893 = .ok (.iaload, 1) := by decide +kernel
theorem dL_law_894 : decode cL_law 894 = .ok (.aload_n 0, 1) := by decide +kernel
theorem dL_law_895 : decode cL_law 895 = .ok (.iload 4, 2) := by decide +kernel
theorem dL_law_897 : decode cL_law 897 = .ok (.iconst 2, 1) := by decide +kernel
theorem dL_law_898 : decode cL_law 898 = .ok (.iadd, 1) := by decide +kernel
theorem dL_law_899 : decode cL_law 899 = .ok (.iaload, 1) := by decide +kernel
theorem dL_law_900 : decode cL_law 900 = .ok (.aload_n 3, 1) := by decide +kernel
theorem dL_law_901 : decode cL_law 901 = .ok (.invokestatic 153, 3) := by decide +kernel
theorem dL_law_904 : decode cL_law 904 = .ok (.istore 5, 2) := by decide +kernel
theorem dL_law_906 : decode cL_law 906 = .ok (.aload_n 2, 1) := by decide +kernel
theorem dL_law_907 : decode cL_law 907 = .ok (.aload_n 0, 1) := by decide +kernel
theorem dL_law_908 : decode cL_law 908 = .ok (.iload 4, 2) := by decide +kernel
theorem dL_law_910 : decode cL_law 910 = .ok (.iconst 1, 1) := by decide +kernel
theorem dL_law_911 : decode cL_law 911 = .ok (.iadd, 1) := by decide +kernel
theorem dL_law_912 : decode cL_law 912 = .ok (.iaload, 1) := by decide +kernel
theorem dL_law_913 : decode cL_law 913 = .ok (.aload_n 0, 1) := by decide +kernel
theorem dL_law_914 : decode cL_law 914 = .ok (.iload 4, 2) := by decide +kernel
theorem dL_law_916 : decode cL_law 916 = .ok (.iconst 2, 1) := by decide +kernel
theorem dL_law_917 : decode cL_law 917 = .ok (.iadd, 1) := by decide +kernel
theorem dL_law_918 : decode cL_law 918 = .ok (.iaload, 1) := by decide +kernel
theorem dL_law_919 : decode cL_law 919 = .ok (.invokevirtual 155, 3) := by decide +kernel
theorem dL_law_922 : decode cL_law 922 = .ok (.istore 6, 2) := by decide +kernel
theorem dL_law_924 : decode cL_law 924 = .ok (.aload_n 2, 1) := by decide +kernel
theorem dL_law_925 : decode cL_law 925 = .ok (.invokevirtual 119, 3) := by decide +kernel
theorem dL_law_928 : decode cL_law 928 = .ok (.iload 5, 2) := by decide +kernel
theorem dL_law_930 : decode cL_law 930 = .ok (.if_icmp .eq 5, 3) := by decide +kernel
theorem dL_law_933 : decode cL_law 933 = .ok (.iconst 0, 1) := by decide +kernel
theorem dL_law_934 : decode cL_law 934 = .ok (.ireturn, 1) := by decide +kernel
theorem dL_law_935 : decode cL_law 935 = .ok (.iload 5, 2) := by decide +kernel
theorem dL_law_937 : decode cL_law 937 = .ok (.ifCond .ne 15, 3) := by decide +kernel
theorem dL_law_940 : decode cL_law 940 = .ok (.aload_n 3, 1) := by decide +kernel
theorem dL_law_941 : decode cL_law 941 = .ok (.iconst 0, 1) := by decide +kernel
theorem dL_law_942 : decode cL_law 942 = .ok (.laload, 1) := by decide +kernel
theorem dL_law_943 : decode cL_law 943 = .ok (.iload 6, 2) := by decide +kernel
theorem dL_law_945 : decode cL_law 945 = .ok (.i2l, 1) := by decide +kernel
theorem dL_law_946 : decode cL_law 946 = .ok (.lcmp, 1) := by decide +kernel
theorem dL_law_947 : decode cL_law 947 = .ok (.ifCond .eq 5, 3) := by decide +kernel
theorem dL_law_950 : decode cL_law 950 = .ok (.iconst 0, 1) := by decide +kernel
theorem dL_law_951 : decode cL_law 951 = .ok (.ireturn, 1) := by decide +kernel
theorem dL_law_952 : decode cL_law 952 = .ok (.goto 1320, 3) := by decide +kernel
theorem dL_law_955 : decode cL_law 955 = .ok (.aload_n 1, 1) := by decide +kernel
theorem dL_law_956 : decode cL_law 956 = .ok (.aload_n 0, 1) := by decide +kernel
theorem dL_law_957 : decode cL_law 957 = .ok (.iload 4, 2) := by decide +kernel
theorem dL_law_959 : decode cL_law 959 = .ok (.iconst 1, 1) := by decide +kernel
theorem dL_law_960 : decode cL_law 960 = .ok (.iadd, 1) := by decide +kernel
theorem dL_law_961 : decode cL_law 961 = .ok (.iaload, 1) := by decide +kernel
theorem dL_law_962 : decode cL_law 962 = .ok (.aload_n 0, 1) := by decide +kernel
theorem dL_law_963 : decode cL_law 963 = .ok (.iload 4, 2) := by decide +kernel
theorem dL_law_965 : decode cL_law 965 = .ok (.iconst 2, 1) := by decide +kernel
theorem dL_law_966 : decode cL_law 966 = .ok (.iadd, 1) := by decide +kernel
theorem dL_law_967 : decode cL_law 967 = .ok (.iaload, 1) := by decide +kernel
theorem dL_law_968 : decode cL_law 968 = .ok (.aload_n 3, 1) := by decide +kernel
theorem dL_law_969 : decode cL_law 969 = .ok (.invokestatic 156, 3) := by decide +kernel
theorem dL_law_972 : decode cL_law 972 = .ok (.istore 5, 2) := by decide +kernel
theorem dL_law_974 : decode cL_law 974 = .ok (.aload_n 2, 1) := by decide +kernel
theorem dL_law_975 : decode cL_law 975 = .ok (.aload_n 0, 1) := by decide +kernel
theorem dL_law_976 : decode cL_law 976 = .ok (.iload 4, 2) := by decide +kernel
theorem dL_law_978 : decode cL_law 978 = .ok (.iconst 1, 1) := by decide +kernel
theorem dL_law_979 : decode cL_law 979 = .ok (.iadd, 1) := by decide +kernel
theorem dL_law_980 : decode cL_law 980 = .ok (.iaload, 1) := by decide +kernel
theorem dL_law_981 : decode cL_law 981 = .ok (.aload_n 0, 1) := by decide +kernel
theorem dL_law_982 : decode cL_law 982 = .ok (.iload 4, 2) := by decide +kernel
theorem dL_law_984 : decode cL_law 984 = .ok (.iconst 2, 1) := by decide +kernel
theorem dL_law_985 : decode cL_law 985 = .ok (.iadd, 1) := by decide +kernel
theorem dL_law_986 : decode cL_law 986 = .ok (.iaload, 1) := by decide +kernel
theorem dL_law_987 : decode cL_law 987 = .ok (.invokevirtual 158, 3) := by decide +kernel
theorem dL_law_990 : decode cL_law 990 = .ok (.istore 6, 2) := by decide +kernel
theorem dL_law_992 : decode cL_law 992 = .ok (.aload_n 2, 1) := by decide +kernel
theorem dL_law_993 : decode cL_law 993 = .ok (.invokevirtual 119, 3) := by decide +kernel
theorem dL_law_996 : decode cL_law 996 = .ok (.iload 5, 2) := by decide +kernel
theorem dL_law_998 : decode cL_law 998 = .ok (.if_icmp .eq 5, 3) := by decide +kernel
theorem dL_law_1001 : decode cL_law 1001 = .ok (.iconst 0, 1) := by decide +kernel
theorem dL_law_1002 : decode cL_law 1002 = .ok (.ireturn, 1) := by decide +kernel
theorem dL_law_1003 : decode cL_law 1003 = .ok (.iload 5, 2) := by decide +kernel
theorem dL_law_1005 : decode cL_law 1005 = .ok (.ifCond .ne 15, 3) := by decide +kernel
theorem dL_law_1008 : decode cL_law 1008 = .ok (.aload_n 3, 1) := by decide +kernel
theorem dL_law_1009 : decode cL_law 1009 = .ok (.iconst 0, 1) := by decide +kernel
theorem dL_law_1010 : decode cL_law 1010 = .ok (.laload, 1) := by decide +kernel
theorem dL_law_1011 : decode cL_law 1011 = .ok (.iload 6, 2) := by decide +kernel
theorem dL_law_1013 : decode cL_law 1013 = .ok (.i2l, 1) := by decide +kernel
theorem dL_law_1014 : decode cL_law 1014 = .ok (.lcmp, 1) := by decide +kernel
theorem dL_law_1015 : decode cL_law 1015 = .ok (.ifCond .eq 5, 3) := by decide +kernel
theorem dL_law_1018 : decode cL_law 1018 = .ok (.iconst 0, 1) := by decide +kernel
theorem dL_law_1019 : decode cL_law 1019 = .ok (.ireturn, 1) := by decide +kernel
theorem dL_law_1020 : decode cL_law 1020 = .ok (.goto 1252, 3) := by decide +kernel
theorem dL_law_1023 : decode cL_law 1023 = .ok (.aload_n 1, 1) := by decide +kernel
theorem dL_law_1024 : decode cL_law 1024 = .ok (.aload_n 0, 1) := by decide +kernel
theorem dL_law_1025 : decode cL_law 1025 = .ok (.iload 4, 2) := by decide +kernel
theorem dL_law_1027 : decode cL_law 1027 = .ok (.iconst 1, 1) := by decide +kernel
theorem dL_law_1028 : decode cL_law 1028 = .ok (.iadd, 1) := by decide +kernel
theorem dL_law_1029 : decode cL_law 1029 = .ok (.iaload, 1) := by decide +kernel
theorem dL_law_1030 : decode cL_law 1030 = .ok (.aload_n 3, 1) := by decide +kernel
theorem dL_law_1031 : decode cL_law 1031 = .ok (.invokestatic 159, 3) := by decide +kernel
theorem dL_law_1034 : decode cL_law 1034 = .ok (.istore 5, 2) := by decide +kernel
theorem dL_law_1036 : decode cL_law 1036 = .ok (.aload_n 2, 1) := by decide +kernel
theorem dL_law_1037 : decode cL_law 1037 = .ok (.aload_n 0, 1) := by decide +kernel
theorem dL_law_1038 : decode cL_law 1038 = .ok (.iload 4, 2) := by decide +kernel
theorem dL_law_1040 : decode cL_law 1040 = .ok (.iconst 1, 1) := by decide +kernel
theorem dL_law_1041 : decode cL_law 1041 = .ok (.iadd, 1) := by decide +kernel
theorem dL_law_1042 : decode cL_law 1042 = .ok (.iaload, 1) := by decide +kernel
theorem dL_law_1043 : decode cL_law 1043 = .ok (.invokevirtual 161, 3) := by decide +kernel
theorem dL_law_1046 : decode cL_law 1046 = .ok (.istore 6, 2) := by decide +kernel
theorem dL_law_1048 : decode cL_law 1048 = .ok (.aload_n 2, 1) := by decide +kernel
theorem dL_law_1049 : decode cL_law 1049 = .ok (.invokevirtual 119, 3) := by decide +kernel
theorem dL_law_1052 : decode cL_law 1052 = .ok (.iload 5, 2) := by decide +kernel
theorem dL_law_1054 : decode cL_law 1054 = .ok (.if_icmp .eq 5, 3) := by decide +kernel
theorem dL_law_1057 : decode cL_law 1057 = .ok (.iconst 0, 1) := by decide +kernel
theorem dL_law_1058 : decode cL_law 1058 = .ok (.ireturn, 1) := by decide +kernel
theorem dL_law_1059 : decode cL_law 1059 = .ok (.iload 5, 2) := by decide +kernel
theorem dL_law_1061 : decode cL_law 1061 = .ok (.ifCond .ne 15, 3) := by decide +kernel
theorem dL_law_1064 : decode cL_law 1064 = .ok (.aload_n 3, 1) := by decide +kernel
theorem dL_law_1065 : decode cL_law 1065 = .ok (.iconst 0, 1) := by decide +kernel
theorem dL_law_1066 : decode cL_law 1066 = .ok (.laload, 1) := by decide +kernel
theorem dL_law_1067 : decode cL_law 1067 = .ok (.iload 6, 2) := by decide +kernel
theorem dL_law_1069 : decode cL_law 1069 = .ok (.i2l, 1) := by decide +kernel
theorem dL_law_1070 : decode cL_law 1070 = .ok (.lcmp, 1) := by decide +kernel
theorem dL_law_1071 : decode cL_law 1071 = .ok (.ifCond .eq 5, 3) := by decide +kernel
theorem dL_law_1074 : decode cL_law 1074 = .ok (.iconst 0, 1) := by decide +kernel
theorem dL_law_1075 : decode cL_law 1075 = .ok (.ireturn, 1) := by decide +kernel
theorem dL_law_1076 : decode cL_law 1076 = .ok (.goto 1196, 3) := by decide +kernel
theorem dL_law_1079 : decode cL_law 1079 = .ok (.aload_n 1, 1) := by decide +kernel
theorem dL_law_1080 : decode cL_law 1080 = .ok (.aload_n 0, 1) := by decide +kernel
theorem dL_law_1081 : decode cL_law 1081 = .ok (.iload 4, 2) := by decide +kernel
theorem dL_law_1083 : decode cL_law 1083 = .ok (.iconst 1, 1) := by decide +kernel
theorem dL_law_1084 : decode cL_law 1084 = .ok (.iadd, 1) := by decide +kernel
theorem dL_law_1085 : decode cL_law 1085 = .ok (.iaload, 1) := by decide +kernel
theorem dL_law_1086 : decode cL_law 1086 = .ok (.aload_n 3, 1) := by decide +kernel
theorem dL_law_1087 : decode cL_law 1087 = .ok (.invokestatic 162, 3) := by decide +kernel
theorem dL_law_1090 : decode cL_law 1090 = .ok (.istore 5, 2) := by decide +kernel
theorem dL_law_1092 : decode cL_law 1092 = .ok (.aload_n 2, 1) := by decide +kernel
theorem dL_law_1093 : decode cL_law 1093 = .ok (.aload_n 0, 1) := by decide +kernel
theorem dL_law_1094 : decode cL_law 1094 = .ok (.iload 4, 2) := by decide +kernel
theorem dL_law_1096 : decode cL_law 1096 = .ok (.iconst 1, 1) := by decide +kernel
theorem dL_law_1097 : decode cL_law 1097 = .ok (.iadd, 1) := by decide +kernel
theorem dL_law_1098 : decode cL_law 1098 = .ok (.iaload, 1) := by decide +kernel
theorem dL_law_1099 : decode cL_law 1099 = .ok (.invokevirtual 164, 3) := by decide +kernel
theorem dL_law_1102 : decode cL_law 1102 = .ok (.istore 6, 2) := by decide +kernel
theorem dL_law_1104 : decode cL_law 1104 = .ok (.aload_n 2, 1) := by decide +kernel
theorem dL_law_1105 : decode cL_law 1105 = .ok (.invokevirtual 119, 3) := by decide +kernel
theorem dL_law_1108 : decode cL_law 1108 = .ok (.iload 5, 2) := by decide +kernel
theorem dL_law_1110 : decode cL_law 1110 = .ok (.if_icmp .eq 5, 3) := by decide +kernel
theorem dL_law_1113 : decode cL_law 1113 = .ok (.iconst 0, 1) := by decide +kernel
theorem dL_law_1114 : decode cL_law 1114 = .ok (.ireturn, 1) := by decide +kernel
theorem dL_law_1115 : decode cL_law 1115 = .ok (.iload 5, 2) := by decide +kernel
theorem dL_law_1117 : decode cL_law 1117 = .ok (.ifCond .ne 15, 3) := by decide +kernel
theorem dL_law_1120 : decode cL_law 1120 = .ok (.aload_n 3, 1) := by decide +kernel
theorem dL_law_1121 : decode cL_law 1121 = .ok (.iconst 0, 1) := by decide +kernel
theorem dL_law_1122 : decode cL_law 1122 = .ok (.laload, 1) := by decide +kernel
theorem dL_law_1123 : decode cL_law 1123 = .ok (.iload 6, 2) := by decide +kernel
theorem dL_law_1125 : decode cL_law 1125 = .ok (.i2l, 1) := by decide +kernel
theorem dL_law_1126 : decode cL_law 1126 = .ok (.lcmp, 1) := by decide +kernel
theorem dL_law_1127 : decode cL_law 1127 = .ok (.ifCond .eq 5, 3) := by decide +kernel
theorem dL_law_1130 : decode cL_law 1130 = .ok (.iconst 0, 1) := by decide +kernel
theorem dL_law_1131 : decode cL_law 1131 = .ok (.ireturn, 1) := by decide +kernel
theorem dL_law_1132 : decode cL_law 1132 = .ok (.goto 1140, 3) := by decide +kernel
theorem dL_law_1135 : decode cL_law 1135 = .ok (.aload_n 1, 1) := by decide +kernel
theorem dL_law_1136 : decode cL_law 1136 = .ok (.aload_n 0, 1) := by decide +kernel
theorem dL_law_1137 : decode cL_law 1137 = .ok (.iload 4, 2) := by decide +kernel
theorem dL_law_1139 : decode cL_law 1139 = .ok (.iconst 1, 1) := by decide +kernel
theorem dL_law_1140 : decode cL_law 1140 = .ok (.iadd, 1) := by decide +kernel
theorem dL_law_1141 : decode cL_law 1141 = .ok (.iaload, 1) := by decide +kernel
theorem dL_law_1142 : decode cL_law 1142 = .ok (.aload_n 0, 1) := by decide +kernel
theorem dL_law_1143 : decode cL_law 1143 = .ok (.iload 4, 2) := by decide +kernel
theorem dL_law_1145 : decode cL_law 1145 = .ok (.iconst 2, 1) := by decide +kernel
theorem dL_law_1146 : decode cL_law 1146 = .ok (.iadd, 1) := by decide +kernel
theorem dL_law_1147 : decode cL_law 1147 = .ok (.iaload, 1) := by decide +kernel
theorem dL_law_1148 : decode cL_law 1148 = .ok (.aload_n 3, 1) := by decide +kernel
theorem dL_law_1149 : decode cL_law 1149 = .ok (.invokestatic 165, 3) := by decide +kernel
theorem dL_law_1152 : decode cL_law 1152 = .ok (.istore 5, 2) := by decide +kernel
theorem dL_law_1154 : decode cL_law 1154 = .ok (.aload_n 2, 1) := by decide +kernel
theorem dL_law_1155 : decode cL_law 1155 = .ok (.aload_n 0, 1) := by decide +kernel
theorem dL_law_1156 : decode cL_law 1156 = .ok (.iload 4, 2) := by decide +kernel
theorem dL_law_1158 : decode cL_law 1158 = .ok (.iconst 1, 1) := by decide +kernel
theorem dL_law_1159 : decode cL_law 1159 = .ok (.iadd, 1) := by decide +kernel
theorem dL_law_1160 : decode cL_law 1160 = .ok (.iaload, 1) := by decide +kernel
theorem dL_law_1161 : decode cL_law 1161 = .ok (.aload_n 0, 1) := by decide +kernel
theorem dL_law_1162 : decode cL_law 1162 = .ok (.iload 4, 2) := by decide +kernel
theorem dL_law_1164 : decode cL_law 1164 = .ok (.iconst 2, 1) := by decide +kernel
theorem dL_law_1165 : decode cL_law 1165 = .ok (.iadd, 1) := by decide +kernel
theorem dL_law_1166 : decode cL_law 1166 = .ok (.iaload, 1) := by decide +kernel
theorem dL_law_1167 : decode cL_law 1167 = .ok (.invokevirtual 167, 3) := by decide +kernel
theorem dL_law_1170 : decode cL_law 1170 = .ok (.istore 6, 2) := by decide +kernel
theorem dL_law_1172 : decode cL_law 1172 = .ok (.aload_n 2, 1) := by decide +kernel
theorem dL_law_1173 : decode cL_law 1173 = .ok (.invokevirtual 119, 3) := by decide +kernel
theorem dL_law_1176 : decode cL_law 1176 = .ok (.iload 5, 2) := by decide +kernel
theorem dL_law_1178 : decode cL_law 1178 = .ok (.if_icmp .eq 5, 3) := by decide +kernel
theorem dL_law_1181 : decode cL_law 1181 = .ok (.iconst 0, 1) := by decide +kernel
theorem dL_law_1182 : decode cL_law 1182 = .ok (.ireturn, 1) := by decide +kernel
theorem dL_law_1183 : decode cL_law 1183 = .ok (.iload 5, 2) := by decide +kernel
theorem dL_law_1185 : decode cL_law 1185 = .ok (.ifCond .ne 15, 3) := by decide +kernel
theorem dL_law_1188 : decode cL_law 1188 = .ok (.aload_n 3, 1) := by decide +kernel
theorem dL_law_1189 : decode cL_law 1189 = .ok (.iconst 0, 1) := by decide +kernel
theorem dL_law_1190 : decode cL_law 1190 = .ok (.laload, 1) := by decide +kernel
theorem dL_law_1191 : decode cL_law 1191 = .ok (.iload 6, 2) := by decide +kernel
theorem dL_law_1193 : decode cL_law 1193 = .ok (.i2l, 1) := by decide +kernel
theorem dL_law_1194 : decode cL_law 1194 = .ok (.lcmp, 1) := by decide +kernel
theorem dL_law_1195 : decode cL_law 1195 = .ok (.ifCond .eq 5, 3) := by decide +kernel
theorem dL_law_1198 : decode cL_law 1198 = .ok (.iconst 0, 1) := by decide +kernel
theorem dL_law_1199 : decode cL_law 1199 = .ok (.ireturn, 1) := by decide +kernel
theorem dL_law_1200 : decode cL_law 1200 = .ok (.goto 1072, 3) := by decide +kernel
theorem dL_law_1203 : decode cL_law 1203 = .ok (.aload_n 1, 1) := by decide +kernel
theorem dL_law_1204 : decode cL_law 1204 = .ok (.aload_n 0, 1) := by decide +kernel
theorem dL_law_1205 : decode cL_law 1205 = .ok (.iload 4, 2) := by decide +kernel
theorem dL_law_1207 : decode cL_law 1207 = .ok (.iconst 1, 1) := by decide +kernel
theorem dL_law_1208 : decode cL_law 1208 = .ok (.iadd, 1) := by decide +kernel
theorem dL_law_1209 : decode cL_law 1209 = .ok (.iaload, 1) := by decide +kernel
theorem dL_law_1210 : decode cL_law 1210 = .ok (.aload_n 0, 1) := by decide +kernel
theorem dL_law_1211 : decode cL_law 1211 = .ok (.iload 4, 2) := by decide +kernel
theorem dL_law_1213 : decode cL_law 1213 = .ok (.iconst 2, 1) := by decide +kernel
theorem dL_law_1214 : decode cL_law 1214 = .ok (.iadd, 1) := by decide +kernel
theorem dL_law_1215 : decode cL_law 1215 = .ok (.iaload, 1) := by decide +kernel
theorem dL_law_1216 : decode cL_law 1216 = .ok (.aload_n 0, 1) := by decide +kernel
theorem dL_law_1217 : decode cL_law 1217 = .ok (.iload 4, 2) := by decide +kernel
theorem dL_law_1219 : decode cL_law 1219 = .ok (.iconst 3, 1) := by decide +kernel
theorem dL_law_1220 : decode cL_law 1220 = .ok (.iadd, 1) := by decide +kernel
theorem dL_law_1221 : decode cL_law 1221 = .ok (.iaload, 1) := by decide +kernel
theorem dL_law_1222 : decode cL_law 1222 = .ok (.aload_n 3, 1) := by decide +kernel
theorem dL_law_1223 : decode cL_law 1223 = .ok (.invokestatic 168, 3) := by decide +kernel
theorem dL_law_1226 : decode cL_law 1226 = .ok (.istore 5, 2) := by decide +kernel
theorem dL_law_1228 : decode cL_law 1228 = .ok (.aload_n 2, 1) := by decide +kernel
theorem dL_law_1229 : decode cL_law 1229 = .ok (.aload_n 0, 1) := by decide +kernel
theorem dL_law_1230 : decode cL_law 1230 = .ok (.iload 4, 2) := by decide +kernel
theorem dL_law_1232 : decode cL_law 1232 = .ok (.iconst 1, 1) := by decide +kernel
theorem dL_law_1233 : decode cL_law 1233 = .ok (.iadd, 1) := by decide +kernel
theorem dL_law_1234 : decode cL_law 1234 = .ok (.iaload, 1) := by decide +kernel
theorem dL_law_1235 : decode cL_law 1235 = .ok (.aload_n 0, 1) := by decide +kernel
theorem dL_law_1236 : decode cL_law 1236 = .ok (.iload 4, 2) := by decide +kernel
theorem dL_law_1238 : decode cL_law 1238 = .ok (.iconst 2, 1) := by decide +kernel
theorem dL_law_1239 : decode cL_law 1239 = .ok (.iadd, 1) := by decide +kernel
theorem dL_law_1240 : decode cL_law 1240 = .ok (.iaload, 1) := by decide +kernel
theorem dL_law_1241 : decode cL_law 1241 = .ok (.aload_n 0, 1) := by decide +kernel
theorem dL_law_1242 : decode cL_law 1242 = .ok (.iload 4, 2) := by decide +kernel
theorem dL_law_1244 : decode cL_law 1244 = .ok (.iconst 3, 1) := by decide +kernel
theorem dL_law_1245 : decode cL_law 1245 = .ok (.iadd, 1) := by decide +kernel
theorem dL_law_1246 : decode cL_law 1246 = .ok (.iaload, 1) := by decide +kernel
theorem dL_law_1247 : decode cL_law 1247 = .ok (.invokevirtual 170, 3) := by decide +kernel
theorem dL_law_1250 : decode cL_law 1250 = .ok (.istore 6, 2) := by decide +kernel
theorem dL_law_1252 : decode cL_law 1252 = .ok (.aload_n 2, 1) := by decide +kernel
theorem dL_law_1253 : decode cL_law 1253 = .ok (.invokevirtual 119, 3) := by decide +kernel
theorem dL_law_1256 : decode cL_law 1256 = .ok (.iload 5, 2) := by decide +kernel
theorem dL_law_1258 : decode cL_law 1258 = .ok (.if_icmp .eq 5, 3) := by decide +kernel
theorem dL_law_1261 : decode cL_law 1261 = .ok (.iconst 0, 1) := by decide +kernel
theorem dL_law_1262 : decode cL_law 1262 = .ok (.ireturn, 1) := by decide +kernel
theorem dL_law_1263 : decode cL_law 1263 = .ok (.iload 5, 2) := by decide +kernel
theorem dL_law_1265 : decode cL_law 1265 = .ok (.ifCond .ne 15, 3) := by decide +kernel
theorem dL_law_1268 : decode cL_law 1268 = .ok (.aload_n 3, 1) := by decide +kernel
theorem dL_law_1269 : decode cL_law 1269 = .ok (.iconst 0, 1) := by decide +kernel
theorem dL_law_1270 : decode cL_law 1270 = .ok (.laload, 1) := by decide +kernel
theorem dL_law_1271 : decode cL_law 1271 = .ok (.iload 6, 2) := by decide +kernel
theorem dL_law_1273 : decode cL_law 1273 = .ok (.i2l, 1) := by decide +kernel
theorem dL_law_1274 : decode cL_law 1274 = .ok (.lcmp, 1) := by decide +kernel
theorem dL_law_1275 : decode cL_law 1275 = .ok (.ifCond .eq 5, 3) := by decide +kernel
theorem dL_law_1278 : decode cL_law 1278 = .ok (.iconst 0, 1) := by decide +kernel
theorem dL_law_1279 : decode cL_law 1279 = .ok (.ireturn, 1) := by decide +kernel
theorem dL_law_1280 : decode cL_law 1280 = .ok (.goto 992, 3) := by decide +kernel
theorem dL_law_1283 : decode cL_law 1283 = .ok (.aload_n 1, 1) := by decide +kernel
theorem dL_law_1284 : decode cL_law 1284 = .ok (.aload_n 0, 1) := by decide +kernel
theorem dL_law_1285 : decode cL_law 1285 = .ok (.iload 4, 2) := by decide +kernel
theorem dL_law_1287 : decode cL_law 1287 = .ok (.iconst 1, 1) := by decide +kernel
theorem dL_law_1288 : decode cL_law 1288 = .ok (.iadd, 1) := by decide +kernel
theorem dL_law_1289 : decode cL_law 1289 = .ok (.iaload, 1) := by decide +kernel
theorem dL_law_1290 : decode cL_law 1290 = .ok (.aload_n 0, 1) := by decide +kernel
theorem dL_law_1291 : decode cL_law 1291 = .ok (.iload 4, 2) := by decide +kernel
theorem dL_law_1293 : decode cL_law 1293 = .ok (.iconst 2, 1) := by decide +kernel
theorem dL_law_1294 : decode cL_law 1294 = .ok (.iadd, 1) := by decide +kernel
theorem dL_law_1295 : decode cL_law 1295 = .ok (.iaload, 1) := by decide +kernel
theorem dL_law_1296 : decode cL_law 1296 = .ok (.aload_n 3, 1) := by decide +kernel
theorem dL_law_1297 : decode cL_law 1297 = .ok (.invokestatic 171, 3) := by decide +kernel
theorem dL_law_1300 : decode cL_law 1300 = .ok (.istore 5, 2) := by decide +kernel
theorem dL_law_1302 : decode cL_law 1302 = .ok (.aload_n 2, 1) := by decide +kernel
theorem dL_law_1303 : decode cL_law 1303 = .ok (.aload_n 0, 1) := by decide +kernel
theorem dL_law_1304 : decode cL_law 1304 = .ok (.iload 4, 2) := by decide +kernel
theorem dL_law_1306 : decode cL_law 1306 = .ok (.iconst 1, 1) := by decide +kernel
theorem dL_law_1307 : decode cL_law 1307 = .ok (.iadd, 1) := by decide +kernel
theorem dL_law_1308 : decode cL_law 1308 = .ok (.iaload, 1) := by decide +kernel
theorem dL_law_1309 : decode cL_law 1309 = .ok (.aload_n 0, 1) := by decide +kernel
theorem dL_law_1310 : decode cL_law 1310 = .ok (.iload 4, 2) := by decide +kernel
theorem dL_law_1312 : decode cL_law 1312 = .ok (.iconst 2, 1) := by decide +kernel
theorem dL_law_1313 : decode cL_law 1313 = .ok (.iadd, 1) := by decide +kernel
theorem dL_law_1314 : decode cL_law 1314 = .ok (.iaload, 1) := by decide +kernel
theorem dL_law_1315 : decode cL_law 1315 = .ok (.invokevirtual 173, 3) := by decide +kernel
theorem dL_law_1318 : decode cL_law 1318 = .ok (.istore 6, 2) := by decide +kernel
theorem dL_law_1320 : decode cL_law 1320 = .ok (.aload_n 2, 1) := by decide +kernel
theorem dL_law_1321 : decode cL_law 1321 = .ok (.invokevirtual 119, 3) := by decide +kernel
theorem dL_law_1324 : decode cL_law 1324 = .ok (.iload 5, 2) := by decide +kernel
theorem dL_law_1326 : decode cL_law 1326 = .ok (.if_icmp .eq 5, 3) := by decide +kernel
theorem dL_law_1329 : decode cL_law 1329 = .ok (.iconst 0, 1) := by decide +kernel
theorem dL_law_1330 : decode cL_law 1330 = .ok (.ireturn, 1) := by decide +kernel
theorem dL_law_1331 : decode cL_law 1331 = .ok (.iload 5, 2) := by decide +kernel
theorem dL_law_1333 : decode cL_law 1333 = .ok (.ifCond .ne 15, 3) := by decide +kernel
theorem dL_law_1336 : decode cL_law 1336 = .ok (.aload_n 3, 1) := by decide +kernel
theorem dL_law_1337 : decode cL_law 1337 = .ok (.iconst 0, 1) := by decide +kernel
theorem dL_law_1338 : decode cL_law 1338 = .ok (.laload, 1) := by decide +kernel
theorem dL_law_1339 : decode cL_law 1339 = .ok (.iload 6, 2) := by decide +kernel
theorem dL_law_1341 : decode cL_law 1341 = .ok (.i2l, 1) := by decide +kernel
theorem dL_law_1342 : decode cL_law 1342 = .ok (.lcmp, 1) := by decide +kernel
theorem dL_law_1343 : decode cL_law 1343 = .ok (.ifCond .eq 5, 3) := by decide +kernel
theorem dL_law_1346 : decode cL_law 1346 = .ok (.iconst 0, 1) := by decide +kernel
theorem dL_law_1347 : decode cL_law 1347 = .ok (.ireturn, 1) := by decide +kernel
theorem dL_law_1348 : decode cL_law 1348 = .ok (.goto 924, 3) := by decide +kernel
theorem dL_law_1351 : decode cL_law 1351 = .ok (.aload_n 1, 1) := by decide +kernel
theorem dL_law_1352 : decode cL_law 1352 = .ok (.aload_n 0, 1) := by decide +kernel
theorem dL_law_1353 : decode cL_law 1353 = .ok (.iload 4, 2) := by decide +kernel
theorem dL_law_1355 : decode cL_law 1355 = .ok (.iconst 1, 1) := by decide +kernel
theorem dL_law_1356 : decode cL_law 1356 = .ok (.iadd, 1) := by decide +kernel
theorem dL_law_1357 : decode cL_law 1357 = .ok (.iaload, 1) := by decide +kernel
theorem dL_law_1358 : decode cL_law 1358 = .ok (.aload_n 0, 1) := by decide +kernel
theorem dL_law_1359 : decode cL_law 1359 = .ok (.iload 4, 2) := by decide +kernel
theorem dL_law_1361 : decode cL_law 1361 = .ok (.iconst 2, 1) := by decide +kernel
theorem dL_law_1362 : decode cL_law 1362 = .ok (.iadd, 1) := by decide +kernel
theorem dL_law_1363 : decode cL_law 1363 = .ok (.iaload, 1) := by decide +kernel
theorem dL_law_1364 : decode cL_law 1364 = .ok (.aload_n 3, 1) := by decide +kernel
theorem dL_law_1365 : decode cL_law 1365 = .ok (.invokestatic 174, 3) := by decide +kernel
theorem dL_law_1368 : decode cL_law 1368 = .ok (.istore 5, 2) := by decide +kernel
theorem dL_law_1370 : decode cL_law 1370 = .ok (.aload_n 2, 1) := by decide +kernel
theorem dL_law_1371 : decode cL_law 1371 = .ok (.aload_n 0, 1) := by decide +kernel
theorem dL_law_1372 : decode cL_law 1372 = .ok (.iload 4, 2) := by decide +kernel
theorem dL_law_1374 : decode cL_law 1374 = .ok (.iconst 1, 1) := by decide +kernel
theorem dL_law_1375 : decode cL_law 1375 = .ok (.iadd, 1) := by decide +kernel
theorem dL_law_1376 : decode cL_law 1376 = .ok (.iaload, 1) := by decide +kernel
theorem dL_law_1377 : decode cL_law 1377 = .ok (.aload_n 0, 1) := by decide +kernel
theorem dL_law_1378 : decode cL_law 1378 = .ok (.iload 4, 2) := by decide +kernel
theorem dL_law_1380 : decode cL_law 1380 = .ok (.iconst 2, 1) := by decide +kernel
theorem dL_law_1381 : decode cL_law 1381 = .ok (.iadd, 1) := by decide +kernel
theorem dL_law_1382 : decode cL_law 1382 = .ok (.iaload, 1) := by decide +kernel
theorem dL_law_1383 : decode cL_law 1383 = .ok (.invokevirtual 176, 3) := by decide +kernel
theorem dL_law_1386 : decode cL_law 1386 = .ok (.istore 6, 2) := by decide +kernel
theorem dL_law_1388 : decode cL_law 1388 = .ok (.aload_n 2, 1) := by decide +kernel
theorem dL_law_1389 : decode cL_law 1389 = .ok (.invokevirtual 119, 3) := by decide +kernel
theorem dL_law_1392 : decode cL_law 1392 = .ok (.iload 5, 2) := by decide +kernel
theorem dL_law_1394 : decode cL_law 1394 = .ok (.if_icmp .eq 5, 3) := by decide +kernel
theorem dL_law_1397 : decode cL_law 1397 = .ok (.iconst 0, 1) := by decide +kernel
theorem dL_law_1398 : decode cL_law 1398 = .ok (.ireturn, 1) := by decide +kernel
theorem dL_law_1399 : decode cL_law 1399 = .ok (.iload 5, 2) := by decide +kernel
theorem dL_law_1401 : decode cL_law 1401 = .ok (.ifCond .ne 15, 3) := by decide +kernel
theorem dL_law_1404 : decode cL_law 1404 = .ok (.aload_n 3, 1) := by decide +kernel
theorem dL_law_1405 : decode cL_law 1405 = .ok (.iconst 0, 1) := by decide +kernel
theorem dL_law_1406 : decode cL_law 1406 = .ok (.laload, 1) := by decide +kernel
theorem dL_law_1407 : decode cL_law 1407 = .ok (.iload 6, 2) := by decide +kernel
theorem dL_law_1409 : decode cL_law 1409 = .ok (.i2l, 1) := by decide +kernel
theorem dL_law_1410 : decode cL_law 1410 = .ok (.lcmp, 1) := by decide +kernel
theorem dL_law_1411 : decode cL_law 1411 = .ok (.ifCond .eq 5, 3) := by decide +kernel
theorem dL_law_1414 : decode cL_law 1414 = .ok (.iconst 0, 1) := by decide +kernel
theorem dL_law_1415 : decode cL_law 1415 = .ok (.ireturn, 1) := by decide +kernel
theorem dL_law_1416 : decode cL_law 1416 = .ok (.goto 856, 3) := by decide +kernel
theorem dL_law_1419 : decode cL_law 1419 = .ok (.aload_n 1, 1) := by decide +kernel
theorem dL_law_1420 : decode cL_law 1420 = .ok (.aload_n 0, 1) := by decide +kernel
theorem dL_law_1421 : decode cL_law 1421 = .ok (.iload 4, 2) := by decide +kernel
theorem dL_law_1423 : decode cL_law 1423 = .ok (.iconst 1, 1) := by decide +kernel
theorem dL_law_1424 : decode cL_law 1424 = .ok (.iadd, 1) := by decide +kernel
theorem dL_law_1425 : decode cL_law 1425 = .ok (.iaload, 1) := by decide +kernel
theorem dL_law_1426 : decode cL_law 1426 = .ok (.aload_n 0, 1) := by decide +kernel
theorem dL_law_1427 : decode cL_law 1427 = .ok (.iload 4, 2) := by decide +kernel
theorem dL_law_1429 : decode cL_law 1429 = .ok (.iconst 2, 1) := by decide +kernel
theorem dL_law_1430 : decode cL_law 1430 = .ok (.iadd, 1) := by decide +kernel
theorem dL_law_1431 : decode cL_law 1431 = .ok (.iaload, 1) := by decide +kernel
theorem dL_law_1432 : decode cL_law 1432 = .ok (.aload_n 0, 1) := by decide +kernel
theorem dL_law_1433 : decode cL_law 1433 = .ok (.iload 4, 2) := by decide +kernel
theorem dL_law_1435 : decode cL_law 1435 = .ok (.iconst 3, 1) := by decide +kernel
theorem dL_law_1436 : decode cL_law 1436 = .ok (.iadd, 1) := by decide +kernel
theorem dL_law_1437 : decode cL_law 1437 = .ok (.iaload, 1) := by decide +kernel
theorem dL_law_1438 : decode cL_law 1438 = .ok (.aload_n 3, 1) := by decide +kernel
theorem dL_law_1439 : decode cL_law 1439 = .ok (.invokestatic 177, 3) := by decide +kernel
theorem dL_law_1442 : decode cL_law 1442 = .ok (.istore 5, 2) := by decide +kernel
theorem dL_law_1444 : decode cL_law 1444 = .ok (.aload_n 2, 1) := by decide +kernel
theorem dL_law_1445 : decode cL_law 1445 = .ok (.aload_n 0, 1) := by decide +kernel
theorem dL_law_1446 : decode cL_law 1446 = .ok (.iload 4, 2) := by decide +kernel
theorem dL_law_1448 : decode cL_law 1448 = .ok (.iconst 1, 1) := by decide +kernel
theorem dL_law_1449 : decode cL_law 1449 = .ok (.iadd, 1) := by decide +kernel
theorem dL_law_1450 : decode cL_law 1450 = .ok (.iaload, 1) := by decide +kernel
theorem dL_law_1451 : decode cL_law 1451 = .ok (.aload_n 0, 1) := by decide +kernel
theorem dL_law_1452 : decode cL_law 1452 = .ok (.iload 4, 2) := by decide +kernel
theorem dL_law_1454 : decode cL_law 1454 = .ok (.iconst 2, 1) := by decide +kernel
theorem dL_law_1455 : decode cL_law 1455 = .ok (.iadd, 1) := by decide +kernel
theorem dL_law_1456 : decode cL_law 1456 = .ok (.iaload, 1) := by decide +kernel
theorem dL_law_1457 : decode cL_law 1457 = .ok (.aload_n 0, 1) := by decide +kernel
theorem dL_law_1458 : decode cL_law 1458 = .ok (.iload 4, 2) := by decide +kernel
theorem dL_law_1460 : decode cL_law 1460 = .ok (.iconst 3, 1) := by decide +kernel
theorem dL_law_1461 : decode cL_law 1461 = .ok (.iadd, 1) := by decide +kernel
theorem dL_law_1462 : decode cL_law 1462 = .ok (.iaload, 1) := by decide +kernel
theorem dL_law_1463 : decode cL_law 1463 = .ok (.invokevirtual 179, 3) := by decide +kernel
theorem dL_law_1466 : decode cL_law 1466 = .ok (.istore 6, 2) := by decide +kernel
theorem dL_law_1468 : decode cL_law 1468 = .ok (.aload_n 2, 1) := by decide +kernel
theorem dL_law_1469 : decode cL_law 1469 = .ok (.invokevirtual 119, 3) := by decide +kernel
theorem dL_law_1472 : decode cL_law 1472 = .ok (.iload 5, 2) := by decide +kernel
theorem dL_law_1474 : decode cL_law 1474 = .ok (.if_icmp .eq 5, 3) := by decide +kernel
theorem dL_law_1477 : decode cL_law 1477 = .ok (.iconst 0, 1) := by decide +kernel
theorem dL_law_1478 : decode cL_law 1478 = .ok (.ireturn, 1) := by decide +kernel
theorem dL_law_1479 : decode cL_law 1479 = .ok (.iload 5, 2) := by decide +kernel
theorem dL_law_1481 : decode cL_law 1481 = .ok (.ifCond .ne 15, 3) := by decide +kernel
theorem dL_law_1484 : decode cL_law 1484 = .ok (.aload_n 3, 1) := by decide +kernel
theorem dL_law_1485 : decode cL_law 1485 = .ok (.iconst 0, 1) := by decide +kernel
theorem dL_law_1486 : decode cL_law 1486 = .ok (.laload, 1) := by decide +kernel
theorem dL_law_1487 : decode cL_law 1487 = .ok (.iload 6, 2) := by decide +kernel
theorem dL_law_1489 : decode cL_law 1489 = .ok (.i2l, 1) := by decide +kernel
theorem dL_law_1490 : decode cL_law 1490 = .ok (.lcmp, 1) := by decide +kernel
theorem dL_law_1491 : decode cL_law 1491 = .ok (.ifCond .eq 5, 3) := by decide +kernel
theorem dL_law_1494 : decode cL_law 1494 = .ok (.iconst 0, 1) := by decide +kernel
theorem dL_law_1495 : decode cL_law 1495 = .ok (.ireturn, 1) := by decide +kernel
theorem dL_law_1496 : decode cL_law 1496 = .ok (.goto 776, 3) := by decide +kernel
theorem dL_law_1499 : decode cL_law 1499 = .ok (.aload_n 1, 1) := by decide +kernel
theorem dL_law_1500 : decode cL_law 1500 = .ok (.aload_n 0, 1) := by decide +kernel
theorem dL_law_1501 : decode cL_law 1501 = .ok (.iload 4, 2) := by decide +kernel
theorem dL_law_1503 : decode cL_law 1503 = .ok (.iconst 1, 1) := by decide +kernel
theorem dL_law_1504 : decode cL_law 1504 = .ok (.iadd, 1) := by decide +kernel
theorem dL_law_1505 : decode cL_law 1505 = .ok (.iaload, 1) := by decide +kernel
theorem dL_law_1506 : decode cL_law 1506 = .ok (.aload_n 0, 1) := by decide +kernel
theorem dL_law_1507 : decode cL_law 1507 = .ok (.iload 4, 2) := by decide +kernel
theorem dL_law_1509 : decode cL_law 1509 = .ok (.iconst 2, 1) := by decide +kernel
theorem dL_law_1510 : decode cL_law 1510 = .ok (.iadd, 1) := by decide +kernel
theorem dL_law_1511 : decode cL_law 1511 = .ok (.iaload, 1) := by decide +kernel
theorem dL_law_1512 : decode cL_law 1512 = .ok (.aload_n 3, 1) := by decide +kernel
theorem dL_law_1513 : decode cL_law 1513 = .ok (.invokestatic 180, 3) := by decide +kernel
theorem dL_law_1516 : decode cL_law 1516 = .ok (.istore 5, 2) := by decide +kernel
theorem dL_law_1518 : decode cL_law 1518 = .ok (.aload_n 2, 1) := by decide +kernel
theorem dL_law_1519 : decode cL_law 1519 = .ok (.aload_n 0, 1) := by decide +kernel
theorem dL_law_1520 : decode cL_law 1520 = .ok (.iload 4, 2) := by decide +kernel
theorem dL_law_1522 : decode cL_law 1522 = .ok (.iconst 1, 1) := by decide +kernel
theorem dL_law_1523 : decode cL_law 1523 = .ok (.iadd, 1) := by decide +kernel
theorem dL_law_1524 : decode cL_law 1524 = .ok (.iaload, 1) := by decide +kernel
theorem dL_law_1525 : decode cL_law 1525 = .ok (.aload_n 0, 1) := by decide +kernel
theorem dL_law_1526 : decode cL_law 1526 = .ok (.iload 4, 2) := by decide +kernel
theorem dL_law_1528 : decode cL_law 1528 = .ok (.iconst 2, 1) := by decide +kernel
theorem dL_law_1529 : decode cL_law 1529 = .ok (.iadd, 1) := by decide +kernel
theorem dL_law_1530 : decode cL_law 1530 = .ok (.iaload, 1) := by decide +kernel
theorem dL_law_1531 : decode cL_law 1531 = .ok (.invokevirtual 182, 3) := by decide +kernel
theorem dL_law_1534 : decode cL_law 1534 = .ok (.istore 6, 2) := by decide +kernel
theorem dL_law_1536 : decode cL_law 1536 = .ok (.aload_n 2, 1) := by decide +kernel
theorem dL_law_1537 : decode cL_law 1537 = .ok (.invokevirtual 119, 3) := by decide +kernel
theorem dL_law_1540 : decode cL_law 1540 = .ok (.iload 5, 2) := by decide +kernel
theorem dL_law_1542 : decode cL_law 1542 = .ok (.if_icmp .eq 5, 3) := by decide +kernel
theorem dL_law_1545 : decode cL_law 1545 = .ok (.iconst 0, 1) := by decide +kernel
theorem dL_law_1546 : decode cL_law 1546 = .ok (.ireturn, 1) := by decide +kernel
theorem dL_law_1547 : decode cL_law 1547 = .ok (.iload 5, 2) := by decide +kernel
theorem dL_law_1549 : decode cL_law 1549 = .ok (.ifCond .ne 15, 3) := by decide +kernel
theorem dL_law_1552 : decode cL_law 1552 = .ok (.aload_n 3, 1) := by decide +kernel
theorem dL_law_1553 : decode cL_law 1553 = .ok (.iconst 0, 1) := by decide +kernel
theorem dL_law_1554 : decode cL_law 1554 = .ok (.laload, 1) := by decide +kernel
theorem dL_law_1555 : decode cL_law 1555 = .ok (.iload 6, 2) := by decide +kernel
theorem dL_law_1557 : decode cL_law 1557 = .ok (.i2l, 1) := by decide +kernel
theorem dL_law_1558 : decode cL_law 1558 = .ok (.lcmp, 1) := by decide +kernel
theorem dL_law_1559 : decode cL_law 1559 = .ok (.ifCond .eq 5, 3) := by decide +kernel
theorem dL_law_1562 : decode cL_law 1562 = .ok (.iconst 0, 1) := by decide +kernel
theorem dL_law_1563 : decode cL_law 1563 = .ok (.ireturn, 1) := by decide +kernel
theorem dL_law_1564 : decode cL_law 1564 = .ok (.goto 708, 3) := by decide +kernel
theorem dL_law_1567 : decode cL_law 1567 = .ok (.aload_n 1, 1) := by decide +kernel
theorem dL_law_1568 : decode cL_law 1568 = .ok (.aload_n 0, 1) := by decide +kernel
theorem dL_law_1569 : decode cL_law 1569 = .ok (.iload 4, 2) := by decide +kernel
theorem dL_law_1571 : decode cL_law 1571 = .ok (.iconst 1, 1) := by decide +kernel
theorem dL_law_1572 : decode cL_law 1572 = .ok (.iadd, 1) := by decide +kernel
theorem dL_law_1573 : decode cL_law 1573 = .ok (.iaload, 1) := by decide +kernel
theorem dL_law_1574 : decode cL_law 1574 = .ok (.aload_n 0, 1) := by decide +kernel
theorem dL_law_1575 : decode cL_law 1575 = .ok (.iload 4, 2) := by decide +kernel
theorem dL_law_1577 : decode cL_law 1577 = .ok (.iconst 2, 1) := by decide +kernel
theorem dL_law_1578 : decode cL_law 1578 = .ok (.iadd, 1) := by decide +kernel
theorem dL_law_1579 : decode cL_law 1579 = .ok (.iaload, 1) := by decide +kernel
theorem dL_law_1580 : decode cL_law 1580 = .ok (.aload_n 3, 1) := by decide +kernel
theorem dL_law_1581 : decode cL_law 1581 = .ok (.invokestatic 183, 3) := by decide +kernel
theorem dL_law_1584 : decode cL_law 1584 = .ok (.istore 5, 2) := by decide +kernel
theorem dL_law_1586 : decode cL_law 1586 = .ok (.aload_n 2, 1) := by decide +kernel
theorem dL_law_1587 : decode cL_law 1587 = .ok (.aload_n 0, 1) := by decide +kernel
theorem dL_law_1588 : decode cL_law 1588 = .ok (.iload 4, 2) := by decide +kernel
theorem dL_law_1590 : decode cL_law 1590 = .ok (.iconst 1, 1) := by decide +kernel
theorem dL_law_1591 : decode cL_law 1591 = .ok (.iadd, 1) := by decide +kernel
theorem dL_law_1592 : decode cL_law 1592 = .ok (.iaload, 1) := by decide +kernel
theorem dL_law_1593 : decode cL_law 1593 = .ok (.aload_n 0, 1) := by decide +kernel
theorem dL_law_1594 : decode cL_law 1594 = .ok (.iload 4, 2) := by decide +kernel
theorem dL_law_1596 : decode cL_law 1596 = .ok (.iconst 2, 1) := by decide +kernel
theorem dL_law_1597 : decode cL_law 1597 = .ok (.iadd, 1) := by decide +kernel
theorem dL_law_1598 : decode cL_law 1598 = .ok (.iaload, 1) := by decide +kernel
theorem dL_law_1599 : decode cL_law 1599 = .ok (.invokevirtual 185, 3) := by decide +kernel
theorem dL_law_1602 : decode cL_law 1602 = .ok (.istore 6, 2) := by decide +kernel
theorem dL_law_1604 : decode cL_law 1604 = .ok (.aload_n 2, 1) := by decide +kernel
theorem dL_law_1605 : decode cL_law 1605 = .ok (.invokevirtual 119, 3) := by decide +kernel
theorem dL_law_1608 : decode cL_law 1608 = .ok (.iload 5, 2) := by decide +kernel
theorem dL_law_1610 : decode cL_law 1610 = .ok (.if_icmp .eq 5, 3) := by decide +kernel
theorem dL_law_1613 : decode cL_law 1613 = .ok (.iconst 0, 1) := by decide +kernel
theorem dL_law_1614 : decode cL_law 1614 = .ok (.ireturn, 1) := by decide +kernel
theorem dL_law_1615 : decode cL_law 1615 = .ok (.iload 5, 2) := by decide +kernel
theorem dL_law_1617 : decode cL_law 1617 = .ok (.ifCond .ne 22, 3) := by decide +kernel
theorem dL_law_1620 : decode cL_law 1620 = .ok (.aload_n 3, 1) := by decide +kernel
theorem dL_law_1621 : decode cL_law 1621 = .ok (.iconst 0, 1) := by decide +kernel
theorem dL_law_1622 : decode cL_law 1622 = .ok (.laload, 1) := by decide +kernel
theorem dL_law_1623 : decode cL_law 1623 = .ok (.iload 6, 2) := by decide +kernel
theorem dL_law_1625 : decode cL_law 1625 = .ok (.ifCond .eq 7, 3) := by decide +kernel
theorem dL_law_1628 : decode cL_law 1628 = .ok (.lconst 1, 1) := by decide +kernel
theorem dL_law_1629 : decode cL_law 1629 = .ok (.goto 4, 3) := by decide +kernel
theorem dL_law_1632 : decode cL_law 1632 = .ok (.lconst 0, 1) := by decide +kernel
theorem dL_law_1633 : decode cL_law 1633 = .ok (.lcmp, 1) := by decide +kernel
theorem dL_law_1634 : decode cL_law 1634 = .ok (.ifCond .eq 5, 3) := by decide +kernel
theorem dL_law_1637 : decode cL_law 1637 = .ok (.iconst 0, 1) := by decide +kernel
theorem dL_law_1638 : decode cL_law 1638 = .ok (.ireturn, 1) := by decide +kernel
theorem dL_law_1639 : decode cL_law 1639 = .ok (.goto 633, 3) := by decide +kernel
theorem dL_law_1642 : decode cL_law 1642 = .ok (.aload_n 1, 1) := by decide +kernel
theorem dL_law_1643 : decode cL_law 1643 = .ok (.aload_n 0, 1) := by decide +kernel
theorem dL_law_1644 : decode cL_law 1644 = .ok (.iload 4, 2) := by decide +kernel
theorem dL_law_1646 : decode cL_law 1646 = .ok (.iconst 1, 1) := by decide +kernel
theorem dL_law_1647 : decode cL_law 1647 = .ok (.iadd, 1) := by decide +kernel
theorem dL_law_1648 : decode cL_law 1648 = .ok (.iaload, 1) := by decide +kernel
theorem dL_law_1649 : decode cL_law 1649 = .ok (.aload_n 3, 1) := by decide +kernel
theorem dL_law_1650 : decode cL_law 1650 = .ok (.invokestatic 186, 3) := by decide +kernel
theorem dL_law_1653 : decode cL_law 1653 = .ok (.istore 5, 2) := by decide +kernel
theorem dL_law_1655 : decode cL_law 1655 = .ok (.aload_n 2, 1) := by decide +kernel
theorem dL_law_1656 : decode cL_law 1656 = .ok (.aload_n 0, 1) := by decide +kernel
theorem dL_law_1657 : decode cL_law 1657 = .ok (.iload 4, 2) := by decide +kernel
theorem dL_law_1659 : decode cL_law 1659 = .ok (.iconst 1, 1) := by decide +kernel
theorem dL_law_1660 : decode cL_law 1660 = .ok (.iadd, 1) := by decide +kernel
theorem dL_law_1661 : decode cL_law 1661 = .ok (.iaload, 1) := by decide +kernel
theorem dL_law_1662 : decode cL_law 1662 = .ok (.invokevirtual 188, 3) := by decide +kernel
theorem dL_law_1665 : decode cL_law 1665 = .ok (.istore 6, 2) := by decide +kernel
theorem dL_law_1667 : decode cL_law 1667 = .ok (.aload_n 2, 1) := by decide +kernel
theorem dL_law_1668 : decode cL_law 1668 = .ok (.invokevirtual 119, 3) := by decide +kernel
theorem dL_law_1671 : decode cL_law 1671 = .ok (.iload 5, 2) := by decide +kernel
theorem dL_law_1673 : decode cL_law 1673 = .ok (.if_icmp .eq 5, 3) := by decide +kernel
theorem dL_law_1676 : decode cL_law 1676 = .ok (.iconst 0, 1) := by decide +kernel
theorem dL_law_1677 : decode cL_law 1677 = .ok (.ireturn, 1) := by decide +kernel
theorem dL_law_1678 : decode cL_law 1678 = .ok (.iload 5, 2) := by decide +kernel
theorem dL_law_1680 : decode cL_law 1680 = .ok (.ifCond .ne 15, 3) := by decide +kernel
theorem dL_law_1683 : decode cL_law 1683 = .ok (.aload_n 3, 1) := by decide +kernel
theorem dL_law_1684 : decode cL_law 1684 = .ok (.iconst 0, 1) := by decide +kernel
theorem dL_law_1685 : decode cL_law 1685 = .ok (.laload, 1) := by decide +kernel
theorem dL_law_1686 : decode cL_law 1686 = .ok (.iload 6, 2) := by decide +kernel
theorem dL_law_1688 : decode cL_law 1688 = .ok (.i2l, 1) := by decide +kernel
theorem dL_law_1689 : decode cL_law 1689 = .ok (.lcmp, 1) := by decide +kernel
theorem dL_law_1690 : decode cL_law 1690 = .ok (.ifCond .eq 5, 3) := by decide +kernel
theorem dL_law_1693 : decode cL_law 1693 = .ok (.iconst 0, 1) := by decide +kernel
theorem dL_law_1694 : decode cL_law 1694 = .ok (.ireturn, 1) := by decide +kernel
theorem dL_law_1695 : decode cL_law 1695 = .ok (.goto 577, 3) := by decide +kernel
theorem dL_law_1698 : decode cL_law 1698 = .ok (.aload_n 1, 1) := by decide +kernel
theorem dL_law_1699 : decode cL_law 1699 = .ok (.aload_n 0, 1) := by decide +kernel
theorem dL_law_1700 : decode cL_law 1700 = .ok (.iload 4, 2) := by decide +kernel
theorem dL_law_1702 : decode cL_law 1702 = .ok (.iconst 1, 1) := by decide +kernel
theorem dL_law_1703 : decode cL_law 1703 = .ok (.iadd, 1) := by decide +kernel
theorem dL_law_1704 : decode cL_law 1704 = .ok (.iaload, 1) := by decide +kernel
theorem dL_law_1705 : decode cL_law 1705 = .ok (.aload_n 3, 1) := by decide +kernel
theorem dL_law_1706 : decode cL_law 1706 = .ok (.invokestatic 189, 3) := by decide +kernel
theorem dL_law_1709 : decode cL_law 1709 = .ok (.istore 5, 2) := by decide +kernel
theorem dL_law_1711 : decode cL_law 1711 = .ok (.aload_n 2, 1) := by decide +kernel
theorem dL_law_1712 : decode cL_law 1712 = .ok (.aload_n 0, 1) := by decide +kernel
theorem dL_law_1713 : decode cL_law 1713 = .ok (.iload 4, 2) := by decide +kernel
theorem dL_law_1715 : decode cL_law 1715 = .ok (.iconst 1, 1) := by decide +kernel
theorem dL_law_1716 : decode cL_law 1716 = .ok (.iadd, 1) := by decide +kernel
theorem dL_law_1717 : decode cL_law 1717 = .ok (.iaload, 1) := by decide +kernel
theorem dL_law_1718 : decode cL_law 1718 = .ok (.invokevirtual 191, 3) := by decide +kernel
theorem dL_law_1721 : decode cL_law 1721 = .ok (.istore 6, 2) := by decide +kernel
theorem dL_law_1723 : decode cL_law 1723 = .ok (.aload_n 2, 1) := by decide +kernel
theorem dL_law_1724 : decode cL_law 1724 = .ok (.invokevirtual 119, 3) := by decide +kernel
theorem dL_law_1727 : decode cL_law 1727 = .ok (.iload 5, 2) := by decide +kernel
theorem dL_law_1729 : decode cL_law 1729 = .ok (.if_icmp .eq 5, 3) := by decide +kernel
theorem dL_law_1732 : decode cL_law 1732 = .ok (.iconst 0, 1) := by decide +kernel
theorem dL_law_1733 : decode cL_law 1733 = .ok (.ireturn, 1) := by decide +kernel
theorem dL_law_1734 : decode cL_law 1734 = .ok (.iload 5, 2) := by decide +kernel
theorem dL_law_1736 : decode cL_law 1736 = .ok (.ifCond .ne 22, 3) := by decide +kernel
theorem dL_law_1739 : decode cL_law 1739 = .ok (.aload_n 3, 1) := by decide +kernel
theorem dL_law_1740 : decode cL_law 1740 = .ok (.iconst 0, 1) := by decide +kernel
theorem dL_law_1741 : decode cL_law 1741 = .ok (.laload, 1) := by decide +kernel
theorem dL_law_1742 : decode cL_law 1742 = .ok (.iload 6, 2) := by decide +kernel
theorem dL_law_1744 : decode cL_law 1744 = .ok (.ifCond .eq 7, 3) := by decide +kernel
theorem dL_law_1747 : decode cL_law 1747 = .ok (.lconst 1, 1) := by decide +kernel
theorem dL_law_1748 : decode cL_law 1748 = .ok (.goto 4, 3) := by decide +kernel
theorem dL_law_1751 : decode cL_law 1751 = .ok (.lconst 0, 1) := by decide +kernel
theorem dL_law_1752 : decode cL_law 1752 = .ok (.lcmp, 1) := by decide +kernel
theorem dL_law_1753 : decode cL_law 1753 = .ok (.ifCond .eq 5, 3) := by decide +kernel
theorem dL_law_1756 : decode cL_law 1756 = .ok (.iconst 0, 1) := by decide +kernel
theorem dL_law_1757 : decode cL_law 1757 = .ok (.ireturn, 1) := by decide +kernel
theorem dL_law_1758 : decode cL_law 1758 = .ok (.goto 514, 3) := by decide +kernel
theorem dL_law_1761 : decode cL_law 1761 = .ok (.aload_n 1, 1) := by decide +kernel
theorem dL_law_1762 : decode cL_law 1762 = .ok (.aload_n 0, 1) := by decide +kernel
theorem dL_law_1763 : decode cL_law 1763 = .ok (.iload 4, 2) := by decide +kernel
theorem dL_law_1765 : decode cL_law 1765 = .ok (.iconst 1, 1) := by decide +kernel
theorem dL_law_1766 : decode cL_law 1766 = .ok (.iadd, 1) := by decide +kernel
theorem dL_law_1767 : decode cL_law 1767 = .ok (.iaload, 1) := by decide +kernel
theorem dL_law_1768 : decode cL_law 1768 = .ok (.aload_n 3, 1) := by decide +kernel
theorem dL_law_1769 : decode cL_law 1769 = .ok (.invokestatic 192, 3) := by decide +kernel
theorem dL_law_1772 : decode cL_law 1772 = .ok (.istore 5, 2) := by decide +kernel
theorem dL_law_1774 : decode cL_law 1774 = .ok (.aload_n 2, 1) := by decide +kernel
theorem dL_law_1775 : decode cL_law 1775 = .ok (.aload_n 0, 1) := by decide +kernel
theorem dL_law_1776 : decode cL_law 1776 = .ok (.iload 4, 2) := by decide +kernel
theorem dL_law_1778 : decode cL_law 1778 = .ok (.iconst 1, 1) := by decide +kernel
theorem dL_law_1779 : decode cL_law 1779 = .ok (.iadd, 1) := by decide +kernel
theorem dL_law_1780 : decode cL_law 1780 = .ok (.iaload, 1) := by decide +kernel
theorem dL_law_1781 : decode cL_law 1781 = .ok (.invokevirtual 194, 3) := by decide +kernel
theorem dL_law_1784 : decode cL_law 1784 = .ok (.istore 6, 2) := by decide +kernel
theorem dL_law_1786 : decode cL_law 1786 = .ok (.aload_n 2, 1) := by decide +kernel
theorem dL_law_1787 : decode cL_law 1787 = .ok (.invokevirtual 119, 3) := by decide +kernel
theorem dL_law_1790 : decode cL_law 1790 = .ok (.iload 5, 2) := by decide +kernel
theorem dL_law_1792 : decode cL_law 1792 = .ok (.if_icmp .eq 5, 3) := by decide +kernel
theorem dL_law_1795 : decode cL_law 1795 = .ok (.iconst 0, 1) := by decide +kernel
theorem dL_law_1796 : decode cL_law 1796 = .ok (.ireturn, 1) := by decide +kernel
theorem dL_law_1797 : decode cL_law 1797 = .ok (.iload 5, 2) := by decide +kernel
theorem dL_law_1799 : decode cL_law 1799 = .ok (.ifCond .ne 15, 3) := by decide +kernel
theorem dL_law_1802 : decode cL_law 1802 = .ok (.aload_n 3, 1) := by decide +kernel
theorem dL_law_1803 : decode cL_law 1803 = .ok (.iconst 0, 1) := by decide +kernel
theorem dL_law_1804 : decode cL_law 1804 = .ok (.laload, 1) := by decide +kernel
theorem dL_law_1805 : decode cL_law 1805 = .ok (.iload 6, 2) := by decide +kernel
theorem dL_law_1807 : decode cL_law 1807 = .ok (.i2l, 1) := by decide +kernel
theorem dL_law_1808 : decode cL_law 1808 = .ok (.lcmp, 1) := by decide +kernel
theorem dL_law_1809 : decode cL_law 1809 = .ok (.ifCond .eq 5, 3) := by decide +kernel
theorem dL_law_1812 : decode cL_law 1812 = .ok (.iconst 0, 1) := by decide +kernel
theorem dL_law_1813 : decode cL_law 1813 = .ok (.ireturn, 1) := by decide +kernel
theorem dL_law_1814 : decode cL_law 1814 = .ok (.goto 458, 3) := by decide +kernel
theorem dL_law_1817 : decode cL_law 1817 = .ok (.aload_n 1, 1) := by decide +kernel
theorem dL_law_1818 : decode cL_law 1818 = .ok (.aload_n 0, 1) := by decide +kernel
theorem dL_law_1819 : decode cL_law 1819 = .ok (.iload 4, 2) := by decide +kernel
theorem dL_law_1821 : decode cL_law 1821 = .ok (.iconst 1, 1) := by decide +kernel
theorem dL_law_1822 : decode cL_law 1822 = .ok (.iadd, 1) := by decide +kernel
theorem dL_law_1823 : decode cL_law 1823 = .ok (.iaload, 1) := by decide +kernel
theorem dL_law_1824 : decode cL_law 1824 = .ok (.aload_n 3, 1) := by decide +kernel
theorem dL_law_1825 : decode cL_law 1825 = .ok (.invokestatic 195, 3) := by decide +kernel
theorem dL_law_1828 : decode cL_law 1828 = .ok (.istore 5, 2) := by decide +kernel
theorem dL_law_1830 : decode cL_law 1830 = .ok (.aload_n 2, 1) := by decide +kernel
theorem dL_law_1831 : decode cL_law 1831 = .ok (.aload_n 0, 1) := by decide +kernel
theorem dL_law_1832 : decode cL_law 1832 = .ok (.iload 4, 2) := by decide +kernel
theorem dL_law_1834 : decode cL_law 1834 = .ok (.iconst 1, 1) := by decide +kernel
theorem dL_law_1835 : decode cL_law 1835 = .ok (.iadd, 1) := by decide +kernel
theorem dL_law_1836 : decode cL_law 1836 = .ok (.iaload, 1) := by decide +kernel
theorem dL_law_1837 : decode cL_law 1837 = .ok (.invokevirtual 197, 3) := by decide +kernel
theorem dL_law_1840 : decode cL_law 1840 = .ok (.istore 6, 2) := by decide +kernel
theorem dL_law_1842 : decode cL_law 1842 = .ok (.aload_n 2, 1) := by decide +kernel
theorem dL_law_1843 : decode cL_law 1843 = .ok (.invokevirtual 119, 3) := by decide +kernel
theorem dL_law_1846 : decode cL_law 1846 = .ok (.iload 5, 2) := by decide +kernel
theorem dL_law_1848 : decode cL_law 1848 = .ok (.if_icmp .eq 5, 3) := by decide +kernel
theorem dL_law_1851 : decode cL_law 1851 = .ok (.iconst 0, 1) := by decide +kernel
theorem dL_law_1852 : decode cL_law 1852 = .ok (.ireturn, 1) := by decide +kernel
theorem dL_law_1853 : decode cL_law 1853 = .ok (.iload 5, 2) := by decide +kernel
theorem dL_law_1855 : decode cL_law 1855 = .ok (.ifCond .ne 15, 3) := by decide +kernel
theorem dL_law_1858 : decode cL_law 1858 = .ok (.aload_n 3, 1) := by decide +kernel
theorem dL_law_1859 : decode cL_law 1859 = .ok (.iconst 0, 1) := by decide +kernel
theorem dL_law_1860 : decode cL_law 1860 = .ok (.laload, 1) := by decide +kernel
theorem dL_law_1861 : decode cL_law 1861 = .ok (.iload 6, 2) := by decide +kernel
theorem dL_law_1863 : decode cL_law 1863 = .ok (.i2l, 1) := by decide +kernel
theorem dL_law_1864 : decode cL_law 1864 = .ok (.lcmp, 1) := by decide +kernel
theorem dL_law_1865 : decode cL_law 1865 = .ok (.ifCond .eq 5, 3) := by decide +kernel
theorem dL_law_1868 : decode cL_law 1868 = .ok (.iconst 0, 1) := by decide +kernel
theorem dL_law_1869 : decode cL_law 1869 = .ok (.ireturn, 1) := by decide +kernel
theorem dL_law_1870 : decode cL_law 1870 = .ok (.goto 402, 3) := by decide +kernel
theorem dL_law_1873 : decode cL_law 1873 = .ok (.aload_n 1, 1) := by decide +kernel
theorem dL_law_1874 : decode cL_law 1874 = .ok (.invokevirtual 198, 3) := by decide +kernel
theorem dL_law_1877 : decode cL_law 1877 = .ok (.aload_n 2, 1) := by decide +kernel
theorem dL_law_1878 : decode cL_law 1878 = .ok (.invokevirtual 201, 3) := by decide +kernel
theorem dL_law_1881 : decode cL_law 1881 = .ok (.if_icmp .eq 391, 3) := by decide +kernel
theorem dL_law_1884 : decode cL_law 1884 = .ok (.iconst 0, 1) := by decide +kernel
theorem dL_law_1885 : decode cL_law 1885 = .ok (.ireturn, 1) := by decide +kernel
theorem dL_law_1886 : decode cL_law 1886 = .ok (.aload_n 1, 1) := by decide +kernel
theorem dL_law_1887 : decode cL_law 1887 = .ok (.invokevirtual 202, 3) := by decide +kernel
theorem dL_law_1890 : decode cL_law 1890 = .ok (.aload_n 2, 1) := by decide +kernel
theorem dL_law_1891 : decode cL_law 1891 = .ok (.invokevirtual 205, 3) := by decide +kernel
theorem dL_law_1894 : decode cL_law 1894 = .ok (.if_icmp .eq 378, 3) := by decide +kernel
theorem dL_law_1897 : decode cL_law 1897 = .ok (.iconst 0, 1) := by decide +kernel
theorem dL_law_1898 : decode cL_law 1898 = .ok (.ireturn, 1) := by decide +kernel
theorem dL_law_1899 : decode cL_law 1899 = .ok (.aload_n 1, 1) := by decide +kernel
theorem dL_law_1900 : decode cL_law 1900 = .ok (.invokevirtual 206, 3) := by decide +kernel
theorem dL_law_1903 : decode cL_law 1903 = .ok (.aload_n 2, 1) := by decide +kernel
theorem dL_law_1904 : decode cL_law 1904 = .ok (.invokevirtual 209, 3) := by decide +kernel
theorem dL_law_1907 : decode cL_law 1907 = .ok (.if_icmp .eq 365, 3) := by decide +kernel
theorem dL_law_1910 : decode cL_law 1910 = .ok (.iconst 0, 1) := by decide +kernel
theorem dL_law_1911 : decode cL_law 1911 = .ok (.ireturn, 1) := by decide +kernel
theorem dL_law_1912 : decode cL_law 1912 = .ok (.aload_n 1, 1) := by decide +kernel
theorem dL_law_1913 : decode cL_law 1913 = .ok (.invokevirtual 210, 3) := by decide +kernel
theorem dL_law_1916 : decode cL_law 1916 = .ok (.aload_n 2, 1) := by decide +kernel
theorem dL_law_1917 : decode cL_law 1917 = .ok (.invokevirtual 213, 3) := by decide +kernel
theorem dL_law_1920 : decode cL_law 1920 = .ok (.if_icmp .eq 352, 3) := by decide +kernel
theorem dL_law_1923 : decode cL_law 1923 = .ok (.iconst 0, 1) := by decide +kernel
theorem dL_law_1924 : decode cL_law 1924 = .ok (.ireturn, 1) := by decide +kernel
theorem dL_law_1925 : decode cL_law 1925 = .ok (.aload_n 1, 1) := by decide +kernel
theorem dL_law_1926 : decode cL_law 1926 = .ok (.invokevirtual 214, 3) := by decide +kernel
theorem dL_law_1929 : decode cL_law 1929 = .ok (.aload_n 2, 1) := by decide +kernel
theorem dL_law_1930 : decode cL_law 1930 = .ok (.invokevirtual 217, 3) := by decide +kernel
theorem dL_law_1933 : decode cL_law 1933 = .ok (.if_icmp .eq 339, 3) := by decide +kernel
theorem dL_law_1936 : decode cL_law 1936 = .ok (.iconst 0, 1) := by decide +kernel
theorem dL_law_1937 : decode cL_law 1937 = .ok (.ireturn, 1) := by decide +kernel
theorem dL_law_1938 : decode cL_law 1938 = .ok (.aload_n 1, 1) := by decide +kernel
theorem dL_law_1939 : decode cL_law 1939 = .ok (.aload_n 0, 1) := by decide +kernel
theorem dL_law_1940 : decode cL_law 1940 = .ok (.iload 4, 2) := by decide +kernel
theorem dL_law_1942 : decode cL_law 1942 = .ok (.iconst 1, 1) := by decide +kernel
theorem dL_law_1943 : decode cL_law 1943 = .ok (.iadd, 1) := by decide +kernel
theorem dL_law_1944 : decode cL_law 1944 = .ok (.iaload, 1) := by decide +kernel
theorem dL_law_1945 : decode cL_law 1945 = .ok (.aload_n 0, 1) := by decide +kernel
theorem dL_law_1946 : decode cL_law 1946 = .ok (.iload 4, 2) := by decide +kernel
theorem dL_law_1948 : decode cL_law 1948 = .ok (.iconst 2, 1) := by decide +kernel
theorem dL_law_1949 : decode cL_law 1949 = .ok (.iadd, 1) := by decide +kernel
theorem dL_law_1950 : decode cL_law 1950 = .ok (.iaload, 1) := by decide +kernel
theorem dL_law_1951 : decode cL_law 1951 = .ok (.aload_n 0, 1) := by decide +kernel
theorem dL_law_1952 : decode cL_law 1952 = .ok (.iload 4, 2) := by decide +kernel
theorem dL_law_1954 : decode cL_law 1954 = .ok (.iconst 3, 1) := by decide +kernel
theorem dL_law_1955 : decode cL_law 1955 = .ok (.iadd, 1) := by decide +kernel
theorem dL_law_1956 : decode cL_law 1956 = .ok (.iaload, 1) := by decide +kernel
theorem dL_law_1957 : decode cL_law 1957 = .ok (.aload_n 3, 1) := by decide +kernel
theorem dL_law_1958 : decode cL_law 1958 = .ok (.invokestatic 218, 3) := by decide +kernel
theorem dL_law_1961 : decode cL_law 1961 = .ok (.istore 5, 2) := by decide +kernel
theorem dL_law_1963 : decode cL_law 1963 = .ok (.aload_n 2, 1) := by decide +kernel
theorem dL_law_1964 : decode cL_law 1964 = .ok (.aload_n 0, 1) := by decide +kernel
theorem dL_law_1965 : decode cL_law 1965 = .ok (.iload 4, 2) := by decide +kernel
theorem dL_law_1967 : decode cL_law 1967 = .ok (.iconst 1, 1) := by decide +kernel
theorem dL_law_1968 : decode cL_law 1968 = .ok (.iadd, 1) := by decide +kernel
theorem dL_law_1969 : decode cL_law 1969 = .ok (.iaload, 1) := by decide +kernel
theorem dL_law_1970 : decode cL_law 1970 = .ok (.aload_n 0, 1) := by decide +kernel
theorem dL_law_1971 : decode cL_law 1971 = .ok (.iload 4, 2) := by decide +kernel
theorem dL_law_1973 : decode cL_law 1973 = .ok (.iconst 2, 1) := by decide +kernel
theorem dL_law_1974 : decode cL_law 1974 = .ok (.iadd, 1) := by decide +kernel
theorem dL_law_1975 : decode cL_law 1975 = .ok (.iaload, 1) := by decide +kernel
theorem dL_law_1976 : decode cL_law 1976 = .ok (.aload_n 0, 1) := by decide +kernel
theorem dL_law_1977 : decode cL_law 1977 = .ok (.iload 4, 2) := by decide +kernel
theorem dL_law_1979 : decode cL_law 1979 = .ok (.iconst 3, 1) := by decide +kernel
theorem dL_law_1980 : decode cL_law 1980 = .ok (.iadd, 1) := by decide +kernel
theorem dL_law_1981 : decode cL_law 1981 = .ok (.iaload, 1) := by decide +kernel
theorem dL_law_1982 : decode cL_law 1982 = .ok (.invokevirtual 220, 3) := by decide +kernel
theorem dL_law_1985 : decode cL_law 1985 = .ok (.istore 6, 2) := by decide +kernel
theorem dL_law_1987 : decode cL_law 1987 = .ok (.aload_n 2, 1) := by decide +kernel
theorem dL_law_1988 : decode cL_law 1988 = .ok (.invokevirtual 119, 3) := by decide +kernel
theorem dL_law_1991 : decode cL_law 1991 = .ok (.iload 5, 2) := by decide +kernel
theorem dL_law_1993 : decode cL_law 1993 = .ok (.if_icmp .eq 5, 3) := by decide +kernel
theorem dL_law_1996 : decode cL_law 1996 = .ok (.iconst 0, 1) := by decide +kernel
theorem dL_law_1997 : decode cL_law 1997 = .ok (.ireturn, 1) := by decide +kernel
theorem dL_law_1998 : decode cL_law 1998 = .ok (.iload 5, 2) := by decide +kernel
theorem dL_law_2000 : decode cL_law 2000 = .ok (.ifCond .ne 22, 3) := by decide +kernel
theorem dL_law_2003 : decode cL_law 2003 = .ok (.aload_n 3, 1) := by decide +kernel
theorem dL_law_2004 : decode cL_law 2004 = .ok (.iconst 0, 1) := by decide +kernel
theorem dL_law_2005 : decode cL_law 2005 = .ok (.laload, 1) := by decide +kernel
theorem dL_law_2006 : decode cL_law 2006 = .ok (.iload 6, 2) := by decide +kernel
theorem dL_law_2008 : decode cL_law 2008 = .ok (.ifCond .eq 7, 3) := by decide +kernel
theorem dL_law_2011 : decode cL_law 2011 = .ok (.lconst 1, 1) := by decide +kernel
theorem dL_law_2012 : decode cL_law 2012 = .ok (.goto 4, 3) := by decide +kernel
theorem dL_law_2015 : decode cL_law 2015 = .ok (.lconst 0, 1) := by decide +kernel
theorem dL_law_2016 : decode cL_law 2016 = .ok (.lcmp, 1) := by decide +kernel
theorem dL_law_2017 : decode cL_law 2017 = .ok (.ifCond .eq 5, 3) := by decide +kernel
theorem dL_law_2020 : decode cL_law 2020 = .ok (.iconst 0, 1) := by decide +kernel
theorem dL_law_2021 : decode cL_law 2021 = .ok (.ireturn, 1) := by decide +kernel
theorem dL_law_2022 : decode cL_law 2022 = .ok (.goto 250, 3) := by decide +kernel
theorem dL_law_2025 : decode cL_law 2025 = .ok (.aload_n 1, 1) := by decide +kernel
theorem dL_law_2026 : decode cL_law 2026 = .ok (.aload_n 0, 1) := by decide +kernel
theorem dL_law_2027 : decode cL_law 2027 = .ok (.iload 4, 2) := by decide +kernel
theorem dL_law_2029 : decode cL_law 2029 = .ok (.iconst 1, 1) := by decide +kernel
theorem dL_law_2030 : decode cL_law 2030 = .ok (.iadd, 1) := by decide +kernel
theorem dL_law_2031 : decode cL_law 2031 = .ok (.iaload, 1) := by decide +kernel
theorem dL_law_2032 : decode cL_law 2032 = .ok (.aload_n 0, 1) := by decide +kernel
theorem dL_law_2033 : decode cL_law 2033 = .ok (.iload 4, 2) := by decide +kernel
theorem dL_law_2035 : decode cL_law 2035 = .ok (.iconst 2, 1) := by decide +kernel
theorem dL_law_2036 : decode cL_law 2036 = .ok (.iadd, 1) := by decide +kernel
theorem dL_law_2037 : decode cL_law 2037 = .ok (.iaload, 1) := by decide +kernel
theorem dL_law_2038 : decode cL_law 2038 = .ok (.aload_n 3, 1) := by decide +kernel
theorem dL_law_2039 : decode cL_law 2039 = .ok (.invokestatic 221, 3) := by decide +kernel
theorem dL_law_2042 : decode cL_law 2042 = .ok (.istore 5, 2) := by decide +kernel
theorem dL_law_2044 : decode cL_law 2044 = .ok (.aload_n 2, 1) := by decide +kernel
theorem dL_law_2045 : decode cL_law 2045 = .ok (.aload_n 0, 1) := by decide +kernel
theorem dL_law_2046 : decode cL_law 2046 = .ok (.iload 4, 2) := by decide +kernel
theorem dL_law_2048 : decode cL_law 2048 = .ok (.iconst 1, 1) := by decide +kernel
theorem dL_law_2049 : decode cL_law 2049 = .ok (.iadd, 1) := by decide +kernel
theorem dL_law_2050 : decode cL_law 2050 = .ok (.iaload, 1) := by decide +kernel
theorem dL_law_2051 : decode cL_law 2051 = .ok (.aload_n 0, 1) := by decide +kernel
theorem dL_law_2052 : decode cL_law 2052 = .ok (.iload 4, 2) := by decide +kernel
theorem dL_law_2054 : decode cL_law 2054 = .ok (.iconst 2, 1) := by decide +kernel
theorem dL_law_2055 : decode cL_law 2055 = .ok (.iadd, 1) := by decide +kernel
theorem dL_law_2056 : decode cL_law 2056 = .ok (.iaload, 1) := by decide +kernel
theorem dL_law_2057 : decode cL_law 2057 = .ok (.invokevirtual 223, 3) := by decide +kernel
theorem dL_law_2060 : decode cL_law 2060 = .ok (.istore 6, 2) := by decide +kernel
theorem dL_law_2062 : decode cL_law 2062 = .ok (.aload_n 2, 1) := by decide +kernel
theorem dL_law_2063 : decode cL_law 2063 = .ok (.invokevirtual 119, 3) := by decide +kernel
theorem dL_law_2066 : decode cL_law 2066 = .ok (.iload 5, 2) := by decide +kernel
theorem dL_law_2068 : decode cL_law 2068 = .ok (.if_icmp .eq 5, 3) := by decide +kernel
theorem dL_law_2071 : decode cL_law 2071 = .ok (.iconst 0, 1) := by decide +kernel
theorem dL_law_2072 : decode cL_law 2072 = .ok (.ireturn, 1) := by decide +kernel
theorem dL_law_2073 : decode cL_law 2073 = .ok (.iload 5, 2) := by decide +kernel
theorem dL_law_2075 : decode cL_law 2075 = .ok (.ifCond .ne 15, 3) := by decide +kernel
theorem dL_law_2078 : decode cL_law 2078 = .ok (.aload_n 3, 1) := by decide +kernel
theorem dL_law_2079 : decode cL_law 2079 = .ok (.iconst 0, 1) := by decide +kernel
theorem dL_law_2080 : decode cL_law 2080 = .ok (.laload, 1) := by decide +kernel
theorem dL_law_2081 : decode cL_law 2081 = .ok (.iload 6, 2) := by decide +kernel
theorem dL_law_2083 : decode cL_law 2083 = .ok (.i2l, 1) := by decide +kernel
theorem dL_law_2084 : decode cL_law 2084 = .ok (.lcmp, 1) := by decide +kernel
theorem dL_law_2085 : decode cL_law 2085 = .ok (.ifCond .eq 5, 3) := by decide +kernel
theorem dL_law_2088 : decode cL_law 2088 = .ok (.iconst 0, 1) := by decide +kernel
theorem dL_law_2089 : decode cL_law 2089 = .ok (.ireturn, 1) := by decide +kernel
theorem dL_law_2090 : decode cL_law 2090 = .ok (.goto 182, 3) := by decide +kernel
theorem dL_law_2093 : decode cL_law 2093 = .ok (.aload_n 1, 1) := by decide +kernel
theorem dL_law_2094 : decode cL_law 2094 = .ok (.aload_n 0, 1) := by decide +kernel
theorem dL_law_2095 : decode cL_law 2095 = .ok (.iload 4, 2) := by decide +kernel
theorem dL_law_2097 : decode cL_law 2097 = .ok (.iconst 1, 1) := by decide +kernel
theorem dL_law_2098 : decode cL_law 2098 = .ok (.iadd, 1) := by decide +kernel
theorem dL_law_2099 : decode cL_law 2099 = .ok (.iaload, 1) := by decide +kernel
theorem dL_law_2100 : decode cL_law 2100 = .ok (.aload_n 0, 1) := by decide +kernel
theorem dL_law_2101 : decode cL_law 2101 = .ok (.iload 4, 2) := by decide +kernel
theorem dL_law_2103 : decode cL_law 2103 = .ok (.iconst 2, 1) := by decide +kernel
theorem dL_law_2104 : decode cL_law 2104 = .ok (.iadd, 1) := by decide +kernel
theorem dL_law_2105 : decode cL_law 2105 = .ok (.iaload, 1) := by decide +kernel
theorem dL_law_2106 : decode cL_law 2106 = .ok (.aload_n 3, 1) := by decide +kernel
theorem dL_law_2107 : decode cL_law 2107 = .ok (.invokestatic 224, 3) := by decide +kernel
theorem dL_law_2110 : decode cL_law 2110 = .ok (.istore 5, 2) := by decide +kernel
theorem dL_law_2112 : decode cL_law 2112 = .ok (.aload_n 2, 1) := by decide +kernel
theorem dL_law_2113 : decode cL_law 2113 = .ok (.aload_n 0, 1) := by decide +kernel
theorem dL_law_2114 : decode cL_law 2114 = .ok (.iload 4, 2) := by decide +kernel
theorem dL_law_2116 : decode cL_law 2116 = .ok (.iconst 1, 1) := by decide +kernel
theorem dL_law_2117 : decode cL_law 2117 = .ok (.iadd, 1) := by decide +kernel
theorem dL_law_2118 : decode cL_law 2118 = .ok (.iaload, 1) := by decide +kernel
theorem dL_law_2119 : decode cL_law 2119 = .ok (.aload_n 0, 1) := by decide +kernel
theorem dL_law_2120 : decode cL_law 2120 = .ok (.iload 4, 2) := by decide +kernel
theorem dL_law_2122 : decode cL_law 2122 = .ok (.iconst 2, 1) := by decide +kernel
theorem dL_law_2123 : decode cL_law 2123 = .ok (.iadd, 1) := by decide +kernel
theorem dL_law_2124 : decode cL_law 2124 = .ok (.iaload, 1) := by decide +kernel
theorem dL_law_2125 : decode cL_law 2125 = .ok (.invokevirtual 226, 3) := by decide +kernel
theorem dL_law_2128 : decode cL_law 2128 = .ok (.istore 6, 2) := by decide +kernel
theorem dL_law_2130 : decode cL_law 2130 = .ok (.aload_n 2, 1) := by decide +kernel
theorem dL_law_2131 : decode cL_law 2131 = .ok (.invokevirtual 119, 3) := by decide +kernel
theorem dL_law_2134 : decode cL_law 2134 = .ok (.iload 5, 2) := by decide +kernel
theorem dL_law_2136 : decode cL_law 2136 = .ok (.if_icmp .eq 5, 3) := by decide +kernel
theorem dL_law_2139 : decode cL_law 2139 = .ok (.iconst 0, 1) := by decide +kernel
theorem dL_law_2140 : decode cL_law 2140 = .ok (.ireturn, 1) := by decide +kernel
theorem dL_law_2141 : decode cL_law 2141 = .ok (.iload 5, 2) := by decide +kernel
theorem dL_law_2143 : decode cL_law 2143 = .ok (.ifCond .ne 15, 3) := by decide +kernel
theorem dL_law_2146 : decode cL_law 2146 = .ok (.aload_n 3, 1) := by decide +kernel
theorem dL_law_2147 : decode cL_law 2147 = .ok (.iconst 0, 1) := by decide +kernel
theorem dL_law_2148 : decode cL_law 2148 = .ok (.laload, 1) := by decide +kernel
theorem dL_law_2149 : decode cL_law 2149 = .ok (.iload 6, 2) := by decide +kernel
theorem dL_law_2151 : decode cL_law 2151 = .ok (.i2l, 1) := by decide +kernel
theorem dL_law_2152 : decode cL_law 2152 = .ok (.lcmp, 1) := by decide +kernel
theorem dL_law_2153 : decode cL_law 2153 = .ok (.ifCond .eq 5, 3) := by decide +kernel
theorem dL_law_2156 : decode cL_law 2156 = .ok (.iconst 0, 1) := by decide +kernel
theorem dL_law_2157 : decode cL_law 2157 = .ok (.ireturn, 1) := by decide +kernel
theorem dL_law_2158 : decode cL_law 2158 = .ok (.goto 114, 3) := by decide +kernel
theorem dL_law_2161 : decode cL_law 2161 = .ok (.aload_n 1, 1) := by decide +kernel
theorem dL_law_2162 : decode cL_law 2162 = .ok (.aload_n 0, 1) := by decide +kernel
theorem dL_law_2163 : decode cL_law 2163 = .ok (.iload 4, 2) := by decide +kernel
theorem dL_law_2165 : decode cL_law 2165 = .ok (.iconst 1, 1) := by decide +kernel
theorem dL_law_2166 : decode cL_law 2166 = .ok (.iadd, 1) := by decide +kernel
theorem dL_law_2167 : decode cL_law 2167 = .ok (.iaload, 1) := by decide +kernel
theorem dL_law_2168 : decode cL_law 2168 = .ok (.aload_n 3, 1) := by decide +kernel
theorem dL_law_2169 : decode cL_law 2169 = .ok (.invokestatic 227, 3) := by decide +kernel
theorem dL_law_2172 : decode cL_law 2172 = .ok (.istore 5, 2) := by decide +kernel
theorem dL_law_2174 : decode cL_law 2174 = .ok (.aload_n 2, 1) := by decide +kernel
theorem dL_law_2175 : decode cL_law 2175 = .ok (.aload_n 0, 1) := by decide +kernel
theorem dL_law_2176 : decode cL_law 2176 = .ok (.iload 4, 2) := by decide +kernel
theorem dL_law_2178 : decode cL_law 2178 = .ok (.iconst 1, 1) := by decide +kernel
theorem dL_law_2179 : decode cL_law 2179 = .ok (.iadd, 1) := by decide +kernel
theorem dL_law_2180 : decode cL_law 2180 = .ok (.iaload, 1) := by decide +kernel
theorem dL_law_2181 : decode cL_law 2181 = .ok (.invokevirtual 229, 3) := by decide +kernel
theorem dL_law_2184 : decode cL_law 2184 = .ok (.istore 6, 2) := by decide +kernel
theorem dL_law_2186 : decode cL_law 2186 = .ok (.aload_n 2, 1) := by decide +kernel
theorem dL_law_2187 : decode cL_law 2187 = .ok (.invokevirtual 119, 3) := by decide +kernel
theorem dL_law_2190 : decode cL_law 2190 = .ok (.iload 5, 2) := by decide +kernel
theorem dL_law_2192 : decode cL_law 2192 = .ok (.if_icmp .eq 5, 3) := by decide +kernel
theorem dL_law_2195 : decode cL_law 2195 = .ok (.iconst 0, 1) := by decide +kernel
theorem dL_law_2196 : decode cL_law 2196 = .ok (.ireturn, 1) := by decide +kernel
theorem dL_law_2197 : decode cL_law 2197 = .ok (.iload 5, 2) := by decide +kernel
theorem dL_law_2199 : decode cL_law 2199 = .ok (.ifCond .ne 15, 3) := by decide +kernel
theorem dL_law_2202 : decode cL_law 2202 = .ok (.aload_n 3, 1) := by decide +kernel
theorem dL_law_2203 : decode cL_law 2203 = .ok (.iconst 0, 1) := by decide +kernel
theorem dL_law_2204 : decode cL_law 2204 = .ok (.laload, 1) := by decide +kernel
theorem dL_law_2205 : decode cL_law 2205 = .ok (.iload 6, 2) := by decide +kernel
theorem dL_law_2207 : decode cL_law 2207 = .ok (.i2l, 1) := by decide +kernel
theorem dL_law_2208 : decode cL_law 2208 = .ok (.lcmp, 1) := by decide +kernel
theorem dL_law_2209 : decode cL_law 2209 = .ok (.ifCond .eq 5, 3) := by decide +kernel
theorem dL_law_2212 : decode cL_law 2212 = .ok (.iconst 0, 1) := by decide +kernel
theorem dL_law_2213 : decode cL_law 2213 = .ok (.ireturn, 1) := by decide +kernel
theorem dL_law_2214 : decode cL_law 2214 = .ok (.goto 58, 3) := by decide +kernel
theorem dL_law_2217 : decode cL_law 2217 = .ok (.aload_n 1, 1) := by decide +kernel
theorem dL_law_2218 : decode cL_law 2218 = .ok (.invokevirtual 230, 3) := by decide +kernel
theorem dL_law_2221 : decode cL_law 2221 = .ok (.dstore 5, 2) := by decide +kernel
theorem dL_law_2223 : decode cL_law 2223 = .ok (.aload_n 2, 1) := by decide +kernel
theorem dL_law_2224 : decode cL_law 2224 = .ok (.invokevirtual 234, 3) := by decide +kernel
theorem dL_law_2227 : decode cL_law 2227 = .ok (.dstore 7, 2) := by decide +kernel
theorem dL_law_2229 : decode cL_law 2229 = .ok (.dload 5, 2) := by decide +kernel
theorem dL_law_2231 : decode cL_law 2231 = .ok (.dload 7, 2) := by decide +kernel
theorem dL_law_2233 : decode cL_law 2233 = .ok (.dcmp .l, 1) := by decide +kernel
theorem dL_law_2234 : decode cL_law 2234 = .ok (.ifCond .eq 21, 3) := by decide +kernel
theorem dL_law_2237 : decode cL_law 2237 = .ok (.dload 5, 2) := by decide +kernel
theorem dL_law_2239 : decode cL_law 2239 = .ok (.dload 5, 2) := by decide +kernel
theorem dL_law_2241 : decode cL_law 2241 = .ok (.dcmp .l, 1) := by decide +kernel
theorem dL_law_2242 : decode cL_law 2242 = .ok (.ifCond .eq 11, 3) := by decide +kernel
theorem dL_law_2245 : decode cL_law 2245 = .ok (.dload 7, 2) := by decide +kernel
theorem dL_law_2247 : decode cL_law 2247 = .ok (.dload 7, 2) := by decide +kernel
theorem dL_law_2249 : decode cL_law 2249 = .ok (.dcmp .l, 1) := by decide +kernel
theorem dL_law_2250 : decode cL_law 2250 = .ok (.ifCond .ne 5, 3) := by decide +kernel
theorem dL_law_2253 : decode cL_law 2253 = .ok (.iconst 0, 1) := by decide +kernel
theorem dL_law_2254 : decode cL_law 2254 = .ok (.ireturn, 1) := by decide +kernel
theorem dL_law_2255 : decode cL_law 2255 = .ok (.goto 17, 3) := by decide +kernel
theorem dL_law_2258 : decode cL_law 2258 = .ok (.aload_n 1, 1) := by decide +kernel
theorem dL_law_2259 : decode cL_law 2259 = .ok (.invokevirtual 235, 3) := by decide +kernel
theorem dL_law_2262 : decode cL_law 2262 = .ok (.aload_n 2, 1) := by decide +kernel
theorem dL_law_2263 : decode cL_law 2263 = .ok (.invokevirtual 239, 3) := by decide +kernel
theorem dL_law_2266 : decode cL_law 2266 = .ok (.lcmp, 1) := by decide +kernel
theorem dL_law_2267 : decode cL_law 2267 = .ok (.ifCond .eq 5, 3) := by decide +kernel
theorem dL_law_2270 : decode cL_law 2270 = .ok (.iconst 0, 1) := by decide +kernel
theorem dL_law_2271 : decode cL_law 2271 = .ok (.ireturn, 1) := by decide +kernel
theorem dL_law_2272 : decode cL_law 2272 = .ok (.iinc 4 6, 3) := by decide +kernel
theorem dL_law_2275 : decode cL_law 2275 = .ok (.goto (-2252), 3) := by decide +kernel
theorem dL_law_2278 : decode cL_law 2278 = .ok (.iconst 1, 1) := by decide +kernel
theorem dL_law_2279 : decode cL_law 2279 = .ok (.ireturn, 1) := by decide +kernel
end
section
/-! ===== rows over small naturals ===== -/
section EN
variable {p : Program} {l : Launch} {e : Env} {s : State} {m : MethodId} {args : Array Value} {below : List Frame} {meth : Method} {c : Code} {D : va_G} {ba : Nat} {d mc ms : Nat} {Q : State → Prop} {nL : Nat} {ad : Adr} {w : Wd} {pc : Nat} {lv : List (Nat × Value)} {rest : List Value} {cells slots : Nat}
variable {own : String} {cc : ByteArray} {tb : List ExceptionTableEntry}
theorem V_iaddn (C : Cx p l s m args meth c D ba own cc nL tb d) {x y : Nat} (h : decode cc pc = .ok (.iadd, 1)) (k : V p l e s m args below meth c D ba d mc ms Q nL ad w (pc + 1) lv (.int (nI (x + y)) :: rest) cells slots) : V p l e s m args below meth c D ba d mc ms Q nL ad w pc lv (.int (nI y) :: .int (nI x) :: rest) cells slots := V_iadd C h (by rw [nI_add]; exact k)
theorem V_imuln (C : Cx p l s m args meth c D ba own cc nL tb d) {x y : Nat} (h : decode cc pc = .ok (.imul, 1)) (k : V p l e s m args below meth c D ba d mc ms Q nL ad w (pc + 1) lv (.int (nI (x * y)) :: rest) cells slots) : V p l e s m args below meth c D ba d mc ms Q nL ad w pc lv (.int (nI y) :: .int (nI x) :: rest) cells slots := V_imul C h (by rw [pk_mul]; exact k)
theorem V_isubn (C : Cx p l s m args meth c D ba own cc nL tb d) {x y : Nat} (h : decode cc pc = .ok (.isub, 1)) (hle : y ≤ x) (k : V p l e s m args below meth c D ba d mc ms Q nL ad w (pc + 1) lv (.int (nI (x - y)) :: rest) cells slots) : V p l e s m args below meth c D ba d mc ms Q nL ad w pc lv (.int (nI y) :: .int (nI x) :: rest) cells slots := V_isub C h (by rw [pk_sub hle]; exact k)
theorem V_idivn (C : Cx p l s m args meth c D ba own cc nL tb d) {x y : Nat} (h : decode cc pc = .ok (.idiv, 1)) (hx : x < 2 ^ 31) (h0 : 0 < y) (hy : y < 2 ^ 31) (k : V p l e s m args below meth c D ba d mc ms Q nL ad w (pc + 1) lv (.int (nI (x / y)) :: rest) cells slots) : V p l e s m args below meth c D ba d mc ms Q nL ad w pc lv (.int (nI y) :: .int (nI x) :: rest) cells slots := V_idiv C h (nI_ne0 h0 hy) (by rw [pk_div hx h0 hy]; exact k)
theorem V_iremn (C : Cx p l s m args meth c D ba own cc nL tb d) {x y : Nat} (h : decode cc pc = .ok (.irem, 1)) (hx : x < 2 ^ 31) (h0 : 0 < y) (hy : y < 2 ^ 31) (k : V p l e s m args below meth c D ba d mc ms Q nL ad w (pc + 1) lv (.int (nI (x % y)) :: rest) cells slots) : V p l e s m args below meth c D ba d mc ms Q nL ad w pc lv (.int (nI y) :: .int (nI x) :: rest) cells slots := V_irem C h (nI_ne0 h0 hy) (by rw [pk_rem hx h0 hy]; exact k)
theorem V_iincn (C : Cx p l s m args meth c D ba own cc nL tb d) {i : Nat} {x : Nat} (lv' : List (Nat × Value)) (h : decode cc pc = .ok (.iinc i 1, 3)) (j : Nat) (hj : lv[j]? = some (i, .int (nI x))) (hn : i < nL) (hq : (i, Value.int (nI (x + 1))) :: lv.filter (fun q => !(q.1 == i) && !(q.1 + 1 == i && q.2.category == 2)) = lv') (k : V p l e s m args below meth c D ba d mc ms Q nL ad w (pc + 3) lv' rest cells slots) : V p l e s m args below meth c D ba d mc ms Q nL ad w pc lv rest cells slots := V_iinc C lv' h j hj (nI_1 x) hn hq k
theorem V_icmpn_lt (C : Cx p l s m args meth c D ba own cc nL tb d) {x y : Nat} {off : Int} {tgt : Nat} (h : decode cc pc = .ok (.if_icmp .lt off, 3)) (ht : (pc : Int) + off = (tgt : Int)) (hx : x < 2 ^ 31) (hy : y < 2 ^ 31) (kt : x < y → V p l e s m args below meth c D ba d mc ms Q nL ad w tgt lv rest cells slots) (kf : y ≤ x → V p l e s m args below meth c D ba d mc ms Q nL ad w (pc + 3) lv rest cells slots) : V p l e s m args below meth c D ba d mc ms Q nL ad w pc lv (.int (nI y) :: .int (nI x) :: rest) cells slots := V_icmp_lt C h ht (fun q => kt ((nI_ltI hx hy).mp q)) (fun q => kf (Nat.not_lt.mp (fun z => q ((nI_ltI hx hy).mpr z))))
theorem V_icmpn_ge (C : Cx p l s m args meth c D ba own cc nL tb d) {x y : Nat} {off : Int} {tgt : Nat} (h : decode cc pc = .ok (.if_icmp .ge off, 3)) (ht : (pc : Int) + off = (tgt : Int)) (hx : x < 2 ^ 31) (hy : y < 2 ^ 31) (kt : y ≤ x → V p l e s m args below meth c D ba d mc ms Q nL ad w tgt lv rest cells slots) (kf : x < y → V p l e s m args below meth c D ba d mc ms Q nL ad w (pc + 3) lv rest cells slots) : V p l e s m args below meth c D ba d mc ms Q nL ad w pc lv (.int (nI y) :: .int (nI x) :: rest) cells slots := V_icmp_ge C h ht (fun q => kt ((nI_leI hy hx).mp q)) (fun q => kf (Nat.not_le.mp (fun z => q ((nI_leI hy hx).mpr z))))
theorem V_icmpn_gt (C : Cx p l s m args meth c D ba own cc nL tb d) {x y : Nat} {off : Int} {tgt : Nat} (h : decode cc pc = .ok (.if_icmp .gt off, 3)) (ht : (pc : Int) + off = (tgt : Int)) (hx : x < 2 ^ 31) (hy : y < 2 ^ 31) (kt : y < x → V p l e s m args below meth c D ba d mc ms Q nL ad w tgt lv rest cells slots) (kf : x ≤ y → V p l e s m args below meth c D ba d mc ms Q nL ad w (pc + 3) lv rest cells slots) : V p l e s m args below meth c D ba d mc ms Q nL ad w pc lv (.int (nI y) :: .int (nI x) :: rest) cells slots := V_icmp_gt C h ht (fun q => kt ((nI_ltI hy hx).mp q)) (fun q => kf (Nat.not_lt.mp (fun z => q ((nI_ltI hy hx).mpr z))))
theorem V_icmpn_le (C : Cx p l s m args meth c D ba own cc nL tb d) {x y : Nat} {off : Int} {tgt : Nat} (h : decode cc pc = .ok (.if_icmp .le off, 3)) (ht : (pc : Int) + off = (tgt : Int)) (hx : x < 2 ^ 31) (hy : y < 2 ^ 31) (kt : x ≤ y → V p l e s m args below meth c D ba d mc ms Q nL ad w tgt lv rest cells slots) (kf : y < x → V p l e s m args below meth c D ba d mc ms Q nL ad w (pc + 3) lv rest cells slots) : V p l e s m args below meth c D ba d mc ms Q nL ad w pc lv (.int (nI y) :: .int (nI x) :: rest) cells slots := V_icmp_le C h ht (fun q => kt ((nI_leI hx hy).mp q)) (fun q => kf (Nat.not_le.mp (fun z => q ((nI_leI hx hy).mpr z))))
theorem V_icmpn_eq (C : Cx p l s m args meth c D ba own cc nL tb d) {x y : Nat} {off : Int} {tgt : Nat} (h : decode cc pc = .ok (.if_icmp .eq off, 3)) (ht : (pc : Int) + off = (tgt : Int)) (hx : x < 2 ^ 31) (hy : y < 2 ^ 31) (kt : x = y → V p l e s m args below meth c D ba d mc ms Q nL ad w tgt lv rest cells slots) (kf : ¬ x = y → V p l e s m args below meth c D ba d mc ms Q nL ad w (pc + 3) lv rest cells slots) : V p l e s m args below meth c D ba d mc ms Q nL ad w pc lv (.int (nI y) :: .int (nI x) :: rest) cells slots := V_icmp_eq C h ht (fun q => kt ((nI_eq hx hy).mp q)) (fun q => kf (fun z => q (by rw [z])))
theorem V_icmpn_ne (C : Cx p l s m args meth c D ba own cc nL tb d) {x y : Nat} {off : Int} {tgt : Nat} (h : decode cc pc = .ok (.if_icmp .ne off, 3)) (ht : (pc : Int) + off = (tgt : Int)) (hx : x < 2 ^ 31) (hy : y < 2 ^ 31) (kt : ¬ x = y → V p l e s m args below meth c D ba d mc ms Q nL ad w tgt lv rest cells slots) (kf : x = y → V p l e s m args below meth c D ba d mc ms Q nL ad w (pc + 3) lv rest cells slots) : V p l e s m args below meth c D ba d mc ms Q nL ad w pc lv (.int (nI y) :: .int (nI x) :: rest) cells slots := V_icmp_ne C h ht (fun q => kt (fun z => q (by rw [z]))) (fun q => kf ((nI_eq hx hy).mp q))
theorem V_ifn_eq (C : Cx p l s m args meth c D ba own cc nL tb d) {x : Nat} {off : Int} {tgt : Nat} (h : decode cc pc = .ok (.ifCond .eq off, 3)) (ht : (pc : Int) + off = (tgt : Int)) (hx : x < 2 ^ 31) (kt : x = 0 → V p l e s m args below meth c D ba d mc ms Q nL ad w tgt lv rest cells slots) (kf : ¬ x = 0 → V p l e s m args below meth c D ba d mc ms Q nL ad w (pc + 3) lv rest cells slots) : V p l e s m args below meth c D ba d mc ms Q nL ad w pc lv (.int (nI x) :: rest) cells slots := V_if_eq C h ht (fun q => kt ((nI_eq hx (by decide)).mp q)) (fun q => kf (fun z => q (by rw [z]; rfl)))
theorem V_ifn_ne (C : Cx p l s m args meth c D ba own cc nL tb d) {x : Nat} {off : Int} {tgt : Nat} (h : decode cc pc = .ok (.ifCond .ne off, 3)) (ht : (pc : Int) + off = (tgt : Int)) (hx : x < 2 ^ 31) (kt : ¬ x = 0 → V p l e s m args below meth c D ba d mc ms Q nL ad w tgt lv rest cells slots) (kf : x = 0 → V p l e s m args below meth c D ba d mc ms Q nL ad w (pc + 3) lv rest cells slots) : V p l e s m args below meth c D ba d mc ms Q nL ad w pc lv (.int (nI x) :: rest) cells slots := V_if_ne C h ht (fun q => kt (fun z => q (by rw [z]; rfl))) (fun q => kf ((nI_eq hx (by decide)).mp q))
theorem V_ifn_lt (C : Cx p l s m args meth c D ba own cc nL tb d) {x : Nat} {off : Int} {tgt : Nat} (h : decode cc pc = .ok (.ifCond .lt off, 3)) (ht : (pc : Int) + off = (tgt : Int)) (hx : x < 2 ^ 31) (kf : V p l e s m args below meth c D ba d mc ms Q nL ad w (pc + 3) lv rest cells slots) : V p l e s m args below meth c D ba d mc ms Q nL ad w pc lv (.int (nI x) :: rest) cells slots := V_if_lt C h ht (fun q => absurd q (nI_pos hx)) (fun _ => kf)
theorem V_ifn_ge (C : Cx p l s m args meth c D ba own cc nL tb d) {x : Nat} {off : Int} {tgt : Nat} (h : decode cc pc = .ok (.ifCond .ge off, 3)) (ht : (pc : Int) + off = (tgt : Int)) (hx : x < 2 ^ 31) (kt : V p l e s m args below meth c D ba d mc ms Q nL ad w tgt lv rest cells slots) : V p l e s m args below meth c D ba d mc ms Q nL ad w pc lv (.int (nI x) :: rest) cells slots := V_if_ge C h ht (fun _ => kt) (fun q => absurd (nI_pos' hx) q)
theorem V_ifn_le (C : Cx p l s m args meth c D ba own cc nL tb d) {x : Nat} {off : Int} {tgt : Nat} (h : decode cc pc = .ok (.ifCond .le off, 3)) (ht : (pc : Int) + off = (tgt : Int)) (hx : x < 2 ^ 31) (kt : x = 0 → V p l e s m args below meth c D ba d mc ms Q nL ad w tgt lv rest cells slots) (kf : 0 < x → V p l e s m args below meth c D ba d mc ms Q nL ad w (pc + 3) lv rest cells slots) : V p l e s m args below meth c D ba d mc ms Q nL ad w pc lv (.int (nI x) :: rest) cells slots := V_if_le C h ht (fun q => kt (Nat.le_zero.mp ((nI_leI hx (by decide)).mp q))) (fun q => kf (Nat.pos_of_ne_zero (fun z => q (by rw [z]; exact nI_pos' (by decide)))))
theorem V_ifn_gt (C : Cx p l s m args meth c D ba own cc nL tb d) {x : Nat} {off : Int} {tgt : Nat} (h : decode cc pc = .ok (.ifCond .gt off, 3)) (ht : (pc : Int) + off = (tgt : Int)) (hx : x < 2 ^ 31) (kt : 0 < x → V p l e s m args below meth c D ba d mc ms Q nL ad w tgt lv rest cells slots) (kf : x = 0 → V p l e s m args below meth c D ba d mc ms Q nL ad w (pc + 3) lv rest cells slots) : V p l e s m args below meth c D ba d mc ms Q nL ad w pc lv (.int (nI x) :: rest) cells slots := V_if_gt C h ht (fun q => kt (Nat.pos_of_ne_zero (fun z => by rw [z] at q; exact absurd q (by decide)))) (fun q => kf (Nat.eq_zero_of_not_pos (fun z => q ((nI_ltI (by decide) hx).mpr z))))
theorem V_ialdn (C : Cx p l s m args meth c D ba own cc nL tb d) {n : Nat} {f : Nat → Int32} {L : Lab} {a i : Nat} {v : Int32} (h : decode cc pc = .ok (.iaload, 1)) (ha : a = ad L) (hw : w L = some (eI n f)) (hi : i < n) (hn : n < 2 ^ 31) (hv : f i = v) (kk : V p l e s m args below meth c D ba d mc ms Q nL ad w (pc + 1) lv (.int v :: rest) cells slots) : V p l e s m args below meth c D ba d mc ms Q nL ad w pc lv (.int (nI i) :: .ref a :: rest) cells slots := V_iald C h ha hw (vp_in_nI hi hn) (by rw [nI_clamp (Nat.lt_trans hi hn), hv]; exact kk)
theorem V_laldn (C : Cx p l s m args meth c D ba own cc nL tb d) {n : Nat} {f : Nat → Int64} {L : Lab} {a i : Nat} {v : Int64} (h : decode cc pc = .ok (.laload, 1)) (ha : a = ad L) (hw : w L = some (eJ n f)) (hi : i < n) (hn : n < 2 ^ 31) (hv : f i = v) (kk : V p l e s m args below meth c D ba d mc ms Q nL ad w (pc + 1) lv (.long v :: rest) cells slots) : V p l e s m args below meth c D ba d mc ms Q nL ad w pc lv (.int (nI i) :: .ref a :: rest) cells slots := V_lald C h ha hw (vp_in_nI hi hn) (by rw [nI_clamp (Nat.lt_trans hi hn), hv]; exact kk)
theorem V_aaldn (C : Cx p l s m args meth c D ba own cc nL tb d) {K : String} {n : Nat} {f : Nat → Option Nat} {L : Lab} {a i : Nat} {v : Value} (h : decode cc pc = .ok (.aaload, 1)) (ha : a = ad L) (hw : w L = some (eQ K n f)) (hi : i < n) (hn : n < 2 ^ 31) (hv : va_rf (f i) = v) (kk : V p l e s m args below meth c D ba d mc ms Q nL ad w (pc + 1) lv (v :: rest) cells slots) : V p l e s m args below meth c D ba d mc ms Q nL ad w pc lv (.int (nI i) :: .ref a :: rest) cells slots := V_aald C h ha hw (vp_in_nI hi hn) (by rw [nI_clamp (Nat.lt_trans hi hn)]; exact hv) kk
theorem V_iastn (C : Cx p l s m args meth c D ba own cc nL tb d) {n : Nat} {f : Nat → Int32} {L : Lab} {a i : Nat} {x : Int32} (h : decode cc pc = .ok (.iastore, 1)) (ha : a = ad L) (hw : w L = some (eI n f)) (hi : i < n) (hn : n < 2 ^ 31) (kk : V p l e s m args below meth c D ba d mc ms Q nL ad (wset w L (eI n (upd f i x))) (pc + 1) lv rest cells slots) : V p l e s m args below meth c D ba d mc ms Q nL ad w pc lv (.int x :: .int (nI i) :: .ref a :: rest) cells slots := V_iast C h ha hw (vp_in_nI hi hn) (by rw [nI_clamp (Nat.lt_trans hi hn)]; exact kk)
theorem V_lastn (C : Cx p l s m args meth c D ba own cc nL tb d) {n : Nat} {f : Nat → Int64} {L : Lab} {a i : Nat} {x : Int64} (h : decode cc pc = .ok (.lastore, 1)) (ha : a = ad L) (hw : w L = some (eJ n f)) (hi : i < n) (hn : n < 2 ^ 31) (kk : V p l e s m args below meth c D ba d mc ms Q nL ad (wset w L (eJ n (vp_updL f i x))) (pc + 1) lv rest cells slots) : V p l e s m args below meth c D ba d mc ms Q nL ad w pc lv (.long x :: .int (nI i) :: .ref a :: rest) cells slots := V_last C h ha hw (vp_in_nI hi hn) (by rw [nI_clamp (Nat.lt_trans hi hn)]; exact kk)
theorem V_aastn (C : Cx p l s m args meth c D ba own cc nL tb d) {r : vw_C} {n ci i : Nat} {f : Nat → Option Nat} {L Lv : Lab} {a b : Nat} {vs : List Value} (h : decode cc pc = .ok (.aastore, 1)) (ha : a = ad L) (hw : w L = some (eQ r.1 n f)) (hb : b = ad Lv) (hv : w Lv = some (.inr (ci, vs))) (hc : vwCl[ci]? = some r) (hi : i < n) (hn : n < 2 ^ 31) (kk : V p l e s m args below meth c D ba d mc ms Q nL ad (wset w L (eQ r.1 n (va_up f i (some b)))) (pc + 1) lv rest cells slots) : V p l e s m args below meth c D ba d mc ms Q nL ad w pc lv (.ref b :: .int (nI i) :: .ref a :: rest) cells slots := V_aast C h ha hw hb hv hc (vp_in_nI hi hn) (by rw [nI_clamp (Nat.lt_trans hi hn)]; exact kk)
/-- a call whose answer and world behind it are known -/
abbrev isR (v : Option Value) (ad : Adr) (w : Wd) : Option Value → Adr → Wd → Prop := fun v' ad' w' => v' = v ∧ ad' = ad ∧ w' = w
abbrev noX : String → Adr → Wd → Prop := fun _ _ _ => False
abbrev isX (E : String) (ad : Adr) (w : Wd) : String → Adr → Wd → Prop := fun E' ad' w' => E' = E ∧ ad' = ad ∧ w' = w
abbrev noR : Option Value → Adr → Wd → Prop := fun _ _ _ => False
theorem kr_is {v0 : Option Value} {ad0 : Adr} {w0 : Wd} {npc : Nat} (k : V p l e s m args below meth c D ba d mc ms Q nL ad0 w0 npc lv (v0.toList ++ rest) cells slots) : ∀ (v : Option Value) (ad' : Adr) (w' : Wd), isR v0 ad0 w0 v ad' w' → V p l e s m args below meth c D ba d mc ms Q nL ad' w' npc lv (v.toList ++ rest) cells slots := by
  rintro v ad' w' ⟨rfl, rfl, rfl⟩
  exact k
theorem kr_no {npc : Nat} : ∀ (v : Option Value) (ad' : Adr) (w' : Wd), noR v ad' w' → V p l e s m args below meth c D ba d mc ms Q nL ad' w' npc lv (v.toList ++ rest) cells slots := fun _ _ _ h => absurd h id
theorem kx_no : ∀ (E : String) (ad' : Adr) (w' : Wd), noX E ad' w' → VX p l e s m args below meth c D ba d mc ms Q nL E ad' w' pc lv rest cells slots := fun _ _ _ h => absurd h id
theorem kx_is {E0 : String} {ad0 : Adr} {w0 : Wd} (k : VX p l e s m args below meth c D ba d mc ms Q nL E0 ad0 w0 pc lv rest cells slots) : ∀ (E : String) (ad' : Adr) (w' : Wd), isX E0 ad0 w0 E ad' w' → VX p l e s m args below meth c D ba d mc ms Q nL E ad' w' pc lv rest cells slots := by
  rintro E ad' w' ⟨rfl, rfl, rfl⟩
  exact k
theorem V_lvE {lv' : List (Nat × Value)} (h : lv = lv') (k : V p l e s m args below meth c D ba d mc ms Q nL ad w pc lv' rest cells slots) : V p l e s m args below meth c D ba d mc ms Q nL ad w pc lv rest cells slots := h ▸ k
theorem kr_some {x : Value} {ad0 : Adr} {w0 : Wd} {npc : Nat} (k : V p l e s m args below meth c D ba d mc ms Q nL ad0 w0 npc lv (x :: rest) cells slots) : ∀ (v : Option Value) (ad' : Adr) (w' : Wd), isR (some x) ad0 w0 v ad' w' → V p l e s m args below meth c D ba d mc ms Q nL ad' w' npc lv (v.toList ++ rest) cells slots := by
  rintro v ad' w' ⟨rfl, rfl, rfl⟩
  exact k
theorem kr_none {ad0 : Adr} {w0 : Wd} {npc : Nat} (k : V p l e s m args below meth c D ba d mc ms Q nL ad0 w0 npc lv rest cells slots) : ∀ (v : Option Value) (ad' : Adr) (w' : Wd), isR none ad0 w0 v ad' w' → V p l e s m args below meth c D ba d mc ms Q nL ad' w' npc lv (v.toList ++ rest) cells slots := by
  rintro v ad' w' ⟨rfl, rfl, rfl⟩
  exact k
/-- a contract with a weaker end -/
theorem CT.mono {y : MethodName} {ws : List Cond} {as : List Value} {QR QR' : Option Value → Adr → Wd → Prop} {QX QX' : String → Adr → Wd → Prop} (h : CT l y ws d mc ms D ba as ad w QR QX) (h1 : ∀ v ad' w', QR v ad' w' → QR' v ad' w') (h2 : ∀ E ad' w', QX E ad' w' → QX' E ad' w') : CT l y ws d mc ms D ba as ad w QR' QX' := by
  intro p e ha hc hk s m args below hf happ hP hK
  obtain ⟨n, o, g1, g2, g3, hq⟩ := h p e ha hc hk s m args below hf happ hP hK
  refine ⟨n, o, g1, g2, g3, ?_⟩
  rcases hq with ⟨⟨v, ad', w', g1, g2, g3⟩, hL⟩ | ⟨q, g1, E, ce, L, ⟨ad', w', g2, g3⟩, g4⟩
  · exact Or.inl ⟨⟨v, ad', w', g1, h1 v ad' w' g2, g3⟩, hL⟩
  · exact Or.inr ⟨q, g1, E, ce, L, ⟨ad', w', h2 E ad' w' g2, g3⟩, g4⟩
end EN
end
section
theorem nI_min {a b : Nat} (ha : a < 2 ^ 31) (hb : b < 2 ^ 31) : (if nI b < nI a then nI b else nI a) = nI (min a b) := by
  by_cases h : b < a
  · rw [if_pos ((nI_ltI hb ha).mpr h), Nat.min_eq_right (Nat.le_of_lt h)]
  · rw [if_neg (fun z => h ((nI_ltI hb ha).mp z)), Nat.min_eq_left (Nat.not_lt.mp h)]
theorem nI_max {a b : Nat} (ha : a < 2 ^ 31) (hb : b < 2 ^ 31) : (if nI a < nI b then nI b else nI a) = nI (max a b) := by
  by_cases h : a < b
  · rw [if_pos ((nI_ltI ha hb).mpr h), Nat.max_eq_right (Nat.le_of_lt h)]
  · rw [if_neg (fun z => h ((nI_ltI ha hb).mp z)), Nat.max_eq_left (Nat.not_lt.mp h)]
/-- max 0 (a - b) -/
theorem nI_sub0 {a b : Nat} (ha : a < 2 ^ 30) (hb : b < 2 ^ 30) : (if nI 0 < nI a - nI b then nI a - nI b else nI 0) = nI (a - b) := by
  by_cases h : b < a
  · rw [pk_sub (Nat.le_of_lt h), if_pos]
    exact (nI_ltI (a := 0) (by decide) (by omega)).mpr (by omega)
  · rw [show a - b = 0 by omega, if_neg]
    intro z
    rw [Int32.lt_iff_toInt_lt, pk_sub_toInt ha hb, nI_toInt (by decide)] at z
    omega
set_option maxHeartbeats 4000000 in
theorem c_hasCert {l : Launch} {D : va_G} {ba d : Nat} {ad : Adr} {w : Wd} (hl : l.stackTraces = false) (hd : 1 ≤ d) {LH : Lab} {sa sc dm du dy : Nat} {ce : Int32} (hH : w LH = some (.inr (0, [.ref sa, .int (nI sc), .int (nI dm), .int (nI du), .int ce, .int (nI dy)])))  : CT l yX0_hasCertificate (wsO yX0_hasCertificate cX0_hasCertificate 1 (some .boolean)) d 0 0 D ba [.ref (ad LH)] ad w (isR (some (.int (nI (if ce = -1 then 0 else 1)))) ad w) noX := by
  refine CT_of RX0 rfl (by decide +kernel) hl (Nat.le_of_ble_eq_true rfl) ?_
  intro p e s m args below meth c C hr hnm
  refine V_lvE (lv' := [(0, .ref (ad LH))]) rfl ?_
  refine V_aload_n C dX0_hasCertificate_0 0 rfl ?_
  refine V_get (ci := 0) (k := 4) C dX0_hasCertificate_1 RX0 RX0 TX0 6 fw_X0 rfl (by decide) tw_326 rfl rfl hH rfl ?_
  refine V_iconst (v := -1) C dX0_hasCertificate_4 (by decide) ?_
  refine V_icmp_eq (tgt := 12) C dX0_hasCertificate_5 (by decide) (fun hb1 => ?_) (fun hb1 => ?_)
  · skip
    refine V_iconst (v := nI 0) C dX0_hasCertificate_12 (by decide) ?_
    exact V_iret C .boolean dX0_hasCertificate_13 hr rfl ⟨by rw [if_pos hb1], rfl, rfl⟩ (by omega) (by omega)
  · skip
    refine V_iconst (v := nI 1) C dX0_hasCertificate_8 (by decide) ?_
    refine V_goto (tgt := 13) C dX0_hasCertificate_9 (by decide) ?_
    exact V_iret C .boolean dX0_hasCertificate_13 hr rfl ⟨by rw [if_neg hb1], rfl, rfl⟩ (by omega) (by omega)
set_option maxHeartbeats 4000000 in
theorem c_loseCert {l : Launch} {D : va_G} {ba d : Nat} {ad : Adr} {w : Wd} (hl : l.stackTraces = false) (hd : 1 ≤ d) {LH : Lab} {sa sc dm du dy : Nat} {ce : Int32} (hH : w LH = some (.inr (0, [.ref sa, .int (nI sc), .int (nI dm), .int (nI du), .int ce, .int (nI dy)])))  : CT l yX0_loseCertificate (wsO yX0_loseCertificate cX0_loseCertificate 1 none) d 0 0 D ba [.ref (ad LH)] ad w (isR none ad (wset w LH (.inr (0, [.ref sa, .int (nI sc), .int (nI dm), .int (nI du), .int (-1), .int (nI 0)])))) noX := by
  refine CT_of RX0 rfl (by decide +kernel) hl (Nat.le_of_ble_eq_true rfl) ?_
  intro p e s m args below meth c C hr hnm
  refine V_lvE (lv' := [(0, .ref (ad LH))]) rfl ?_
  refine V_aload_n C dX0_loseCertificate_0 0 rfl ?_
  refine V_iconst (v := -1) C dX0_loseCertificate_1 (by decide) ?_
  refine V_put (ci := 0) (k := 4) C dX0_loseCertificate_2 RX0 RX0 TX0 6 tyX0 tyX0_ok nmX0 fw_X0 rfl (by decide) tw_326 rfl (Or.inl rfl) rfl rfl rfl hH (Nat.le_of_ble_eq_true rfl) ?_
  refine V_wd (w' := wset w LH (.inr (0, [.ref sa, .int (nI sc), .int (nI dm), .int (nI du), .int (-1), .int (nI dy)]))) rfl ?_
  refine V_aload_n C dX0_loseCertificate_5 0 rfl ?_
  refine V_iconst (v := nI 0) C dX0_loseCertificate_6 (by decide) ?_
  refine V_put (ci := 0) (k := 5) C dX0_loseCertificate_7 RX0 RX0 TX0 6 tyX0 tyX0_ok nmX0 fw_X0 rfl (by decide) tw_328 rfl (Or.inl rfl) rfl rfl rfl wset_s (Nat.le_of_ble_eq_true rfl) ?_
  refine V_wd (w' := wset w LH (.inr (0, [.ref sa, .int (nI sc), .int (nI dm), .int (nI du), .int (-1), .int (nI 0)]))) wset_wset ?_
  exact V_vret C dX0_loseCertificate_10 hr ⟨rfl, rfl, rfl⟩ (by omega) (by omega)
set_option maxHeartbeats 4000000 in
theorem c_takeCert {l : Launch} {D : va_G} {ba d : Nat} {ad : Adr} {w : Wd} (hl : l.stackTraces = false) (hd : 1 ≤ d) {LH : Lab} {sa sc dm du dy : Nat} {ce : Int32} (hH : w LH = some (.inr (0, [.ref sa, .int (nI sc), .int (nI dm), .int (nI du), .int ce, .int (nI dy)]))) (q : Int32) (dys : Nat) : CT l yX0_takeCertificate (wsO yX0_takeCertificate cX0_takeCertificate 3 none) d 0 0 D ba [.ref (ad LH), .int q, .int (nI dys)] ad w (isR none ad (wset w LH (.inr (0, [.ref sa, .int (nI sc), .int (nI dm), .int (nI du), .int q, .int (nI dys)])))) noX := by
  refine CT_of RX0 rfl (by decide +kernel) hl (Nat.le_of_ble_eq_true rfl) ?_
  intro p e s m args below meth c C hr hnm
  refine V_lvE (lv' := [(0, .ref (ad LH)), (1, .int q), (2, .int (nI dys))]) rfl ?_
  refine V_aload_n C dX0_takeCertificate_0 0 rfl ?_
  refine V_iload_n C dX0_takeCertificate_1 1 rfl ?_
  refine V_put (ci := 0) (k := 4) C dX0_takeCertificate_2 RX0 RX0 TX0 6 tyX0 tyX0_ok nmX0 fw_X0 rfl (by decide) tw_326 rfl (Or.inl rfl) rfl rfl rfl hH (Nat.le_of_ble_eq_true rfl) ?_
  refine V_wd (w' := wset w LH (.inr (0, [.ref sa, .int (nI sc), .int (nI dm), .int (nI du), .int q, .int (nI dy)]))) rfl ?_
  refine V_aload_n C dX0_takeCertificate_5 0 rfl ?_
  refine V_iload_n C dX0_takeCertificate_6 2 rfl ?_
  refine V_put (ci := 0) (k := 5) C dX0_takeCertificate_7 RX0 RX0 TX0 6 tyX0 tyX0_ok nmX0 fw_X0 rfl (by decide) tw_328 rfl (Or.inl rfl) rfl rfl rfl wset_s (Nat.le_of_ble_eq_true rfl) ?_
  refine V_wd (w' := wset w LH (.inr (0, [.ref sa, .int (nI sc), .int (nI dm), .int (nI du), .int q, .int (nI dys)]))) wset_wset ?_
  exact V_vret C dX0_takeCertificate_10 hr ⟨rfl, rfl, rfl⟩ (by omega) (by omega)
set_option maxHeartbeats 4000000 in
theorem c_dustBehind {l : Launch} {D : va_G} {ba d : Nat} {ad : Adr} {w : Wd} (hl : l.stackTraces = false) (hd : 1 ≤ d) {LH : Lab} {sa sc dm du dy : Nat} {ce : Int32} (hH : w LH = some (.inr (0, [.ref sa, .int (nI sc), .int (nI dm), .int (nI du), .int ce, .int (nI dy)]))) (k : Nat) (hdu : du ≤ 100) (hk : k ≤ 100) : CT l yX0_dustBehind (wsO yX0_dustBehind cX0_dustBehind 2 (some .int)) d 0 0 D ba [.ref (ad LH), .int (nI k)] ad w (isR (some (.int (nI (min 100 (du + k))))) ad w) noX := by
  refine CT_of RX0 rfl (by decide +kernel) hl (Nat.le_of_ble_eq_true rfl) ?_
  intro p e s m args below meth c C hr hnm
  refine V_lvE (lv' := [(0, .ref (ad LH)), (1, .int (nI k))]) rfl ?_
  refine V_bipush (v := nI 100) C dX0_dustBehind_0 (by decide) ?_
  refine V_aload_n C dX0_dustBehind_2 0 rfl ?_
  refine V_get (ci := 0) (k := 3) C dX0_dustBehind_3 RX0 RX0 TX0 6 fw_X0 rfl (by decide) tw_325 rfl rfl hH rfl ?_
  refine V_iload_n C dX0_dustBehind_6 1 rfl ?_
  refine V_iaddn C dX0_dustBehind_7 ?_
  refine V_min C dX0_dustBehind_8 tw_504 tw_505 tw_15 tw_506 (by omega) (by simp [Value.category]; try omega) (by omega) (by omega) ?_
  rw [show (if (nI (du + k)) < (nI 100) then (nI (du + k)) else (nI 100)) = (nI (min 100 (du + k))) from nI_min (by omega) (by omega)]
  exact V_iret C .int dX0_dustBehind_11 hr rfl ⟨rfl, rfl, rfl⟩ (by omega) (by omega)
set_option maxHeartbeats 4000000 in
theorem c_growOlder {l : Launch} {D : va_G} {ba d : Nat} {ad : Adr} {w : Wd} (hl : l.stackTraces = false) (hd : 3 ≤ d) {LH : Lab} {sa sc dm du dy : Nat} {ce : Int32} (hH : w LH = some (.inr (0, [.ref sa, .int (nI sc), .int (nI dm), .int (nI du), .int ce, .int (nI dy)]))) (k : Nat) (hdu : du ≤ 100) (hk : k ≤ 100) (hdy : dy ≤ 100) : CT l yX0_growOlder (wsO yX0_growOlder cX0_growOlder 2 none) d 0 0 D ba [.ref (ad LH), .int (nI k)] ad w (isR none ad (wset w LH (.inr (0, [.ref sa, .int (nI sc), .int (nI dm), .int (nI (min 100 (du + k))), .int (if k < dy then ce else -1), .int (nI (dy - k))])))) noX := by
  refine CT_of RX0 rfl (by decide +kernel) hl (Nat.le_of_ble_eq_true rfl) ?_
  intro p e s m args below meth c C hr hnm
  refine V_lvE (lv' := [(0, .ref (ad LH)), (1, .int (nI k))]) rfl ?_
  refine V_aload_n C dX0_growOlder_0 0 rfl ?_
  refine V_aload_n C dX0_growOlder_1 0 rfl ?_
  refine V_iload_n C dX0_growOlder_2 1 rfl ?_
  refine V_callV (r := (RX0, TX0, 6)) C [.int (nI k)] dX0_growOlder_3 m_X0_dustBehind k_X0_dustBehind tw_500 rfl rfl rfl hH rfl rfl (Nat.le_of_ble_eq_true rfl) ⟨by omega, by omega, by omega, by omega⟩ (c_dustBehind hl (by omega) hH k hdu (by omega)) (kr_some ?_) kx_no
  refine V_put (ci := 0) (k := 3) C dX0_growOlder_6 RX0 RX0 TX0 6 tyX0 tyX0_ok nmX0 fw_X0 rfl (by decide) tw_325 rfl (Or.inl rfl) rfl rfl rfl hH (Nat.le_of_ble_eq_true rfl) ?_
  refine V_wd (w' := wset w LH (.inr (0, [.ref sa, .int (nI sc), .int (nI dm), .int (nI (min 100 (du + k))), .int ce, .int (nI dy)]))) rfl ?_
  refine V_aload_n C dX0_growOlder_9 0 rfl ?_
  refine V_get (ci := 0) (k := 5) C dX0_growOlder_10 RX0 RX0 TX0 6 fw_X0 rfl (by decide) tw_328 rfl rfl wset_s rfl ?_
  refine V_iload_n C dX0_growOlder_13 1 rfl ?_
  refine V_icmpn_le (tgt := 30) C dX0_growOlder_14 (by decide) (by omega) (by omega) (fun hb1 => ?_) (fun hb1 => ?_)
  · skip
    refine V_aload_n C dX0_growOlder_30 0 rfl ?_
    refine V_callV (r := (RX0, TX0, 6)) C [] dX0_growOlder_31 m_X0_loseCertificate k_X0_loseCertificate tw_507 rfl rfl rfl wset_s rfl rfl (Nat.le_of_ble_eq_true rfl) ⟨by omega, by omega, by omega, by omega⟩ (c_loseCert hl (by omega) wset_s) (kr_none ?_) kx_no
    refine V_wd (w' := wset w LH (.inr (0, [.ref sa, .int (nI sc), .int (nI dm), .int (nI (min 100 (du + k))), .int (-1), .int (nI 0)]))) wset_wset ?_
    exact V_vret C dX0_growOlder_34 hr ⟨rfl, rfl, by rw [if_neg (by omega), show dy - k = 0 by omega]⟩ (by omega) (by omega)
  · skip
    refine V_aload_n C dX0_growOlder_17 0 rfl ?_
    refine V_dup C dX0_growOlder_18 rfl ?_
    refine V_get (ci := 0) (k := 5) C dX0_growOlder_19 RX0 RX0 TX0 6 fw_X0 rfl (by decide) tw_328 rfl rfl wset_s rfl ?_
    refine V_iload_n C dX0_growOlder_22 1 rfl ?_
    refine V_isubn C dX0_growOlder_23 (by omega) ?_
    refine V_put (ci := 0) (k := 5) C dX0_growOlder_24 RX0 RX0 TX0 6 tyX0 tyX0_ok nmX0 fw_X0 rfl (by decide) tw_328 rfl (Or.inl rfl) rfl rfl rfl wset_s (Nat.le_of_ble_eq_true rfl) ?_
    refine V_wd (w' := wset w LH (.inr (0, [.ref sa, .int (nI sc), .int (nI dm), .int (nI (min 100 (du + k))), .int ce, .int (nI (dy - k))]))) wset_wset ?_
    refine V_goto (tgt := 34) C dX0_growOlder_27 (by decide) ?_
    exact V_vret C dX0_growOlder_34 hr ⟨rfl, rfl, by rw [if_pos (by omega)]⟩ (by omega) (by omega)
set_option maxHeartbeats 4000000 in
theorem c_isFull {l : Launch} {D : va_G} {ba d : Nat} {ad : Adr} {w : Wd} (hl : l.stackTraces = false) (hd : 1 ≤ d) {LH LS : Lab} {sc dm du dy : Nat} {ce : Int32} {fs : Nat → Option Nat} (hH : w LH = some (.inr (0, [.ref (ad LS), .int (nI sc), .int (nI dm), .int (nI du), .int ce, .int (nI dy)]))) (hS : w LS = some (eQ RX4 6 fs)) (hsc : sc ≤ 6) : CT l yX0_isFull (wsO yX0_isFull cX0_isFull 1 (some .boolean)) d 0 0 D ba [.ref (ad LH)] ad w (isR (some (.int (nI (if sc < 6 then 0 else 1)))) ad w) noX := by
  refine CT_of RX0 rfl (by decide +kernel) hl (Nat.le_of_ble_eq_true rfl) ?_
  intro p e s m args below meth c C hr hnm
  refine V_lvE (lv' := [(0, .ref (ad LH))]) rfl ?_
  refine V_aload_n C dX0_isFull_0 0 rfl ?_
  refine V_get (ci := 0) (k := 1) C dX0_isFull_1 RX0 RX0 TX0 6 fw_X0 rfl (by decide) tw_320 rfl rfl hH rfl ?_
  refine V_aload_n C dX0_isFull_4 0 rfl ?_
  refine V_get (ci := 0) (k := 0) C dX0_isFull_5 RX0 RX0 TX0 6 fw_X0 rfl (by decide) tw_318 rfl rfl hH rfl ?_
  refine V_alen (v := nI 6) C dX0_isFull_8 rfl hS rfl ?_
  refine V_icmpn_lt (tgt := 16) C dX0_isFull_9 (by decide) (by omega) (by decide) (fun hb1 => ?_) (fun hb1 => ?_)
  · skip
    refine V_iconst (v := nI 0) C dX0_isFull_16 (by decide) ?_
    exact V_iret C .boolean dX0_isFull_17 hr rfl ⟨by rw [if_pos (by omega)], rfl, rfl⟩ (by omega) (by omega)
  · skip
    refine V_iconst (v := nI 1) C dX0_isFull_12 (by decide) ?_
    refine V_goto (tgt := 17) C dX0_isFull_13 (by decide) ?_
    exact V_iret C .boolean dX0_isFull_17 hr rfl ⟨by rw [if_neg (by omega)], rfl, rfl⟩ (by omega) (by omega)
set_option maxHeartbeats 4000000 in
theorem c_build {l : Launch} {D : va_G} {ba d : Nat} {ad : Adr} {w : Wd} (hl : l.stackTraces = false) (hd : 1 ≤ d) {LH LS : Lab} {sc dm du dy : Nat} {ce : Int32} {fs : Nat → Option Nat} (hH : w LH = some (.inr (0, [.ref (ad LS), .int (nI sc), .int (nI dm), .int (nI du), .int ce, .int (nI dy)]))) (hS : w LS = some (eQ RX4 6 fs)) {Lu : Lab} {us : List Value} (hu : w Lu = some (.inr (3, us))) (hHS : LH ≠ LS) (huS : Lu ≠ LS) (huH : Lu ≠ LH) (hsc : sc < 6) : CT l yX0_build (wsO yX0_build cX0_build 3 (some .int)) d 0 0 D ba [.ref (ad LH), .ref (ad Lu)] ad w (isR (some (.int (nI sc))) ad (wset (wset w LS (eQ RX4 6 (va_up fs sc (some (ad Lu))))) LH (.inr (0, [.ref (ad LS), .int (nI (sc + 1)), .int (nI dm), .int (nI du), .int ce, .int (nI dy)])))) noX := by
  refine CT_of RX0 rfl (by decide +kernel) hl (Nat.le_of_ble_eq_true rfl) ?_
  intro p e s m args below meth c C hr hnm
  refine V_lvE (lv' := [(0, .ref (ad LH)), (1, .ref (ad Lu))]) rfl ?_
  refine V_aload_n C dX0_build_0 0 rfl ?_
  refine V_get (ci := 0) (k := 1) C dX0_build_1 RX0 RX0 TX0 6 fw_X0 rfl (by decide) tw_320 rfl rfl hH rfl ?_
  refine V_istore_n C [(2, .int (nI sc)), (0, .ref (ad LH)), (1, .ref (ad Lu))] dX0_build_4 (by decide) rfl ?_
  refine V_iload_n C dX0_build_5 0 rfl ?_
  refine V_ifn_lt (tgt := 35) C dX0_build_6 (by decide) (by omega) ?_
  refine V_iload_n C dX0_build_9 0 rfl ?_
  refine V_aload_n C dX0_build_10 1 rfl ?_
  refine V_get (ci := 0) (k := 0) C dX0_build_11 RX0 RX0 TX0 6 fw_X0 rfl (by decide) tw_318 rfl rfl hH rfl ?_
  refine V_alen (v := nI 6) C dX0_build_14 rfl hS rfl ?_
  refine V_icmpn_ge (tgt := 35) C dX0_build_15 (by decide) (by omega) (by decide) (fun hb2 => by exfalso; omega) (fun hb2 => ?_)
  refine V_aload_n C dX0_build_18 1 rfl ?_
  refine V_get (ci := 0) (k := 0) C dX0_build_19 RX0 RX0 TX0 6 fw_X0 rfl (by decide) tw_318 rfl rfl hH rfl ?_
  refine V_iload_n C dX0_build_22 0 rfl ?_
  refine V_aload_n C dX0_build_23 2 rfl ?_
  refine V_aastn (r := (RX4, TX4, 2)) C dX0_build_24 rfl hS rfl hu rfl (by omega) (by decide) ?_
  refine V_wd (w' := wset w LS (eQ RX4 6 (va_up fs sc (some (ad Lu))))) rfl ?_
  refine V_aload_n C dX0_build_25 1 rfl ?_
  refine V_dup C dX0_build_26 rfl ?_
  refine V_get (ci := 0) (k := 1) C dX0_build_27 RX0 RX0 TX0 6 fw_X0 rfl (by decide) tw_320 rfl rfl ((wset_n hHS).trans hH) rfl ?_
  refine V_iconst (v := nI 1) C dX0_build_30 (by decide) ?_
  refine V_iaddn C dX0_build_31 ?_
  refine V_put (ci := 0) (k := 1) C dX0_build_32 RX0 RX0 TX0 6 tyX0 tyX0_ok nmX0 fw_X0 rfl (by decide) tw_320 rfl (Or.inl rfl) rfl rfl rfl ((wset_n hHS).trans hH) (Nat.le_of_ble_eq_true rfl) ?_
  refine V_wd (w' := wset (wset w LS (eQ RX4 6 (va_up fs sc (some (ad Lu))))) LH (.inr (0, [.ref (ad LS), .int (nI (sc + 1)), .int (nI dm), .int (nI du), .int ce, .int (nI dy)]))) rfl ?_
  refine V_iload_n C dX0_build_35 0 rfl ?_
  exact V_iret C .int dX0_build_36 hr rfl ⟨rfl, rfl, rfl⟩ (by omega) (by omega)
set_option maxHeartbeats 4000000 in
theorem c_hardUnder {l : Launch} {D : va_G} {ba d : Nat} {ad : Adr} {w : Wd} (hl : l.stackTraces = false) (hd : 1 ≤ d) {LU : Lab} {hb ds : Nat} (hU : w LU = some (.inr (3, [.int (nI hb), .int (nI ds)]))) (du : Nat) (hhb : hb ≤ 99) (hdu : du ≤ 100) : CT l yX4_hardnessUnder (wsO yX4_hardnessUnder cX4_hardnessUnder 2 (some .int)) d 0 0 D ba [.ref (ad LU), .int (nI du)] ad w (isR (some (.int (nI (hb - du / 5)))) ad w) noX := by
  refine CT_of RX4 rfl (by decide +kernel) hl (Nat.le_of_ble_eq_true rfl) ?_
  intro p e s m args below meth c C hr hnm
  refine V_lvE (lv' := [(0, .ref (ad LU)), (1, .int (nI du))]) rfl ?_
  refine V_iconst (v := nI 0) C dX4_hardnessUnder_0 (by decide) ?_
  refine V_aload_n C dX4_hardnessUnder_1 0 rfl ?_
  refine V_get (ci := 3) (k := 0) C dX4_hardnessUnder_2 RX4 RX4 TX4 2 fw_X4 rfl (by decide) tw_391 rfl rfl hU rfl ?_
  refine V_iload_n C dX4_hardnessUnder_5 1 rfl ?_
  refine V_iconst (v := nI 5) C dX4_hardnessUnder_6 (by decide) ?_
  refine V_idivn C dX4_hardnessUnder_7 (by omega) (by omega) (by omega) ?_
  refine V_isub C dX4_hardnessUnder_8 ?_
  refine V_max C dX4_hardnessUnder_9 tw_145 tw_146 tw_15 tw_147 (by omega) (by simp [Value.category]; try omega) (by omega) (by omega) ?_
  rw [show (if (nI 0) < (nI hb - nI (du / 5)) then (nI hb - nI (du / 5)) else (nI 0)) = (nI (hb - du / 5)) from nI_sub0 (by omega) (by omega)]
  exact V_iret C .int dX4_hardnessUnder_12 hr rfl ⟨rfl, rfl, rfl⟩ (by omega) (by omega)
abbrev eT (li co lc fi la : Int32) : Ent := .inr (4, [.int li, .int co, .int lc, .int fi, .int la])
def tLo (l li lc : Int32) : Int32 := if l < li then lc else lc + nI 1
def tFi (m fi : Int32) : Int32 := if fi = -1 then m else if fi ≤ m then fi else m
def tLa (m la : Int32) : Int32 := if m ≤ la then la else m
def okS (ea mo lt : Nat) (co lc fi la : Int32) : Nat := if co = 0 then 1 else if fi < nI ea then 0 else if nI lt < la then 0 else if nI mo < lc then 0 else 1
set_option maxHeartbeats 4000000 in
theorem c_tBegin {l : Launch} {D : va_G} {ba d : Nat} {ad : Adr} {w : Wd} (hl : l.stackTraces = false) (hd : 1 ≤ d) {LT : Lab} {li co lc fi la : Int32} (hT : w LT = some (eT li co lc fi la)) (q : Int32) : CT l yX5_begin (wsO yX5_begin cX5_begin 2 none) d 0 0 D ba [.ref (ad LT), .int q] ad w (isR none ad (wset w LT (eT q (nI 0) (nI 0) (-1) (-1)))) noX := by
  refine CT_of RX5 rfl (by decide +kernel) hl (Nat.le_of_ble_eq_true rfl) ?_
  intro p e s m args below meth c C hr hnm
  refine V_lvE (lv' := [(0, .ref (ad LT)), (1, .int q)]) rfl ?_
  refine V_aload_n C dX5_begin_0 0 rfl ?_
  refine V_iload_n C dX5_begin_1 1 rfl ?_
  refine V_put (ci := 4) (k := 0) C dX5_begin_2 RX5 RX5 TX5 5 tyX5 tyX5_ok nmX5 fw_X5 rfl (by decide) tw_35 rfl (Or.inl rfl) rfl rfl rfl hT (Nat.le_of_ble_eq_true rfl) ?_
  refine V_wd (w' := wset w LT (.inr (4, [.int q, .int co, .int lc, .int fi, .int la]))) rfl ?_
  refine V_aload_n C dX5_begin_5 0 rfl ?_
  refine V_iconst (v := nI 0) C dX5_begin_6 (by decide) ?_
  refine V_put (ci := 4) (k := 1) C dX5_begin_7 RX5 RX5 TX5 5 tyX5 tyX5_ok nmX5 fw_X5 rfl (by decide) tw_37 rfl (Or.inl rfl) rfl rfl rfl wset_s (Nat.le_of_ble_eq_true rfl) ?_
  refine V_wd (w' := wset w LT (.inr (4, [.int q, .int (nI 0), .int lc, .int fi, .int la]))) wset_wset ?_
  refine V_aload_n C dX5_begin_10 0 rfl ?_
  refine V_iconst (v := nI 0) C dX5_begin_11 (by decide) ?_
  refine V_put (ci := 4) (k := 2) C dX5_begin_12 RX5 RX5 TX5 5 tyX5 tyX5_ok nmX5 fw_X5 rfl (by decide) tw_39 rfl (Or.inl rfl) rfl rfl rfl wset_s (Nat.le_of_ble_eq_true rfl) ?_
  refine V_wd (w' := wset w LT (.inr (4, [.int q, .int (nI 0), .int (nI 0), .int fi, .int la]))) wset_wset ?_
  refine V_aload_n C dX5_begin_15 0 rfl ?_
  refine V_iconst (v := -1) C dX5_begin_16 (by decide) ?_
  refine V_put (ci := 4) (k := 3) C dX5_begin_17 RX5 RX5 TX5 5 tyX5 tyX5_ok nmX5 fw_X5 rfl (by decide) tw_43 rfl (Or.inl rfl) rfl rfl rfl wset_s (Nat.le_of_ble_eq_true rfl) ?_
  refine V_wd (w' := wset w LT (.inr (4, [.int q, .int (nI 0), .int (nI 0), .int (-1), .int la]))) wset_wset ?_
  refine V_aload_n C dX5_begin_20 0 rfl ?_
  refine V_iconst (v := -1) C dX5_begin_21 (by decide) ?_
  refine V_put (ci := 4) (k := 4) C dX5_begin_22 RX5 RX5 TX5 5 tyX5 tyX5_ok nmX5 fw_X5 rfl (by decide) tw_46 rfl (Or.inl rfl) rfl rfl rfl wset_s (Nat.le_of_ble_eq_true rfl) ?_
  refine V_wd (w' := wset w LT (.inr (4, [.int q, .int (nI 0), .int (nI 0), .int (-1), .int (-1)]))) wset_wset ?_
  exact V_vret C dX5_begin_25 hr ⟨rfl, rfl, rfl⟩ (by omega) (by omega)
set_option maxHeartbeats 4000000 in
theorem c_tHear {l : Launch} {D : va_G} {ba d : Nat} {ad : Adr} {w : Wd} (hl : l.stackTraces = false) (hd : 1 ≤ d) {LT : Lab} {li co lc fi la : Int32} (hT : w LT = some (eT li co lc fi la)) (m1 l1 : Int32) : CT l yX5_hear (wsO yX5_hear cX5_hear 3 none) d 0 0 D ba [.ref (ad LT), .int m1, .int l1] ad w (isR none ad (wset w LT (eT li (co + nI 1) (tLo l1 li lc) (tFi m1 fi) (tLa m1 la)))) noX := by
  refine CT_of RX5 rfl (by decide +kernel) hl (Nat.le_of_ble_eq_true rfl) ?_
  intro p e s m args below meth c C hr hnm
  refine V_lvE (lv' := [(0, .ref (ad LT)), (1, .int m1), (2, .int l1)]) rfl ?_
  refine V_aload_n C dX5_hear_0 0 rfl ?_
  refine V_dup C dX5_hear_1 rfl ?_
  refine V_get (ci := 4) (k := 1) C dX5_hear_2 RX5 RX5 TX5 5 fw_X5 rfl (by decide) tw_37 rfl rfl hT rfl ?_
  refine V_iconst (v := nI 1) C dX5_hear_5 (by decide) ?_
  refine V_iadd C dX5_hear_6 ?_
  refine V_put (ci := 4) (k := 1) C dX5_hear_7 RX5 RX5 TX5 5 tyX5 tyX5_ok nmX5 fw_X5 rfl (by decide) tw_37 rfl (Or.inl rfl) rfl rfl rfl hT (Nat.le_of_ble_eq_true rfl) ?_
  refine V_wd (w' := wset w LT (.inr (4, [.int li, .int (co + (nI 1)), .int lc, .int fi, .int la]))) rfl ?_
  refine V_iload_n C dX5_hear_10 2 rfl ?_
  refine V_aload_n C dX5_hear_11 0 rfl ?_
  refine V_get (ci := 4) (k := 0) C dX5_hear_12 RX5 RX5 TX5 5 fw_X5 rfl (by decide) tw_35 rfl rfl wset_s rfl ?_
  refine V_icmp_lt (tgt := 28) C dX5_hear_15 (by decide) (fun hb1 => ?_) (fun hb1 => ?_)
  · skip
    refine V_aload_n C dX5_hear_28 0 rfl ?_
    refine V_get (ci := 4) (k := 3) C dX5_hear_29 RX5 RX5 TX5 5 fw_X5 rfl (by decide) tw_43 rfl rfl wset_s rfl ?_
    refine V_iconst (v := -1) C dX5_hear_32 (by decide) ?_
    refine V_icmp_eq (tgt := 44) C dX5_hear_33 (by decide) (fun hb2 => ?_) (fun hb2 => ?_)
    · skip
      refine V_aload_n C dX5_hear_44 0 rfl ?_
      refine V_iload_n C dX5_hear_45 1 rfl ?_
      refine V_put (ci := 4) (k := 3) C dX5_hear_46 RX5 RX5 TX5 5 tyX5 tyX5_ok nmX5 fw_X5 rfl (by decide) tw_43 rfl (Or.inl rfl) rfl rfl rfl wset_s (Nat.le_of_ble_eq_true rfl) ?_
      refine V_wd (w' := wset w LT (.inr (4, [.int li, .int (co + (nI 1)), .int lc, .int m1, .int la]))) wset_wset ?_
      refine V_iload_n C dX5_hear_49 1 rfl ?_
      refine V_aload_n C dX5_hear_50 0 rfl ?_
      refine V_get (ci := 4) (k := 4) C dX5_hear_51 RX5 RX5 TX5 5 fw_X5 rfl (by decide) tw_46 rfl rfl wset_s rfl ?_
      refine V_icmp_le (tgt := 62) C dX5_hear_54 (by decide) (fun hb3 => ?_) (fun hb3 => ?_)
      · skip
        exact V_vret C dX5_hear_62 hr ⟨rfl, rfl, by simp only [tLo, tFi, tLa]; rw [if_pos hb1, if_pos hb2, if_pos hb3]⟩ (by omega) (by omega)
      · skip
        refine V_aload_n C dX5_hear_57 0 rfl ?_
        refine V_iload_n C dX5_hear_58 1 rfl ?_
        refine V_put (ci := 4) (k := 4) C dX5_hear_59 RX5 RX5 TX5 5 tyX5 tyX5_ok nmX5 fw_X5 rfl (by decide) tw_46 rfl (Or.inl rfl) rfl rfl rfl wset_s (Nat.le_of_ble_eq_true rfl) ?_
        refine V_wd (w' := wset w LT (.inr (4, [.int li, .int (co + (nI 1)), .int lc, .int m1, .int m1]))) wset_wset ?_
        exact V_vret C dX5_hear_62 hr ⟨rfl, rfl, by simp only [tLo, tFi, tLa]; rw [if_pos hb1, if_pos hb2, if_neg hb3]⟩ (by omega) (by omega)
    · skip
      refine V_iload_n C dX5_hear_36 1 rfl ?_
      refine V_aload_n C dX5_hear_37 0 rfl ?_
      refine V_get (ci := 4) (k := 3) C dX5_hear_38 RX5 RX5 TX5 5 fw_X5 rfl (by decide) tw_43 rfl rfl wset_s rfl ?_
      refine V_icmp_ge (tgt := 49) C dX5_hear_41 (by decide) (fun hb4 => ?_) (fun hb4 => ?_)
      · skip
        refine V_iload_n C dX5_hear_49 1 rfl ?_
        refine V_aload_n C dX5_hear_50 0 rfl ?_
        refine V_get (ci := 4) (k := 4) C dX5_hear_51 RX5 RX5 TX5 5 fw_X5 rfl (by decide) tw_46 rfl rfl wset_s rfl ?_
        refine V_icmp_le (tgt := 62) C dX5_hear_54 (by decide) (fun hb5 => ?_) (fun hb5 => ?_)
        · skip
          exact V_vret C dX5_hear_62 hr ⟨rfl, rfl, by simp only [tLo, tFi, tLa]; rw [if_pos hb1, if_neg hb2, if_pos hb4, if_pos hb5]⟩ (by omega) (by omega)
        · skip
          refine V_aload_n C dX5_hear_57 0 rfl ?_
          refine V_iload_n C dX5_hear_58 1 rfl ?_
          refine V_put (ci := 4) (k := 4) C dX5_hear_59 RX5 RX5 TX5 5 tyX5 tyX5_ok nmX5 fw_X5 rfl (by decide) tw_46 rfl (Or.inl rfl) rfl rfl rfl wset_s (Nat.le_of_ble_eq_true rfl) ?_
          refine V_wd (w' := wset w LT (.inr (4, [.int li, .int (co + (nI 1)), .int lc, .int fi, .int m1]))) wset_wset ?_
          exact V_vret C dX5_hear_62 hr ⟨rfl, rfl, by simp only [tLo, tFi, tLa]; rw [if_pos hb1, if_neg hb2, if_pos hb4, if_neg hb5]⟩ (by omega) (by omega)
      · skip
        refine V_aload_n C dX5_hear_44 0 rfl ?_
        refine V_iload_n C dX5_hear_45 1 rfl ?_
        refine V_put (ci := 4) (k := 3) C dX5_hear_46 RX5 RX5 TX5 5 tyX5 tyX5_ok nmX5 fw_X5 rfl (by decide) tw_43 rfl (Or.inl rfl) rfl rfl rfl wset_s (Nat.le_of_ble_eq_true rfl) ?_
        refine V_wd (w' := wset w LT (.inr (4, [.int li, .int (co + (nI 1)), .int lc, .int m1, .int la]))) wset_wset ?_
        refine V_iload_n C dX5_hear_49 1 rfl ?_
        refine V_aload_n C dX5_hear_50 0 rfl ?_
        refine V_get (ci := 4) (k := 4) C dX5_hear_51 RX5 RX5 TX5 5 fw_X5 rfl (by decide) tw_46 rfl rfl wset_s rfl ?_
        refine V_icmp_le (tgt := 62) C dX5_hear_54 (by decide) (fun hb6 => ?_) (fun hb6 => ?_)
        · skip
          exact V_vret C dX5_hear_62 hr ⟨rfl, rfl, by simp only [tLo, tFi, tLa]; rw [if_pos hb1, if_neg hb2, if_neg hb4, if_pos hb6]⟩ (by omega) (by omega)
        · skip
          refine V_aload_n C dX5_hear_57 0 rfl ?_
          refine V_iload_n C dX5_hear_58 1 rfl ?_
          refine V_put (ci := 4) (k := 4) C dX5_hear_59 RX5 RX5 TX5 5 tyX5 tyX5_ok nmX5 fw_X5 rfl (by decide) tw_46 rfl (Or.inl rfl) rfl rfl rfl wset_s (Nat.le_of_ble_eq_true rfl) ?_
          refine V_wd (w' := wset w LT (.inr (4, [.int li, .int (co + (nI 1)), .int lc, .int m1, .int m1]))) wset_wset ?_
          exact V_vret C dX5_hear_62 hr ⟨rfl, rfl, by simp only [tLo, tFi, tLa]; rw [if_pos hb1, if_neg hb2, if_neg hb4, if_neg hb6]⟩ (by omega) (by omega)
  · skip
    refine V_aload_n C dX5_hear_18 0 rfl ?_
    refine V_dup C dX5_hear_19 rfl ?_
    refine V_get (ci := 4) (k := 2) C dX5_hear_20 RX5 RX5 TX5 5 fw_X5 rfl (by decide) tw_39 rfl rfl wset_s rfl ?_
    refine V_iconst (v := nI 1) C dX5_hear_23 (by decide) ?_
    refine V_iadd C dX5_hear_24 ?_
    refine V_put (ci := 4) (k := 2) C dX5_hear_25 RX5 RX5 TX5 5 tyX5 tyX5_ok nmX5 fw_X5 rfl (by decide) tw_39 rfl (Or.inl rfl) rfl rfl rfl wset_s (Nat.le_of_ble_eq_true rfl) ?_
    refine V_wd (w' := wset w LT (.inr (4, [.int li, .int (co + (nI 1)), .int (lc + (nI 1)), .int fi, .int la]))) wset_wset ?_
    refine V_aload_n C dX5_hear_28 0 rfl ?_
    refine V_get (ci := 4) (k := 3) C dX5_hear_29 RX5 RX5 TX5 5 fw_X5 rfl (by decide) tw_43 rfl rfl wset_s rfl ?_
    refine V_iconst (v := -1) C dX5_hear_32 (by decide) ?_
    refine V_icmp_eq (tgt := 44) C dX5_hear_33 (by decide) (fun hb7 => ?_) (fun hb7 => ?_)
    · skip
      refine V_aload_n C dX5_hear_44 0 rfl ?_
      refine V_iload_n C dX5_hear_45 1 rfl ?_
      refine V_put (ci := 4) (k := 3) C dX5_hear_46 RX5 RX5 TX5 5 tyX5 tyX5_ok nmX5 fw_X5 rfl (by decide) tw_43 rfl (Or.inl rfl) rfl rfl rfl wset_s (Nat.le_of_ble_eq_true rfl) ?_
      refine V_wd (w' := wset w LT (.inr (4, [.int li, .int (co + (nI 1)), .int (lc + (nI 1)), .int m1, .int la]))) wset_wset ?_
      refine V_iload_n C dX5_hear_49 1 rfl ?_
      refine V_aload_n C dX5_hear_50 0 rfl ?_
      refine V_get (ci := 4) (k := 4) C dX5_hear_51 RX5 RX5 TX5 5 fw_X5 rfl (by decide) tw_46 rfl rfl wset_s rfl ?_
      refine V_icmp_le (tgt := 62) C dX5_hear_54 (by decide) (fun hb8 => ?_) (fun hb8 => ?_)
      · skip
        exact V_vret C dX5_hear_62 hr ⟨rfl, rfl, by simp only [tLo, tFi, tLa]; rw [if_neg hb1, if_pos hb7, if_pos hb8]⟩ (by omega) (by omega)
      · skip
        refine V_aload_n C dX5_hear_57 0 rfl ?_
        refine V_iload_n C dX5_hear_58 1 rfl ?_
        refine V_put (ci := 4) (k := 4) C dX5_hear_59 RX5 RX5 TX5 5 tyX5 tyX5_ok nmX5 fw_X5 rfl (by decide) tw_46 rfl (Or.inl rfl) rfl rfl rfl wset_s (Nat.le_of_ble_eq_true rfl) ?_
        refine V_wd (w' := wset w LT (.inr (4, [.int li, .int (co + (nI 1)), .int (lc + (nI 1)), .int m1, .int m1]))) wset_wset ?_
        exact V_vret C dX5_hear_62 hr ⟨rfl, rfl, by simp only [tLo, tFi, tLa]; rw [if_neg hb1, if_pos hb7, if_neg hb8]⟩ (by omega) (by omega)
    · skip
      refine V_iload_n C dX5_hear_36 1 rfl ?_
      refine V_aload_n C dX5_hear_37 0 rfl ?_
      refine V_get (ci := 4) (k := 3) C dX5_hear_38 RX5 RX5 TX5 5 fw_X5 rfl (by decide) tw_43 rfl rfl wset_s rfl ?_
      refine V_icmp_ge (tgt := 49) C dX5_hear_41 (by decide) (fun hb9 => ?_) (fun hb9 => ?_)
      · skip
        refine V_iload_n C dX5_hear_49 1 rfl ?_
        refine V_aload_n C dX5_hear_50 0 rfl ?_
        refine V_get (ci := 4) (k := 4) C dX5_hear_51 RX5 RX5 TX5 5 fw_X5 rfl (by decide) tw_46 rfl rfl wset_s rfl ?_
        refine V_icmp_le (tgt := 62) C dX5_hear_54 (by decide) (fun hb10 => ?_) (fun hb10 => ?_)
        · skip
          exact V_vret C dX5_hear_62 hr ⟨rfl, rfl, by simp only [tLo, tFi, tLa]; rw [if_neg hb1, if_neg hb7, if_pos hb9, if_pos hb10]⟩ (by omega) (by omega)
        · skip
          refine V_aload_n C dX5_hear_57 0 rfl ?_
          refine V_iload_n C dX5_hear_58 1 rfl ?_
          refine V_put (ci := 4) (k := 4) C dX5_hear_59 RX5 RX5 TX5 5 tyX5 tyX5_ok nmX5 fw_X5 rfl (by decide) tw_46 rfl (Or.inl rfl) rfl rfl rfl wset_s (Nat.le_of_ble_eq_true rfl) ?_
          refine V_wd (w' := wset w LT (.inr (4, [.int li, .int (co + (nI 1)), .int (lc + (nI 1)), .int fi, .int m1]))) wset_wset ?_
          exact V_vret C dX5_hear_62 hr ⟨rfl, rfl, by simp only [tLo, tFi, tLa]; rw [if_neg hb1, if_neg hb7, if_pos hb9, if_neg hb10]⟩ (by omega) (by omega)
      · skip
        refine V_aload_n C dX5_hear_44 0 rfl ?_
        refine V_iload_n C dX5_hear_45 1 rfl ?_
        refine V_put (ci := 4) (k := 3) C dX5_hear_46 RX5 RX5 TX5 5 tyX5 tyX5_ok nmX5 fw_X5 rfl (by decide) tw_43 rfl (Or.inl rfl) rfl rfl rfl wset_s (Nat.le_of_ble_eq_true rfl) ?_
        refine V_wd (w' := wset w LT (.inr (4, [.int li, .int (co + (nI 1)), .int (lc + (nI 1)), .int m1, .int la]))) wset_wset ?_
        refine V_iload_n C dX5_hear_49 1 rfl ?_
        refine V_aload_n C dX5_hear_50 0 rfl ?_
        refine V_get (ci := 4) (k := 4) C dX5_hear_51 RX5 RX5 TX5 5 fw_X5 rfl (by decide) tw_46 rfl rfl wset_s rfl ?_
        refine V_icmp_le (tgt := 62) C dX5_hear_54 (by decide) (fun hb11 => ?_) (fun hb11 => ?_)
        · skip
          exact V_vret C dX5_hear_62 hr ⟨rfl, rfl, by simp only [tLo, tFi, tLa]; rw [if_neg hb1, if_neg hb7, if_neg hb9, if_pos hb11]⟩ (by omega) (by omega)
        · skip
          refine V_aload_n C dX5_hear_57 0 rfl ?_
          refine V_iload_n C dX5_hear_58 1 rfl ?_
          refine V_put (ci := 4) (k := 4) C dX5_hear_59 RX5 RX5 TX5 5 tyX5 tyX5_ok nmX5 fw_X5 rfl (by decide) tw_46 rfl (Or.inl rfl) rfl rfl rfl wset_s (Nat.le_of_ble_eq_true rfl) ?_
          refine V_wd (w' := wset w LT (.inr (4, [.int li, .int (co + (nI 1)), .int (lc + (nI 1)), .int m1, .int m1]))) wset_wset ?_
          exact V_vret C dX5_hear_62 hr ⟨rfl, rfl, by simp only [tLo, tFi, tLa]; rw [if_neg hb1, if_neg hb7, if_neg hb9, if_neg hb11]⟩ (by omega) (by omega)
set_option maxHeartbeats 4000000 in
theorem c_allows {l : Launch} {D : va_G} {ba d : Nat} {ad : Adr} {w : Wd} (hl : l.stackTraces = false) (hd : 1 ≤ d) {LT LD : Lab} {tl co lc fi la : Int32} {ea li mo lt dy : Nat} (hT : w LT = some (eT tl co lc fi la)) (hD : w LD = some (.inr (2, [.int (nI ea), .int (nI li), .int (nI mo), .int (nI lt), .int (nI dy)]))) : CT l yX3_allows (wsO yX3_allows cX3_allows 2 (some .boolean)) d 0 0 D ba [.ref (ad LD), .ref (ad LT)] ad w (isR (some (.int (nI (okS ea mo lt co lc fi la)))) ad w) noX := by
  refine CT_of RX3 rfl (by decide +kernel) hl (Nat.le_of_ble_eq_true rfl) ?_
  intro p e s m args below meth c C hr hnm
  refine V_lvE (lv' := [(0, .ref (ad LD)), (1, .ref (ad LT))]) rfl ?_
  refine V_aload_n C dX3_allows_0 1 rfl ?_
  refine V_getN (ci := 4) (k := 1) C dX3_allows_1 RX5 RX5 RX6 TX5 5 fw_X5 rfl (by decide) tw_36 rfl rfl hT rfl ?_
  refine V_if_ne (tgt := 9) C dX3_allows_4 (by decide) (fun hb1 => ?_) (fun hb1 => ?_)
  · skip
    refine V_aload_n C dX3_allows_9 1 rfl ?_
    refine V_getN (ci := 4) (k := 3) C dX3_allows_10 RX5 RX5 RX6 TX5 5 fw_X5 rfl (by decide) tw_42 rfl rfl hT rfl ?_
    refine V_aload_n C dX3_allows_13 0 rfl ?_
    refine V_get (ci := 2) (k := 0) C dX3_allows_14 RX3 RX3 TX3 5 fw_X3 rfl (by decide) tw_442 rfl rfl hD rfl ?_
    refine V_icmp_lt (tgt := 46) C dX3_allows_17 (by decide) (fun hb2 => ?_) (fun hb2 => ?_)
    · skip
      refine V_iconst (v := nI 0) C dX3_allows_46 (by decide) ?_
      exact V_iret C .boolean dX3_allows_47 hr rfl ⟨by rw [okS, if_neg hb1, if_pos hb2], rfl, rfl⟩ (by omega) (by omega)
    · skip
      refine V_aload_n C dX3_allows_20 1 rfl ?_
      refine V_getN (ci := 4) (k := 4) C dX3_allows_21 RX5 RX5 RX6 TX5 5 fw_X5 rfl (by decide) tw_45 rfl rfl hT rfl ?_
      refine V_aload_n C dX3_allows_24 0 rfl ?_
      refine V_get (ci := 2) (k := 3) C dX3_allows_25 RX3 RX3 TX3 5 fw_X3 rfl (by decide) tw_446 rfl rfl hD rfl ?_
      refine V_icmp_gt (tgt := 46) C dX3_allows_28 (by decide) (fun hb3 => ?_) (fun hb3 => ?_)
      · skip
        refine V_iconst (v := nI 0) C dX3_allows_46 (by decide) ?_
        exact V_iret C .boolean dX3_allows_47 hr rfl ⟨by rw [okS, if_neg hb1, if_neg hb2, if_pos hb3], rfl, rfl⟩ (by omega) (by omega)
      · skip
        refine V_aload_n C dX3_allows_31 1 rfl ?_
        refine V_getN (ci := 4) (k := 2) C dX3_allows_32 RX5 RX5 RX6 TX5 5 fw_X5 rfl (by decide) tw_40 rfl rfl hT rfl ?_
        refine V_aload_n C dX3_allows_35 0 rfl ?_
        refine V_get (ci := 2) (k := 2) C dX3_allows_36 RX3 RX3 TX3 5 fw_X3 rfl (by decide) tw_445 rfl rfl hD rfl ?_
        refine V_icmp_gt (tgt := 46) C dX3_allows_39 (by decide) (fun hb4 => ?_) (fun hb4 => ?_)
        · skip
          refine V_iconst (v := nI 0) C dX3_allows_46 (by decide) ?_
          exact V_iret C .boolean dX3_allows_47 hr rfl ⟨by rw [okS, if_neg hb1, if_neg hb2, if_neg hb3, if_pos hb4], rfl, rfl⟩ (by omega) (by omega)
        · skip
          refine V_iconst (v := nI 1) C dX3_allows_42 (by decide) ?_
          refine V_goto (tgt := 47) C dX3_allows_43 (by decide) ?_
          exact V_iret C .boolean dX3_allows_47 hr rfl ⟨by rw [okS, if_neg hb1, if_neg hb2, if_neg hb3, if_neg hb4], rfl, rfl⟩ (by omega) (by omega)
  · skip
    refine V_iconst (v := nI 1) C dX3_allows_7 (by decide) ?_
    exact V_iret C .boolean dX3_allows_8 hr rfl ⟨by rw [okS, if_pos hb1], rfl, rfl⟩ (by omega) (by omega)
def fillF (x : Int32) (f : Nat → Int32) (k : Nat) : Nat → Int32 := fun j => if j < k then x else f j
theorem fillF_0 {x : Int32} {f : Nat → Int32} : fillF x f 0 = f := by funext j; simp [fillF]
theorem fillF_s {x : Int32} {f : Nat → Int32} {k : Nat} : upd (fillF x f k) k x = fillF x f (k + 1) := by
  funext j
  by_cases h : j = k
  · subst h; simp [upd, fillF]
  · simp only [upd, if_neg h, fillF]
    by_cases h2 : j < k
    · rw [if_pos h2, if_pos (by omega)]
    · rw [if_neg h2, if_neg (by omega)]
theorem wset_id {w : Wd} {L : Lab} {e : Ent} (h : w L = some e) : wset w L e = w := by
  funext L'
  by_cases h' : L' = L
  · subst h'; rw [wset_s, h]
  · rw [wset_n h']
set_option maxHeartbeats 4000000 in
theorem lp_fill {p : Program} {l : Launch} {e : Env} {s : State} {m : MethodId} {args : Array Value} {below : List Frame} {meth : Method} {c : Code} {D : va_G} {ba d mc ms : Nat} {ad : Adr} {w : Wd} {QR : Option Value → Adr → Wd → Prop} {QX : String → Adr → Wd → Prop} (C : Cx p l s m args meth c D ba RJ7 cJ7_fill_53178 4 [] d) (hl : l.stackTraces = false) (hr : meth.sig.returnType = none) (hd : 1 ≤ d) {LF : Lab} {f : Nat → Int32} {x : Int32} {n0 : Nat} (h0 : n0 ≤ 100000) (hq : QR none ad (wset w LF (eI n0 (fillF x f n0)))) : ∀ (n : Nat) (k : Nat), k + n = n0 → V p l e s m args below meth c D ba d mc ms (MO D ba QR QX below args s mc ms) 4 ad (wset w LF (eI n0 (fillF x f k))) 5 [(3, .int (nI n0)), (2, .int (nI k)), (0, .ref (ad LF)), (1, .int x)] [] 0 0 := by
  intro n
  induction n with
  | zero =>
    intro k hk
    refine V_iload_n C dJ7_fill_53178_5 1 rfl ?_
    refine V_iload_n C dJ7_fill_53178_6 0 rfl ?_
    refine V_icmpn_ge (tgt := 20) C dJ7_fill_53178_7 (by decide) (by omega) (by omega) (fun hb1 => ?_) (fun hb1 => by exfalso; omega)
    exact V_vret C dJ7_fill_53178_20 hr (by rw [show k = n0 by omega]; exact hq) (by omega) (by omega)
  | succ n ih =>
    intro k hk
    refine V_iload_n C dJ7_fill_53178_5 1 rfl ?_
    refine V_iload_n C dJ7_fill_53178_6 0 rfl ?_
    refine V_icmpn_ge (tgt := 20) C dJ7_fill_53178_7 (by decide) (by omega) (by omega) (fun hb1 => by exfalso; omega) (fun hb1 => ?_)
    refine V_aload_n C dJ7_fill_53178_10 2 rfl ?_
    refine V_iload_n C dJ7_fill_53178_11 1 rfl ?_
    refine V_iload_n C dJ7_fill_53178_12 3 rfl ?_
    refine V_iastn C dJ7_fill_53178_13 rfl wset_s (by omega) (by omega) ?_
    refine V_wd (w' := wset (wset w LF (eI n0 (fillF x f k))) LF (eI n0 (upd (fillF x f k) k x))) rfl ?_
    refine V_iincn C [(2, .int (nI (k + 1))), (3, .int (nI n0)), (0, .ref (ad LF)), (1, .int x)] dJ7_fill_53178_14 1 rfl (by decide) rfl ?_
    refine V_goto (tgt := 5) C dJ7_fill_53178_17 (by decide) ?_
    refine V_wd (w' := wset w LF (eI n0 (fillF x f (k + 1)))) (by rw [wset_wset, fillF_s]) ?_
    refine V_lv [1, 0, 2, 3] rfl ?_
    exact ih (k + 1) (by omega)
set_option maxHeartbeats 4000000 in
theorem c_fill {l : Launch} {D : va_G} {ba d : Nat} {ad : Adr} {w : Wd} (hl : l.stackTraces = false) (hd : 1 ≤ d) {LF : Lab} {f : Nat → Int32} {n0 : Nat} (hF : w LF = some (eI n0 f)) (h0 : n0 ≤ 100000) (x : Int32) : CT l yJ7_fill_53178 (wsO yJ7_fill_53178 cJ7_fill_53178 4 none) d 0 0 D ba [.ref (ad LF), .int x] ad w (isR none ad (wset w LF (eI n0 (fillF x f n0)))) noX := by
  refine CT_of RJ7 rfl (by decide +kernel) hl (Nat.le_of_ble_eq_true rfl) ?_
  intro p e s m args below meth c C hr hnm
  refine V_lvE (lv' := [(0, .ref (ad LF)), (1, .int x)]) rfl ?_
  refine V_iconst (v := nI 0) C dJ7_fill_53178_0 (by decide) ?_
  refine V_istore_n C [(2, .int (nI 0)), (0, .ref (ad LF)), (1, .int x)] dJ7_fill_53178_1 (by decide) rfl ?_
  refine V_aload_n C dJ7_fill_53178_2 1 rfl ?_
  refine V_alen (v := nI n0) C dJ7_fill_53178_3 rfl hF rfl ?_
  refine V_istore_n C [(3, .int (nI n0)), (2, .int (nI 0)), (0, .ref (ad LF)), (1, .int x)] dJ7_fill_53178_4 (by decide) rfl ?_
  refine V_wd (w' := wset w LF (eI n0 (fillF x f 0))) (by rw [fillF_0, wset_id hF]) ?_
  refine V_lv [0, 1, 2, 3] rfl ?_
  exact lp_fill C hl hr (by omega) h0 ⟨rfl, rfl, rfl⟩ n0 0 (by omega)
set_option maxHeartbeats 4000000 in
theorem c_lBegin {l : Launch} {D : va_G} {ba d : Nat} {ad : Adr} {w : Wd} (hl : l.stackTraces = false) (hd : 2 ≤ d) {LL LA : Lab} {f : Nat → Int32} (hL : w LL = some (.inr (1, [.ref (ad LA)]))) (hA : w LA = some (eI 501 f))  : CT l yX2_begin (wsO yX2_begin cX2_begin 1 none) d 0 0 D ba [.ref (ad LL)] ad w (isR none ad (wset w LA (eI 501 (fillF (nI 0) f 501)))) noX := by
  refine CT_of RX2 rfl (by decide +kernel) hl (Nat.le_of_ble_eq_true rfl) ?_
  intro p e s m args below meth c C hr hnm
  refine V_lvE (lv' := [(0, .ref (ad LL))]) rfl ?_
  refine V_aload_n C dX2_begin_0 0 rfl ?_
  refine V_get (ci := 1) (k := 0) C dX2_begin_1 RX2 RX2 TX2 1 fw_X2 rfl (by decide) tw_65 rfl rfl hL rfl ?_
  refine V_iconst (v := nI 0) C dX2_begin_4 (by decide) ?_
  refine V_callS C [.ref (ad LA), .int (nI 0)] dX2_begin_5 m_J7_fill_53178 k_J7_fill_53178 tw_193 rfl rfl (Nat.le_of_ble_eq_true rfl) ⟨by omega, by omega, by omega, by omega⟩ (c_fill hl (by omega) hA (by decide) (nI 0)) (kr_none ?_) kx_no
  exact V_vret C dX2_begin_8 hr ⟨rfl, rfl, rfl⟩ (by omega) (by omega)
set_option maxHeartbeats 4000000 in
theorem c_lHear {l : Launch} {D : va_G} {ba d : Nat} {ad : Adr} {w : Wd} (hl : l.stackTraces = false) (hd : 1 ≤ d) {LL LA : Lab} {f : Nat → Int32} (hL : w LL = some (.inr (1, [.ref (ad LA)]))) (hA : w LA = some (eI 501 f)) (m1 : Nat) (l1 : Int32) (hm : m1 ≤ 3000) : CT l yX2_hear (wsO yX2_hear cX2_hear 4 none) d 0 0 D ba [.ref (ad LL), .int (nI m1), .int l1] ad w (isR none ad (wset w LA (eI 501 (upd f (m1 / 6) (f (m1 / 6) + l1))))) noX := by
  refine CT_of RX2 rfl (by decide +kernel) hl (Nat.le_of_ble_eq_true rfl) ?_
  intro p e s m args below meth c C hr hnm
  refine V_lvE (lv' := [(0, .ref (ad LL)), (1, .int (nI m1)), (2, .int l1)]) rfl ?_
  refine V_iload_n C dX2_hear_0 1 rfl ?_
  refine V_bipush (v := nI 6) C dX2_hear_1 (by decide) ?_
  refine V_idivn C dX2_hear_3 (by omega) (by omega) (by omega) ?_
  refine V_istore_n C [(3, .int (nI (m1 / 6))), (0, .ref (ad LL)), (1, .int (nI m1)), (2, .int l1)] dX2_hear_4 (by decide) rfl ?_
  refine V_iload_n C dX2_hear_5 0 rfl ?_
  refine V_ifn_lt (tgt := 28) C dX2_hear_6 (by decide) (by omega) ?_
  refine V_iload_n C dX2_hear_9 0 rfl ?_
  refine V_aload_n C dX2_hear_10 1 rfl ?_
  refine V_get (ci := 1) (k := 0) C dX2_hear_11 RX2 RX2 TX2 1 fw_X2 rfl (by decide) tw_65 rfl rfl hL rfl ?_
  refine V_alen (v := nI 501) C dX2_hear_14 rfl hA rfl ?_
  refine V_icmpn_ge (tgt := 28) C dX2_hear_15 (by decide) (by omega) (by decide) (fun hb2 => by exfalso; omega) (fun hb2 => ?_)
  refine V_aload_n C dX2_hear_18 1 rfl ?_
  refine V_get (ci := 1) (k := 0) C dX2_hear_19 RX2 RX2 TX2 1 fw_X2 rfl (by decide) tw_65 rfl rfl hL rfl ?_
  refine V_iload_n C dX2_hear_22 0 rfl ?_
  refine V_dup2 C dX2_hear_23 rfl rfl ?_
  refine V_ialdn (v := (f (m1 / 6))) C dX2_hear_24 rfl hA (by omega) (by decide) rfl ?_
  refine V_iload_n C dX2_hear_25 3 rfl ?_
  refine V_iadd C dX2_hear_26 ?_
  refine V_iastn C dX2_hear_27 rfl hA (by omega) (by decide) ?_
  refine V_wd (w' := wset w LA (eI 501 (upd f (m1 / 6) ((f (m1 / 6)) + l1)))) rfl ?_
  exact V_vret C dX2_hear_28 hr ⟨rfl, rfl, rfl⟩ (by omega) (by omega)
set_option maxHeartbeats 4000000 in
theorem c_addedAt {l : Launch} {D : va_G} {ba d : Nat} {ad : Adr} {w : Wd} (hl : l.stackTraces = false) (hd : 1 ≤ d) {LL LA : Lab} {f : Nat → Int32} (hL : w LL = some (.inr (1, [.ref (ad LA)]))) (hA : w LA = some (eI 501 f)) (m1 : Nat) (hm : m1 ≤ 3000) : CT l yX2_addedAt (wsO yX2_addedAt cX2_addedAt 4 (some .int)) d 0 0 D ba [.ref (ad LL), .int (nI m1)] ad w (isR (some (.int (if m1 % 6 = 0 then f (m1 / 6) else nI 0))) ad w) noX := by
  refine CT_of RX2 rfl (by decide +kernel) hl (Nat.le_of_ble_eq_true rfl) ?_
  intro p e s m args below meth c C hr hnm
  refine V_lvE (lv' := [(0, .ref (ad LL)), (1, .int (nI m1))]) rfl ?_
  refine V_iload_n C dX2_addedAt_0 1 rfl ?_
  refine V_bipush (v := nI 6) C dX2_addedAt_1 (by decide) ?_
  refine V_idivn C dX2_addedAt_3 (by omega) (by omega) (by omega) ?_
  refine V_istore_n C [(2, .int (nI (m1 / 6))), (0, .ref (ad LL)), (1, .int (nI m1))] dX2_addedAt_4 (by decide) rfl ?_
  refine V_iload_n C dX2_addedAt_5 2 rfl ?_
  refine V_bipush (v := nI 6) C dX2_addedAt_6 (by decide) ?_
  refine V_iremn C dX2_addedAt_8 (by omega) (by omega) (by omega) ?_
  refine V_ifn_ne (tgt := 29) C dX2_addedAt_9 (by decide) (by omega) (fun hb1 => ?_) (fun hb1 => ?_)
  · skip
    refine V_iconst (v := nI 0) C dX2_addedAt_29 (by decide) ?_
    refine V_istore_n C [(3, .int (nI 0)), (2, .int (nI (m1 / 6))), (0, .ref (ad LL)), (1, .int (nI m1))] dX2_addedAt_30 (by decide) rfl ?_
    refine V_iload_n C dX2_addedAt_31 0 rfl ?_
    refine V_ifn_eq (tgt := 44) C dX2_addedAt_32 (by decide) (by decide) (fun hb2 => ?_) (fun hb2 => by exfalso; omega)
    refine V_iconst (v := nI 0) C dX2_addedAt_44 (by decide) ?_
    exact V_iret C .int dX2_addedAt_45 hr rfl ⟨by rw [if_neg hb1], rfl, rfl⟩ (by omega) (by omega)
  · skip
    refine V_iload_n C dX2_addedAt_12 0 rfl ?_
    refine V_ifn_lt (tgt := 29) C dX2_addedAt_13 (by decide) (by omega) ?_
    refine V_iload_n C dX2_addedAt_16 0 rfl ?_
    refine V_aload_n C dX2_addedAt_17 1 rfl ?_
    refine V_get (ci := 1) (k := 0) C dX2_addedAt_18 RX2 RX2 TX2 1 fw_X2 rfl (by decide) tw_65 rfl rfl hL rfl ?_
    refine V_alen (v := nI 501) C dX2_addedAt_21 rfl hA rfl ?_
    refine V_icmpn_ge (tgt := 29) C dX2_addedAt_22 (by decide) (by omega) (by decide) (fun hb4 => by exfalso; omega) (fun hb4 => ?_)
    refine V_iconst (v := nI 1) C dX2_addedAt_25 (by decide) ?_
    refine V_goto (tgt := 30) C dX2_addedAt_26 (by decide) ?_
    refine V_istore_n C [(3, .int (nI 1)), (2, .int (nI (m1 / 6))), (0, .ref (ad LL)), (1, .int (nI m1))] dX2_addedAt_30 (by decide) rfl ?_
    refine V_iload_n C dX2_addedAt_31 0 rfl ?_
    refine V_ifn_eq (tgt := 44) C dX2_addedAt_32 (by decide) (by decide) (fun hb5 => by exfalso; omega) (fun hb5 => ?_)
    refine V_aload_n C dX2_addedAt_35 2 rfl ?_
    refine V_get (ci := 1) (k := 0) C dX2_addedAt_36 RX2 RX2 TX2 1 fw_X2 rfl (by decide) tw_65 rfl rfl hL rfl ?_
    refine V_iload_n C dX2_addedAt_39 1 rfl ?_
    refine V_ialdn (v := (f (m1 / 6))) C dX2_addedAt_40 rfl hA (by omega) (by decide) rfl ?_
    refine V_goto (tgt := 45) C dX2_addedAt_41 (by decide) ?_
    exact V_iret C .int dX2_addedAt_45 hr rfl ⟨by rw [if_pos hb1], rfl, rfl⟩ (by omega) (by omega)
def momF (f : Nat → Int32) : Nat → Nat → Int32 → Int32 → Int32
  | 0, _, _, mo => mo
  | n + 1, k, mx, mo => if f k ≤ mx then momF f n (k + 1) mx mo else momF f n (k + 1) (f k) (nI (k * 6))
set_option maxHeartbeats 4000000 in
theorem lp_mom {p : Program} {l : Launch} {e : Env} {s : State} {m : MethodId} {args : Array Value} {below : List Frame} {meth : Method} {c : Code} {D : va_G} {ba d mc ms : Nat} {ad : Adr} {w : Wd} {QR : Option Value → Adr → Wd → Prop} {QX : String → Adr → Wd → Prop} (C : Cx p l s m args meth c D ba RX2 cX2_momentOfMost 4 [] d) (hl : l.stackTraces = false) (hr : meth.sig.returnType = (some .int)) (hd : 1 ≤ d) {LL LA : Lab} {f : Nat → Int32} (hL : w LL = some (.inr (1, [.ref (ad LA)]))) (hA : w LA = some (eI 501 f))  : ∀ (n : Nat) (k : Nat) (mx mo : Int32), k + n = 501 → QR (some (.int (momF f n k mx mo))) ad w → V p l e s m args below meth c D ba d mc ms (MO D ba QR QX below args s mc ms) 4 ad w 6 [(3, .int (nI k)), (2, .int mo), (1, .int mx), (0, .ref (ad LL))] [] 0 0 := by
  intro n
  induction n with
  | zero =>
    intro k mx mo hk hq
    refine V_iload_n C dX2_momentOfMost_6 0 rfl ?_
    refine V_aload_n C dX2_momentOfMost_7 3 rfl ?_
    refine V_get (ci := 1) (k := 0) C dX2_momentOfMost_8 RX2 RX2 TX2 1 fw_X2 rfl (by decide) tw_65 rfl rfl hL rfl ?_
    refine V_alen (v := nI 501) C dX2_momentOfMost_11 rfl hA rfl ?_
    refine V_icmpn_ge (tgt := 43) C dX2_momentOfMost_12 (by decide) (by omega) (by decide) (fun hb1 => ?_) (fun hb1 => by exfalso; omega)
    refine V_iload_n C dX2_momentOfMost_43 1 rfl ?_
    exact V_iret C .int dX2_momentOfMost_44 hr rfl hq (by omega) (by omega)
  | succ n ih =>
    intro k mx mo hk hq
    refine V_iload_n C dX2_momentOfMost_6 0 rfl ?_
    refine V_aload_n C dX2_momentOfMost_7 3 rfl ?_
    refine V_get (ci := 1) (k := 0) C dX2_momentOfMost_8 RX2 RX2 TX2 1 fw_X2 rfl (by decide) tw_65 rfl rfl hL rfl ?_
    refine V_alen (v := nI 501) C dX2_momentOfMost_11 rfl hA rfl ?_
    refine V_icmpn_ge (tgt := 43) C dX2_momentOfMost_12 (by decide) (by omega) (by decide) (fun hb1 => by exfalso; omega) (fun hb1 => ?_)
    refine V_aload_n C dX2_momentOfMost_15 3 rfl ?_
    refine V_get (ci := 1) (k := 0) C dX2_momentOfMost_16 RX2 RX2 TX2 1 fw_X2 rfl (by decide) tw_65 rfl rfl hL rfl ?_
    refine V_iload_n C dX2_momentOfMost_19 0 rfl ?_
    refine V_ialdn (v := (f k)) C dX2_momentOfMost_20 rfl hA (by omega) (by decide) rfl ?_
    refine V_iload_n C dX2_momentOfMost_21 2 rfl ?_
    refine V_icmp_le (tgt := 37) C dX2_momentOfMost_22 (by decide) (fun hb2 => ?_) (fun hb2 => ?_)
    · skip
      refine V_iincn C [(3, .int (nI (k + 1))), (2, .int mo), (1, .int mx), (0, .ref (ad LL))] dX2_momentOfMost_37 0 rfl (by decide) rfl ?_
      refine V_goto (tgt := 6) C dX2_momentOfMost_40 (by decide) ?_
      refine V_lv [0, 1, 2, 3] rfl ?_
      exact ih (k + 1) mx mo (by omega) (by rw [momF, if_pos hb2] at hq; exact hq)
    · skip
      refine V_aload_n C dX2_momentOfMost_25 3 rfl ?_
      refine V_get (ci := 1) (k := 0) C dX2_momentOfMost_26 RX2 RX2 TX2 1 fw_X2 rfl (by decide) tw_65 rfl rfl hL rfl ?_
      refine V_iload_n C dX2_momentOfMost_29 0 rfl ?_
      refine V_ialdn (v := (f k)) C dX2_momentOfMost_30 rfl hA (by omega) (by decide) rfl ?_
      refine V_istore_n C [(1, .int (f k)), (3, .int (nI k)), (2, .int mo), (0, .ref (ad LL))] dX2_momentOfMost_31 (by decide) rfl ?_
      refine V_iload_n C dX2_momentOfMost_32 1 rfl ?_
      refine V_bipush (v := nI 6) C dX2_momentOfMost_33 (by decide) ?_
      refine V_imuln C dX2_momentOfMost_35 ?_
      refine V_istore_n C [(2, .int (nI (k * 6))), (1, .int (f k)), (3, .int (nI k)), (0, .ref (ad LL))] dX2_momentOfMost_36 (by decide) rfl ?_
      refine V_iincn C [(3, .int (nI (k + 1))), (2, .int (nI (k * 6))), (1, .int (f k)), (0, .ref (ad LL))] dX2_momentOfMost_37 2 rfl (by decide) rfl ?_
      refine V_goto (tgt := 6) C dX2_momentOfMost_40 (by decide) ?_
      refine V_lv [0, 1, 2, 3] rfl ?_
      exact ih (k + 1) (f k) (nI (k * 6)) (by omega) (by rw [momF, if_neg hb2] at hq; exact hq)
set_option maxHeartbeats 4000000 in
theorem c_mom {l : Launch} {D : va_G} {ba d : Nat} {ad : Adr} {w : Wd} (hl : l.stackTraces = false) (hd : 1 ≤ d) {LL LA : Lab} {f : Nat → Int32} (hL : w LL = some (.inr (1, [.ref (ad LA)]))) (hA : w LA = some (eI 501 f))  : CT l yX2_momentOfMost (wsO yX2_momentOfMost cX2_momentOfMost 4 (some .int)) d 0 0 D ba [.ref (ad LL)] ad w (isR (some (.int (momF f 501 0 (nI 0) (-1)))) ad w) noX := by
  refine CT_of RX2 rfl (by decide +kernel) hl (Nat.le_of_ble_eq_true rfl) ?_
  intro p e s m args below meth c C hr hnm
  refine V_lvE (lv' := [(0, .ref (ad LL))]) rfl ?_
  refine V_iconst (v := nI 0) C dX2_momentOfMost_0 (by decide) ?_
  refine V_istore_n C [(1, .int (nI 0)), (0, .ref (ad LL))] dX2_momentOfMost_1 (by decide) rfl ?_
  refine V_iconst (v := -1) C dX2_momentOfMost_2 (by decide) ?_
  refine V_istore_n C [(2, .int (-1)), (1, .int (nI 0)), (0, .ref (ad LL))] dX2_momentOfMost_3 (by decide) rfl ?_
  refine V_iconst (v := nI 0) C dX2_momentOfMost_4 (by decide) ?_
  refine V_istore_n C [(3, .int (nI 0)), (2, .int (-1)), (1, .int (nI 0)), (0, .ref (ad LL))] dX2_momentOfMost_5 (by decide) rfl ?_
  refine V_lv [0, 1, 2, 3] rfl ?_
  exact lp_mom C hl hr (by omega) hL hA 501 0 _ _ (by omega) ⟨rfl, rfl, rfl⟩
/-- the next echo's loudness -/
def nx (hd dm l : Nat) : Nat := l * hd / 100 * (100 - dm) / 100
theorem nx_b {hd dm l : Nat} (h1 : hd ≤ 99) (h2 : l ≤ 1000) : l * hd ≤ 99000 ∧ l * hd / 100 * (100 - dm) ≤ 99000 ∧ nx hd dm l ≤ 990 := by
  have a1 : l * hd ≤ 1000 * 99 := Nat.mul_le_mul h2 h1
  have a2 : l * hd / 100 ≤ 990 := by omega
  have a3 : l * hd / 100 * (100 - dm) ≤ 990 * 100 := Nat.mul_le_mul a2 (by omega)
  refine ⟨by omega, by omega, ?_⟩
  unfold nx
  omega
/-- the echoes of a row, from the k-th on: when, how loud -/
def rowE (hd dm ds : Nat) : Nat → Nat → Nat → List (Nat × Nat)
  | 0, _, _ => []
  | n + 1, k, l => if nx hd dm l = 0 then [] else if k * 6 * ds ≤ 3000 then (k * 6 * ds, nx hd dm l) :: rowE hd dm ds n (k + 1) (nx hd dm l) else []
abbrev TT : Type := Int32 × Int32 × Int32 × Int32
abbrev ET (li : Int32) (t : TT) : Ent := eT li t.1 t.2.1 t.2.2.1 t.2.2.2
def hearT (li : Int32) (t : TT) (q : Nat × Nat) : TT := (t.1 + nI 1, tLo (nI q.2) li t.2.1, tFi (nI q.1) t.2.2.1, tLa (nI q.1) t.2.2.2)
def hearL (f : Nat → Int32) (q : Nat × Nat) : Nat → Int32 := upd f (q.1 / 6) (f (q.1 / 6) + nI q.2)
set_option maxHeartbeats 4000000 in
theorem lp_rowT {p : Program} {l : Launch} {e : Env} {s : State} {m : MethodId} {args : Array Value} {below : List Frame} {meth : Method} {c : Code} {D : va_G} {ba d mc ms : Nat} {ad : Adr} {w : Wd} {QR : Option Value → Adr → Wd → Prop} {QX : String → Adr → Wd → Prop} (C : Cx p l s m args meth c D ba RX4 cX4_throwRow 9 [] d) (hl : l.stackTraces = false) (hr : meth.sig.returnType = none) (hd : 3 ≤ d) {LU : Lab} {hb ds : Nat} (hU : w LU = some (.inr (3, [.int (nI hb), .int (nI ds)]))) {LT : Lab} {li : Int32} (hne : LU ≠ LT) {hd0 dm : Nat} (hd9 : hd0 ≤ 99) (hds1 : 1 ≤ ds) (hds : ds ≤ 60) (hdm : dm ≤ 90) : ∀ (n : Nat) (k l1 : Nat) (t : TT), k + n = 501 → 1 ≤ k → l1 ≤ 1000 → QR none ad (wset w LT (ET li (List.foldl (hearT li) t (rowE hd0 dm ds n k l1)))) → V p l e s m args below meth c D ba d mc ms (MO D ba QR QX below args s mc ms) 9 ad (wset w LT (ET li t)) 13 [(7, .int (nI k)), (6, .int (nI l1)), (5, .int (nI hd0)), (0, .ref (ad LU)), (2, .int (nI dm)), (4, .ref (ad LT))] [] 0 0 := by
  intro n
  induction n with
  | zero =>
    intro k l1 t hk hk1 hl1 hq
    refine V_iload C dX4_throwRow_13 0 rfl ?_
    refine V_sipush (v := nI 500) C dX4_throwRow_15 (by decide) ?_
    refine V_icmpn_gt (tgt := 82) C dX4_throwRow_18 (by decide) (by omega) (by decide) (fun hb1 => ?_) (fun hb1 => by exfalso; omega)
    exact V_vret C dX4_throwRow_82 hr hq (by omega) (by omega)
  | succ n ih =>
    intro k l1 t hk hk1 hl1 hq
    have hmul : k * 6 * ds ≤ 3000 * 60 := Nat.mul_le_mul (by omega) hds
    have hnx := nx_b (dm := dm) hd9 hl1
    refine V_iload C dX4_throwRow_13 0 rfl ?_
    refine V_sipush (v := nI 500) C dX4_throwRow_15 (by decide) ?_
    refine V_icmpn_gt (tgt := 82) C dX4_throwRow_18 (by decide) (by omega) (by decide) (fun hb1 => by exfalso; omega) (fun hb1 => ?_)
    refine V_iload C dX4_throwRow_21 0 rfl ?_
    refine V_bipush (v := nI 6) C dX4_throwRow_23 (by decide) ?_
    refine V_imuln C dX4_throwRow_25 ?_
    refine V_aload_n C dX4_throwRow_26 3 rfl ?_
    refine V_get (ci := 3) (k := 1) C dX4_throwRow_27 RX4 RX4 TX4 2 fw_X4 rfl (by decide) tw_392 rfl rfl ((wset_n hne).trans hU) rfl ?_
    refine V_imuln C dX4_throwRow_30 ?_
    refine V_istore C [(8, .int (nI ((k * 6) * ds))), (7, .int (nI k)), (6, .int (nI l1)), (5, .int (nI hd0)), (0, .ref (ad LU)), (2, .int (nI dm)), (4, .ref (ad LT))] dX4_throwRow_31 (by decide) rfl ?_
    refine V_iload C dX4_throwRow_33 2 rfl ?_
    refine V_iload C dX4_throwRow_35 3 rfl ?_
    refine V_imuln C dX4_throwRow_37 ?_
    refine V_bipush (v := nI 100) C dX4_throwRow_38 (by decide) ?_
    refine V_idivn C dX4_throwRow_40 (by have := nx_b (dm := dm) hd9 hl1; omega) (by decide) (by decide) ?_
    refine V_bipush (v := nI 100) C dX4_throwRow_41 (by decide) ?_
    refine V_iload_n C dX4_throwRow_43 5 rfl ?_
    refine V_isubn C dX4_throwRow_44 (by omega) ?_
    refine V_imuln C dX4_throwRow_45 ?_
    refine V_bipush (v := nI 100) C dX4_throwRow_46 (by decide) ?_
    refine V_idivn C dX4_throwRow_48 (by have := nx_b (dm := dm) hd9 hl1; omega) (by decide) (by decide) ?_
    rw [show l1 * hd0 / 100 * (100 - dm) / 100 = nx hd0 dm l1 from rfl]
    refine V_istore C [(6, .int (nI (nx hd0 dm l1))), (8, .int (nI ((k * 6) * ds))), (7, .int (nI k)), (5, .int (nI hd0)), (0, .ref (ad LU)), (2, .int (nI dm)), (4, .ref (ad LT))] dX4_throwRow_49 (by decide) rfl ?_
    refine V_iload C dX4_throwRow_51 0 rfl ?_
    refine V_ifn_le (tgt := 64) C dX4_throwRow_53 (by decide) (by omega) (fun hb2 => ?_) (fun hb2 => ?_)
    · skip
      exact V_vret C dX4_throwRow_64 hr (by rw [rowE, if_pos (by omega)] at hq; exact hq) (by omega) (by omega)
    · skip
      refine V_iload C dX4_throwRow_56 1 rfl ?_
      refine V_sipush (v := nI 3000) C dX4_throwRow_58 (by decide) ?_
      refine V_icmpn_le (tgt := 65) C dX4_throwRow_61 (by decide) (by omega) (by decide) (fun hb3 => ?_) (fun hb3 => ?_)
      · skip
        refine V_aload C dX4_throwRow_65 6 rfl ?_
        refine V_iload C dX4_throwRow_67 1 rfl ?_
        refine V_iload C dX4_throwRow_69 0 rfl ?_
        refine V_callF (r := (RX5, TX5, 5)) C [.int (nI ((k * 6) * ds)), .int (nI (nx hd0 dm l1))] dX4_throwRow_71 m_X5_hear k_X5_hear tw_170 (by decide +kernel) (by decide +kernel) rfl rfl rfl wset_s rfl rfl (Nat.le_of_ble_eq_true rfl) ⟨by omega, by omega, by omega, by omega⟩ (c_tHear hl (by omega) wset_s (nI (k * 6 * ds)) (nI (nx hd0 dm l1))) (kr_none ?_) kx_no
        refine V_wd (w' := wset w LT (ET li (hearT li t (k * 6 * ds, nx hd0 dm l1)))) wset_wset ?_
        refine V_iincn C [(7, .int (nI (k + 1))), (6, .int (nI (nx hd0 dm l1))), (8, .int (nI ((k * 6) * ds))), (5, .int (nI hd0)), (0, .ref (ad LU)), (2, .int (nI dm)), (4, .ref (ad LT))] dX4_throwRow_76 2 rfl (by decide) rfl ?_
        refine V_goto (tgt := 13) C dX4_throwRow_79 (by decide) ?_
        refine V_lv [0, 1, 3, 4, 5, 6] rfl ?_
        exact ih (k + 1) (nx hd0 dm l1) (hearT li t (k * 6 * ds, nx hd0 dm l1)) (by omega) (by omega) (by have := nx_b (dm := dm) hd9 hl1; omega) (by rw [rowE, if_neg (by omega), if_pos (by omega)] at hq; exact hq)
      · skip
        exact V_vret C dX4_throwRow_64 hr (by rw [rowE, if_neg (by omega), if_neg (by omega)] at hq; exact hq) (by omega) (by omega)
set_option maxHeartbeats 4000000 in
theorem c_rowT {l : Launch} {D : va_G} {ba d : Nat} {ad : Adr} {w : Wd} (hl : l.stackTraces = false) (hd : 4 ≤ d) {LU : Lab} {hb ds : Nat} (hU : w LU = some (.inr (3, [.int (nI hb), .int (nI ds)]))) {LT : Lab} {li : Int32} (hne : LU ≠ LT) {t : TT} {click dm du : Nat} (hT : w LT = some (ET li t)) (hhb : hb ≤ 99) (hds1 : 1 ≤ ds) (hds : ds ≤ 60) (hdm : dm ≤ 90) (hdu : du ≤ 100) (hcl : click ≤ 1000) : CT l yX4_throwRow (wsO yX4_throwRow cX4_throwRow 9 none) d 0 0 D ba [.ref (ad LU), .int (nI click), .int (nI dm), .int (nI du), .ref (ad LT)] ad w (isR none ad (wset w LT (ET li (List.foldl (hearT li) t (rowE (hb - du / 5) dm ds 500 1 click))))) noX := by
  refine CT_of RX4 rfl (by decide +kernel) hl (Nat.le_of_ble_eq_true rfl) ?_
  intro p e s m args below meth c C hr hnm
  refine V_lvE (lv' := [(0, .ref (ad LU)), (1, .int (nI click)), (2, .int (nI dm)), (3, .int (nI du)), (4, .ref (ad LT))]) rfl ?_
  refine V_aload_n C dX4_throwRow_0 0 rfl ?_
  refine V_iload_n C dX4_throwRow_1 3 rfl ?_
  refine V_callV (r := (RX4, TX4, 2)) C [.int (nI du)] dX4_throwRow_2 m_X4_hardnessUnder k_X4_hardnessUnder tw_168 rfl rfl rfl hU rfl rfl (Nat.le_of_ble_eq_true rfl) ⟨by omega, by omega, by omega, by omega⟩ (c_hardUnder hl (by omega) hU du hhb hdu) (kr_some ?_) kx_no
  refine V_istore C [(5, .int (nI (hb - du / 5))), (0, .ref (ad LU)), (1, .int (nI click)), (2, .int (nI dm)), (3, .int (nI du)), (4, .ref (ad LT))] dX4_throwRow_5 (by decide) rfl ?_
  refine V_iload_n C dX4_throwRow_7 2 rfl ?_
  refine V_istore C [(6, .int (nI click)), (5, .int (nI (hb - du / 5))), (0, .ref (ad LU)), (1, .int (nI click)), (2, .int (nI dm)), (3, .int (nI du)), (4, .ref (ad LT))] dX4_throwRow_8 (by decide) rfl ?_
  refine V_iconst (v := nI 1) C dX4_throwRow_10 (by decide) ?_
  refine V_istore C [(7, .int (nI 1)), (6, .int (nI click)), (5, .int (nI (hb - du / 5))), (0, .ref (ad LU)), (1, .int (nI click)), (2, .int (nI dm)), (3, .int (nI du)), (4, .ref (ad LT))] dX4_throwRow_11 (by decide) rfl ?_
  refine V_wd (w' := wset w LT (ET li t)) (wset_id hT).symm ?_
  refine V_lv [0, 1, 2, 3, 5, 7] rfl ?_
  exact lp_rowT C hl hr (by omega) hU hne (hd0 := hb - du / 5) (by omega) hds1 hds hdm 500 1 click _ (by omega) (by omega) hcl ⟨rfl, rfl, rfl⟩
set_option maxHeartbeats 4000000 in
theorem lp_rowL {p : Program} {l : Launch} {e : Env} {s : State} {m : MethodId} {args : Array Value} {below : List Frame} {meth : Method} {c : Code} {D : va_G} {ba d mc ms : Nat} {ad : Adr} {w : Wd} {QR : Option Value → Adr → Wd → Prop} {QX : String → Adr → Wd → Prop} (C : Cx p l s m args meth c D ba RX4 cX4_throwRow 9 [] d) (hl : l.stackTraces = false) (hr : meth.sig.returnType = none) (hd : 3 ≤ d) {LU : Lab} {hb ds : Nat} (hU : w LU = some (.inr (3, [.int (nI hb), .int (nI ds)]))) {LL LA : Lab} (hL : w LL = some (.inr (1, [.ref (ad LA)]))) (hne2 : LL ≠ LA) (hne : LU ≠ LA) {hd0 dm : Nat} (hd9 : hd0 ≤ 99) (hds1 : 1 ≤ ds) (hds : ds ≤ 60) (hdm : dm ≤ 90) : ∀ (n : Nat) (k l1 : Nat) (f : Nat → Int32), k + n = 501 → 1 ≤ k → l1 ≤ 1000 → QR none ad (wset w LA (eI 501 (List.foldl hearL f (rowE hd0 dm ds n k l1)))) → V p l e s m args below meth c D ba d mc ms (MO D ba QR QX below args s mc ms) 9 ad (wset w LA (eI 501 f)) 13 [(7, .int (nI k)), (6, .int (nI l1)), (5, .int (nI hd0)), (0, .ref (ad LU)), (2, .int (nI dm)), (4, .ref (ad LL))] [] 0 0 := by
  intro n
  induction n with
  | zero =>
    intro k l1 f hk hk1 hl1 hq
    refine V_iload C dX4_throwRow_13 0 rfl ?_
    refine V_sipush (v := nI 500) C dX4_throwRow_15 (by decide) ?_
    refine V_icmpn_gt (tgt := 82) C dX4_throwRow_18 (by decide) (by omega) (by decide) (fun hb1 => ?_) (fun hb1 => by exfalso; omega)
    exact V_vret C dX4_throwRow_82 hr hq (by omega) (by omega)
  | succ n ih =>
    intro k l1 f hk hk1 hl1 hq
    have hmul : k * 6 * ds ≤ 3000 * 60 := Nat.mul_le_mul (by omega) hds
    have hnx := nx_b (dm := dm) hd9 hl1
    refine V_iload C dX4_throwRow_13 0 rfl ?_
    refine V_sipush (v := nI 500) C dX4_throwRow_15 (by decide) ?_
    refine V_icmpn_gt (tgt := 82) C dX4_throwRow_18 (by decide) (by omega) (by decide) (fun hb1 => by exfalso; omega) (fun hb1 => ?_)
    refine V_iload C dX4_throwRow_21 0 rfl ?_
    refine V_bipush (v := nI 6) C dX4_throwRow_23 (by decide) ?_
    refine V_imuln C dX4_throwRow_25 ?_
    refine V_aload_n C dX4_throwRow_26 3 rfl ?_
    refine V_get (ci := 3) (k := 1) C dX4_throwRow_27 RX4 RX4 TX4 2 fw_X4 rfl (by decide) tw_392 rfl rfl ((wset_n hne).trans hU) rfl ?_
    refine V_imuln C dX4_throwRow_30 ?_
    refine V_istore C [(8, .int (nI ((k * 6) * ds))), (7, .int (nI k)), (6, .int (nI l1)), (5, .int (nI hd0)), (0, .ref (ad LU)), (2, .int (nI dm)), (4, .ref (ad LL))] dX4_throwRow_31 (by decide) rfl ?_
    refine V_iload C dX4_throwRow_33 2 rfl ?_
    refine V_iload C dX4_throwRow_35 3 rfl ?_
    refine V_imuln C dX4_throwRow_37 ?_
    refine V_bipush (v := nI 100) C dX4_throwRow_38 (by decide) ?_
    refine V_idivn C dX4_throwRow_40 (by have := nx_b (dm := dm) hd9 hl1; omega) (by decide) (by decide) ?_
    refine V_bipush (v := nI 100) C dX4_throwRow_41 (by decide) ?_
    refine V_iload_n C dX4_throwRow_43 5 rfl ?_
    refine V_isubn C dX4_throwRow_44 (by omega) ?_
    refine V_imuln C dX4_throwRow_45 ?_
    refine V_bipush (v := nI 100) C dX4_throwRow_46 (by decide) ?_
    refine V_idivn C dX4_throwRow_48 (by have := nx_b (dm := dm) hd9 hl1; omega) (by decide) (by decide) ?_
    rw [show l1 * hd0 / 100 * (100 - dm) / 100 = nx hd0 dm l1 from rfl]
    refine V_istore C [(6, .int (nI (nx hd0 dm l1))), (8, .int (nI ((k * 6) * ds))), (7, .int (nI k)), (5, .int (nI hd0)), (0, .ref (ad LU)), (2, .int (nI dm)), (4, .ref (ad LL))] dX4_throwRow_49 (by decide) rfl ?_
    refine V_iload C dX4_throwRow_51 0 rfl ?_
    refine V_ifn_le (tgt := 64) C dX4_throwRow_53 (by decide) (by omega) (fun hb2 => ?_) (fun hb2 => ?_)
    · skip
      exact V_vret C dX4_throwRow_64 hr (by rw [rowE, if_pos (by omega)] at hq; exact hq) (by omega) (by omega)
    · skip
      refine V_iload C dX4_throwRow_56 1 rfl ?_
      refine V_sipush (v := nI 3000) C dX4_throwRow_58 (by decide) ?_
      refine V_icmpn_le (tgt := 65) C dX4_throwRow_61 (by decide) (by omega) (by decide) (fun hb3 => ?_) (fun hb3 => ?_)
      · skip
        refine V_aload C dX4_throwRow_65 6 rfl ?_
        refine V_iload C dX4_throwRow_67 1 rfl ?_
        refine V_iload C dX4_throwRow_69 0 rfl ?_
        refine V_callF (r := (RX2, TX2, 1)) C [.int (nI ((k * 6) * ds)), .int (nI (nx hd0 dm l1))] dX4_throwRow_71 m_X2_hear k_X2_hear tw_170 (by decide +kernel) (by decide +kernel) rfl rfl rfl ((wset_n hne2).trans hL) rfl rfl (Nat.le_of_ble_eq_true rfl) ⟨by omega, by omega, by omega, by omega⟩ (c_lHear hl (by omega) ((wset_n hne2).trans hL) wset_s (k * 6 * ds) (nI (nx hd0 dm l1)) (by omega)) (kr_none ?_) kx_no
        refine V_wd (w' := wset w LA (eI 501 (hearL f (k * 6 * ds, nx hd0 dm l1)))) wset_wset ?_
        refine V_iincn C [(7, .int (nI (k + 1))), (6, .int (nI (nx hd0 dm l1))), (8, .int (nI ((k * 6) * ds))), (5, .int (nI hd0)), (0, .ref (ad LU)), (2, .int (nI dm)), (4, .ref (ad LL))] dX4_throwRow_76 2 rfl (by decide) rfl ?_
        refine V_goto (tgt := 13) C dX4_throwRow_79 (by decide) ?_
        refine V_lv [0, 1, 3, 4, 5, 6] rfl ?_
        exact ih (k + 1) (nx hd0 dm l1) (hearL f (k * 6 * ds, nx hd0 dm l1)) (by omega) (by omega) (by have := nx_b (dm := dm) hd9 hl1; omega) (by rw [rowE, if_neg (by omega), if_pos (by omega)] at hq; exact hq)
      · skip
        exact V_vret C dX4_throwRow_64 hr (by rw [rowE, if_neg (by omega), if_neg (by omega)] at hq; exact hq) (by omega) (by omega)
set_option maxHeartbeats 4000000 in
theorem c_rowL {l : Launch} {D : va_G} {ba d : Nat} {ad : Adr} {w : Wd} (hl : l.stackTraces = false) (hd : 4 ≤ d) {LU : Lab} {hb ds : Nat} (hU : w LU = some (.inr (3, [.int (nI hb), .int (nI ds)]))) {LL LA : Lab} (hL : w LL = some (.inr (1, [.ref (ad LA)]))) (hne2 : LL ≠ LA) (hne : LU ≠ LA) {f : Nat → Int32} {click dm du : Nat} (hT : w LA = some (eI 501 f)) (hhb : hb ≤ 99) (hds1 : 1 ≤ ds) (hds : ds ≤ 60) (hdm : dm ≤ 90) (hdu : du ≤ 100) (hcl : click ≤ 1000) : CT l yX4_throwRow (wsO yX4_throwRow cX4_throwRow 9 none) d 0 0 D ba [.ref (ad LU), .int (nI click), .int (nI dm), .int (nI du), .ref (ad LL)] ad w (isR none ad (wset w LA (eI 501 (List.foldl hearL f (rowE (hb - du / 5) dm ds 500 1 click))))) noX := by
  refine CT_of RX4 rfl (by decide +kernel) hl (Nat.le_of_ble_eq_true rfl) ?_
  intro p e s m args below meth c C hr hnm
  refine V_lvE (lv' := [(0, .ref (ad LU)), (1, .int (nI click)), (2, .int (nI dm)), (3, .int (nI du)), (4, .ref (ad LL))]) rfl ?_
  refine V_aload_n C dX4_throwRow_0 0 rfl ?_
  refine V_iload_n C dX4_throwRow_1 3 rfl ?_
  refine V_callV (r := (RX4, TX4, 2)) C [.int (nI du)] dX4_throwRow_2 m_X4_hardnessUnder k_X4_hardnessUnder tw_168 rfl rfl rfl hU rfl rfl (Nat.le_of_ble_eq_true rfl) ⟨by omega, by omega, by omega, by omega⟩ (c_hardUnder hl (by omega) hU du hhb hdu) (kr_some ?_) kx_no
  refine V_istore C [(5, .int (nI (hb - du / 5))), (0, .ref (ad LU)), (1, .int (nI click)), (2, .int (nI dm)), (3, .int (nI du)), (4, .ref (ad LL))] dX4_throwRow_5 (by decide) rfl ?_
  refine V_iload_n C dX4_throwRow_7 2 rfl ?_
  refine V_istore C [(6, .int (nI click)), (5, .int (nI (hb - du / 5))), (0, .ref (ad LU)), (1, .int (nI click)), (2, .int (nI dm)), (3, .int (nI du)), (4, .ref (ad LL))] dX4_throwRow_8 (by decide) rfl ?_
  refine V_iconst (v := nI 1) C dX4_throwRow_10 (by decide) ?_
  refine V_istore C [(7, .int (nI 1)), (6, .int (nI click)), (5, .int (nI (hb - du / 5))), (0, .ref (ad LU)), (1, .int (nI click)), (2, .int (nI dm)), (3, .int (nI du)), (4, .ref (ad LL))] dX4_throwRow_11 (by decide) rfl ?_
  refine V_wd (w' := wset w LA (eI 501 f)) (wset_id hT).symm ?_
  refine V_lv [0, 1, 2, 3, 5, 7] rfl ?_
  exact lp_rowL C hl hr (by omega) hU hL hne2 hne (hd0 := hb - du / 5) (by omega) hds1 hds hdm 500 1 click _ (by omega) (by omega) hcl ⟨rfl, rfl, rfl⟩
end
section
theorem thx_RX6_47 : ∀ w ∈ vx_atS RX6 47 "java/lang/IllegalStateException" ["java/lang/RuntimeException", "java/lang/Exception"], w ∈ lw_tbl := by decide +kernel
theorem thy_RX6_47 : ∀ w ∈ vx_atS RX6 47 "java/lang/IllegalStateException" ["java/lang/RuntimeException", "java/lang/Exception"], (goodWord w || eg_nw w) = true := by decide +kernel
theorem thz_RX6_43_47 : ∀ w ∈ Cond.classLink RX6 43 "java/lang/IllegalStateException" :: Cond.initialized "java/lang/IllegalStateException" :: vx_atS RX6 47 "java/lang/IllegalStateException" ["java/lang/RuntimeException", "java/lang/Exception"], vx_ot w = true := by decide +kernel
theorem thx_RX6_67 : ∀ w ∈ vx_atS RX6 67 "java/lang/IllegalArgumentException" ["java/lang/RuntimeException", "java/lang/Exception"], w ∈ lw_tbl := by decide +kernel
theorem thy_RX6_67 : ∀ w ∈ vx_atS RX6 67 "java/lang/IllegalArgumentException" ["java/lang/RuntimeException", "java/lang/Exception"], (goodWord w || eg_nw w) = true := by decide +kernel
theorem thz_RX6_63_67 : ∀ w ∈ Cond.classLink RX6 63 "java/lang/IllegalArgumentException" :: Cond.initialized "java/lang/IllegalArgumentException" :: vx_atS RX6 67 "java/lang/IllegalArgumentException" ["java/lang/RuntimeException", "java/lang/Exception"], vx_ot w = true := by decide +kernel
set_option maxHeartbeats 4000000 in
theorem c_tInit {l : Launch} {D : va_G} {ba d : Nat} {ad : Adr} {w : Wd} (hl : l.stackTraces = false) (hd : 1 ≤ d) (a : Nat) : CT l yX5_init (wsO yX5_init cX5_init 1 none) d 0 0 D ba [.ref a] ad w (isR none ad w) noX := by
  refine CT_of RX5 rfl (by decide +kernel) hl (Nat.le_of_ble_eq_true rfl) ?_
  intro p e s m args below meth c C hr hnm
  refine V_lvE (lv' := [(0, .ref a)]) rfl ?_
  refine V_aload_n C dX5_init_0 0 rfl ?_
  refine V_obj C dX5_init_1 tw_34 tw_23 tw_24 (by omega) (by simp [Value.category]; try omega) ?_
  exact V_vret C dX5_init_4 hr ⟨rfl, rfl, rfl⟩ (by omega) (by omega)
set_option maxHeartbeats 4000000 in
theorem c_sInit {l : Launch} {D : va_G} {ba d : Nat} {ad : Adr} {w : Wd} (hl : l.stackTraces = false) (hd : 1 ≤ d) {LU : Lab} (hU : w LU = some (.inr (3, [.int 0, .int 0]))) (ds hb : Nat) : CT l yX4_init (wsO yX4_init cX4_init 3 none) d 0 0 D ba [.ref (ad LU), .int (nI ds), .int (nI hb)] ad w (isR none ad (wset w LU (.inr (3, [.int (nI hb), .int (nI ds)])))) noX := by
  refine CT_of RX4 rfl (by decide +kernel) hl (Nat.le_of_ble_eq_true rfl) ?_
  intro p e s m args below meth c C hr hnm
  refine V_lvE (lv' := [(0, .ref (ad LU)), (1, .int (nI ds)), (2, .int (nI hb))]) rfl ?_
  refine V_aload_n C dX4_init_0 0 rfl ?_
  refine V_obj C dX4_init_1 tw_390 tw_23 tw_24 (by omega) (by simp [Value.category]; try omega) ?_
  refine V_aload_n C dX4_init_4 0 rfl ?_
  refine V_iload_n C dX4_init_5 1 rfl ?_
  refine V_put (ci := 3) (k := 1) C dX4_init_6 RX4 RX4 TX4 2 tyX4 tyX4_ok nmX4 fw_X4 rfl (by decide) tw_392 rfl (Or.inl rfl) rfl rfl rfl hU (Nat.le_of_ble_eq_true rfl) ?_
  refine V_wd (w' := wset w LU (.inr (3, [.int 0, .int (nI ds)]))) rfl ?_
  refine V_aload_n C dX4_init_9 0 rfl ?_
  refine V_iload_n C dX4_init_10 2 rfl ?_
  refine V_put (ci := 3) (k := 0) C dX4_init_11 RX4 RX4 TX4 2 tyX4 tyX4_ok nmX4 fw_X4 rfl (by decide) tw_391 rfl (Or.inr ⟨rfl, hnm, rfl⟩) rfl rfl rfl wset_s (Nat.le_of_ble_eq_true rfl) ?_
  refine V_wd (w' := wset w LU (.inr (3, [.int (nI hb), .int (nI ds)]))) wset_wset ?_
  exact V_vret C dX4_init_14 hr ⟨rfl, rfl, rfl⟩ (by omega) (by omega)
set_option maxHeartbeats 4000000 in
theorem c_dInit {l : Launch} {D : va_G} {ba d : Nat} {ad : Adr} {w : Wd} (hl : l.stackTraces = false) (hd : 1 ≤ d) {LD : Lab} (hD : w LD = some (.inr (2, [.int 0, .int 0, .int 0, .int 0, .int 0]))) (ea li mo lt dy : Nat) : CT l yX3_init (wsO yX3_init cX3_init 6 none) d 0 0 D ba [.ref (ad LD), .int (nI ea), .int (nI li), .int (nI mo), .int (nI lt), .int (nI dy)] ad w (isR none ad (wset w LD (.inr (2, [.int (nI ea), .int (nI li), .int (nI mo), .int (nI lt), .int (nI dy)])))) noX := by
  refine CT_of RX3 rfl (by decide +kernel) hl (Nat.le_of_ble_eq_true rfl) ?_
  intro p e s m args below meth c C hr hnm
  refine V_lvE (lv' := [(0, .ref (ad LD)), (1, .int (nI ea)), (2, .int (nI li)), (3, .int (nI mo)), (4, .int (nI lt)), (5, .int (nI dy))]) rfl ?_
  refine V_aload_n C dX3_init_0 0 rfl ?_
  refine V_obj C dX3_init_1 tw_441 tw_23 tw_24 (by omega) (by simp [Value.category]; try omega) ?_
  refine V_aload_n C dX3_init_4 0 rfl ?_
  refine V_iload_n C dX3_init_5 1 rfl ?_
  refine V_put (ci := 2) (k := 0) C dX3_init_6 RX3 RX3 TX3 5 tyX3 tyX3_ok nmX3 fw_X3 rfl (by decide) tw_442 rfl (Or.inr ⟨rfl, hnm, rfl⟩) rfl rfl rfl hD (Nat.le_of_ble_eq_true rfl) ?_
  refine V_wd (w' := wset w LD (.inr (2, [.int (nI ea), .int 0, .int 0, .int 0, .int 0]))) rfl ?_
  refine V_aload_n C dX3_init_9 0 rfl ?_
  refine V_iload_n C dX3_init_10 2 rfl ?_
  refine V_put (ci := 2) (k := 1) C dX3_init_11 RX3 RX3 TX3 5 tyX3 tyX3_ok nmX3 fw_X3 rfl (by decide) tw_443 rfl (Or.inr ⟨rfl, hnm, rfl⟩) rfl rfl rfl wset_s (Nat.le_of_ble_eq_true rfl) ?_
  refine V_wd (w' := wset w LD (.inr (2, [.int (nI ea), .int (nI li), .int 0, .int 0, .int 0]))) wset_wset ?_
  refine V_aload_n C dX3_init_14 0 rfl ?_
  refine V_iload_n C dX3_init_15 3 rfl ?_
  refine V_put (ci := 2) (k := 2) C dX3_init_16 RX3 RX3 TX3 5 tyX3 tyX3_ok nmX3 fw_X3 rfl (by decide) tw_445 rfl (Or.inr ⟨rfl, hnm, rfl⟩) rfl rfl rfl wset_s (Nat.le_of_ble_eq_true rfl) ?_
  refine V_wd (w' := wset w LD (.inr (2, [.int (nI ea), .int (nI li), .int (nI mo), .int 0, .int 0]))) wset_wset ?_
  refine V_aload_n C dX3_init_19 0 rfl ?_
  refine V_iload C dX3_init_20 4 rfl ?_
  refine V_put (ci := 2) (k := 3) C dX3_init_22 RX3 RX3 TX3 5 tyX3 tyX3_ok nmX3 fw_X3 rfl (by decide) tw_446 rfl (Or.inr ⟨rfl, hnm, rfl⟩) rfl rfl rfl wset_s (Nat.le_of_ble_eq_true rfl) ?_
  refine V_wd (w' := wset w LD (.inr (2, [.int (nI ea), .int (nI li), .int (nI mo), .int (nI lt), .int 0]))) wset_wset ?_
  refine V_aload_n C dX3_init_25 0 rfl ?_
  refine V_iload C dX3_init_26 5 rfl ?_
  refine V_put (ci := 2) (k := 4) C dX3_init_28 RX3 RX3 TX3 5 tyX3 tyX3_ok nmX3 fw_X3 rfl (by decide) tw_447 rfl (Or.inr ⟨rfl, hnm, rfl⟩) rfl rfl rfl wset_s (Nat.le_of_ble_eq_true rfl) ?_
  refine V_wd (w' := wset w LD (.inr (2, [.int (nI ea), .int (nI li), .int (nI mo), .int (nI lt), .int (nI dy)]))) wset_wset ?_
  exact V_vret C dX3_init_31 hr ⟨rfl, rfl, rfl⟩ (by omega) (by omega)
set_option maxHeartbeats 4000000 in
theorem c_hInit {l : Launch} {D : va_G} {ba d : Nat} {ad : Adr} {w : Wd} (hl : l.stackTraces = false) (hd : 1 ≤ d) {LH LS : Lab} (hH : w LH = some (.inr (0, [.null, .int 0, .int 0, .int 0, .int 0, .int 0]))) (hS : w LS = none) (hHS : LH ≠ LS) (dm : Nat) : CT l yX0_init (wsO yX0_init cX0_init 2 none) d 1 6 D ba [.ref (ad LH), .int (nI dm)] ad w (fun v ad' w' => v = none ∧ ∃ q, ad' = aset ad LS q ∧ w' = wset (wset w LS (eQ RX4 6 (fun _ => none))) LH (.inr (0, [.ref q, .int 0, .int (nI dm), .int 0, .int (-1), .int 0]))) noX := by
  refine CT_of RX0 rfl (by decide +kernel) hl (Nat.le_of_ble_eq_true rfl) ?_
  intro p e s m args below meth c C hr hnm
  refine V_lvE (lv' := [(0, .ref (ad LH)), (1, .int (nI dm))]) rfl ?_
  refine V_aload_n C dX0_init_0 0 rfl ?_
  refine V_obj C dX0_init_1 tw_315 tw_23 tw_24 (by omega) (by simp [Value.category]; try omega) ?_
  refine V_aload_n C dX0_init_4 0 rfl ?_
  refine V_bipush (v := nI 6) C dX0_init_5 (by decide) ?_
  refine V_newQ (N := 6) C LS RX4 dX0_init_7 tw_316 tw_317 (by decide) (by decide) (by decide) hS (by omega) (by omega) (fun q1 => ?_)
  refine V_put (ci := 0) (k := 0) C dX0_init_10 RX0 RX0 TX0 6 tyX0 tyX0_ok nmX0 fw_X0 rfl (by decide) tw_318 rfl (Or.inr ⟨rfl, hnm, rfl⟩) rfl rfl (aset_n hHS).symm ((wset_n hHS).trans hH) (Nat.le_of_ble_eq_true rfl) ?_
  refine V_wd (w' := wset (wset w LS (eQ RX4 6 (fun _ => none))) LH (.inr (0, [.ref q1, .int 0, .int 0, .int 0, .int 0, .int 0]))) rfl ?_
  refine V_aload_n C dX0_init_13 0 rfl ?_
  refine V_iconst (v := -1) C dX0_init_14 (by decide) ?_
  refine V_put (ci := 0) (k := 4) C dX0_init_15 RX0 RX0 TX0 6 tyX0 tyX0_ok nmX0 fw_X0 rfl (by decide) tw_326 rfl (Or.inl rfl) rfl rfl (aset_n hHS).symm wset_s (Nat.le_of_ble_eq_true rfl) ?_
  refine V_wd (w' := wset (wset w LS (eQ RX4 6 (fun _ => none))) LH (.inr (0, [.ref q1, .int 0, .int 0, .int 0, .int (-1), .int 0]))) wset_wset ?_
  refine V_aload_n C dX0_init_18 0 rfl ?_
  refine V_iload_n C dX0_init_19 1 rfl ?_
  refine V_put (ci := 0) (k := 2) C dX0_init_20 RX0 RX0 TX0 6 tyX0 tyX0_ok nmX0 fw_X0 rfl (by decide) tw_322 rfl (Or.inl rfl) rfl rfl (aset_n hHS).symm wset_s (Nat.le_of_ble_eq_true rfl) ?_
  refine V_wd (w' := wset (wset w LS (eQ RX4 6 (fun _ => none))) LH (.inr (0, [.ref q1, .int 0, .int (nI dm), .int 0, .int (-1), .int 0]))) wset_wset ?_
  exact V_vret C dX0_init_23 hr ⟨rfl, q1, rfl, rfl⟩ (by omega) (by omega)
set_option maxHeartbeats 4000000 in
theorem c_lInit {l : Launch} {D : va_G} {ba d : Nat} {ad : Adr} {w : Wd} (hl : l.stackTraces = false) (hd : 1 ≤ d) {LL LA : Lab} (hL : w LL = some (.inr (1, [.null]))) (hA : w LA = none) (hLA : LL ≠ LA) : CT l yX2_init (wsO yX2_init cX2_init 1 none) d 1 501 D ba [.ref (ad LL)] ad w (fun v ad' w' => v = none ∧ ∃ q, ad' = aset ad LA q ∧ w' = wset (wset w LA (eI 501 (fun _ => 0))) LL (.inr (1, [.ref q]))) noX := by
  refine CT_of RX2 rfl (by decide +kernel) hl (Nat.le_of_ble_eq_true rfl) ?_
  intro p e s m args below meth c C hr hnm
  refine V_lvE (lv' := [(0, .ref (ad LL))]) rfl ?_
  refine V_aload_n C dX2_init_0 0 rfl ?_
  refine V_obj C dX2_init_1 tw_64 tw_23 tw_24 (by omega) (by simp [Value.category]; try omega) ?_
  refine V_aload_n C dX2_init_4 0 rfl ?_
  refine V_sipush (v := nI 501) C dX2_init_5 (by decide) ?_
  refine V_newI (N := 501) C LA dX2_init_8 tw_69 (by decide) (by decide) (by decide) hA (by omega) (by omega) (fun q1 => ?_)
  refine V_put (ci := 1) (k := 0) C dX2_init_10 RX2 RX2 TX2 1 tyX2 tyX2_ok nmX2 fw_X2 rfl (by decide) tw_65 rfl (Or.inr ⟨rfl, hnm, rfl⟩) rfl rfl (aset_n hLA).symm ((wset_n hLA).trans hL) (Nat.le_of_ble_eq_true rfl) ?_
  refine V_wd (w' := wset (wset w LA (eI 501 (fun _ => 0))) LL (.inr (1, [.ref q1]))) rfl ?_
  exact V_vret C dX2_init_13 hr ⟨rfl, q1, rfl, rfl⟩ (by omega) (by omega)
/-- is v within a .. b: 1 or 0 -/
def inR (v a b : Int32) : Nat := if v < a then 0 else if b < v then 0 else 1
theorem inR_le (v a b : Int32) : inR v a b ≤ 1 := by unfold inR; split <;> (try split) <;> omega
set_option maxHeartbeats 4000000 in
theorem c_mix {l : Launch} {D : va_G} {ba d : Nat} {ad : Adr} {w : Wd} (hl : l.stackTraces = false) (hd : 1 ≤ d) (x : Int64) (y : Int32) : CT l yX6_mix (wsO yX6_mix cX6_mix 3 (some .long)) d 0 0 D ba [.long x, .int y] ad w (isR (some (.long (x * 31 + y.toInt64))) ad w) noX := by
  refine CT_of RX6 rfl (by decide +kernel) hl (Nat.le_of_ble_eq_true rfl) ?_
  intro p e s m args below meth c C hr hnm
  refine V_lvE (lv' := [(0, .long x), (2, .int y)]) rfl ?_
  refine V_lload_n C dX6_mix_0 0 rfl ?_
  refine V_ldc2 C dX6_mix_1 tw_136 ?_
  refine V_lmul C dX6_mix_4 ?_
  refine V_iload_n C dX6_mix_5 1 rfl ?_
  refine V_i2l C dX6_mix_6 rfl ?_
  refine V_ladd C dX6_mix_7 ?_
  exact V_lret C dX6_mix_8 hr ⟨rfl, rfl, rfl⟩ (by omega) (by omega)
set_option maxHeartbeats 4000000 in
theorem c_isWithin {l : Launch} {D : va_G} {ba d : Nat} {ad : Adr} {w : Wd} (hl : l.stackTraces = false) (hd : 1 ≤ d) (v a b : Int32) : CT l yX6_isWithin (wsO yX6_isWithin cX6_isWithin 3 (some .boolean)) d 0 0 D ba [.int v, .int a, .int b] ad w (isR (some (.int (nI (inR v a b)))) ad w) noX := by
  refine CT_of RX6 rfl (by decide +kernel) hl (Nat.le_of_ble_eq_true rfl) ?_
  intro p e s m args below meth c C hr hnm
  refine V_lvE (lv' := [(0, .int v), (1, .int a), (2, .int b)]) rfl ?_
  refine V_iload_n C dX6_isWithin_0 0 rfl ?_
  refine V_iload_n C dX6_isWithin_1 1 rfl ?_
  refine V_icmp_lt (tgt := 14) C dX6_isWithin_2 (by decide) (fun hb1 => ?_) (fun hb1 => ?_)
  · skip
    refine V_iconst (v := nI 0) C dX6_isWithin_14 (by decide) ?_
    exact V_iret C .boolean dX6_isWithin_15 hr rfl ⟨by rw [inR, if_pos hb1], rfl, rfl⟩ (by omega) (by omega)
  · skip
    refine V_iload_n C dX6_isWithin_5 0 rfl ?_
    refine V_iload_n C dX6_isWithin_6 2 rfl ?_
    refine V_icmp_gt (tgt := 14) C dX6_isWithin_7 (by decide) (fun hb2 => ?_) (fun hb2 => ?_)
    · skip
      refine V_iconst (v := nI 0) C dX6_isWithin_14 (by decide) ?_
      exact V_iret C .boolean dX6_isWithin_15 hr rfl ⟨by rw [inR, if_neg hb1, if_pos hb2], rfl, rfl⟩ (by omega) (by omega)
    · skip
      refine V_iconst (v := nI 1) C dX6_isWithin_10 (by decide) ?_
      refine V_goto (tgt := 15) C dX6_isWithin_11 (by decide) ?_
      exact V_iret C .boolean dX6_isWithin_15 hr rfl ⟨by rw [inR, if_neg hb1, if_neg hb2], rfl, rfl⟩ (by omega) (by omega)
set_option maxHeartbeats 4000000 in
theorem c_ckDamp_ok {l : Launch} {D : va_G} {ba d : Nat} {ad : Adr} {w : Wd} (hl : l.stackTraces = false) (hd : 2 ≤ d) (x : Int32) (hx : ¬ inR x (nI 0) (nI 90) = 0) : CT l yX6_checkDamping (wsO yX6_checkDamping cX6_checkDamping 1 none) d 1 6 D ba [.int x] ad w (isR none ad w) noX := by
  refine CT_of RX6 rfl (by decide +kernel) hl (Nat.le_of_ble_eq_true rfl) ?_
  intro p e s m args below meth c C hr hnm
  refine V_lvE (lv' := [(0, .int x)]) rfl ?_
  refine V_iload_n C dX6_checkDamping_0 0 rfl ?_
  refine V_iconst (v := nI 0) C dX6_checkDamping_1 (by decide) ?_
  refine V_bipush (v := nI 90) C dX6_checkDamping_2 (by decide) ?_
  have hin4 := inR_le x (nI 0) (nI 90)
  refine V_callS C [.int x, .int (nI 0), .int (nI 90)] dX6_checkDamping_4 m_X6_isWithin k_X6_isWithin tw_225 rfl rfl (Nat.le_of_ble_eq_true rfl) ⟨by omega, by omega, by omega, by omega⟩ (c_isWithin hl (by omega) x (nI 0) (nI 90)) (kr_some ?_) kx_no
  refine V_ifn_ne (tgt := 20) C dX6_checkDamping_7 (by decide) (by omega) (fun hb1 => ?_) (fun hb1 => by exfalso; omega)
  exact V_vret C dX6_checkDamping_20 hr ⟨rfl, rfl, rfl⟩ (by omega) (by omega)
set_option maxHeartbeats 4000000 in
theorem c_ckDamp_no {l : Launch} {D : va_G} {ba d : Nat} {ad : Adr} {w : Wd} (hl : l.stackTraces = false) (hd : 7 ≤ d) (x : Int32) (hx : inR x (nI 0) (nI 90) = 0) : CT l yX6_checkDamping (wsO yX6_checkDamping cX6_checkDamping 1 none) d 1 6 D ba [.int x] ad w noR (isX "java/lang/IllegalArgumentException" ad w) := by
  refine CT_of RX6 rfl (by decide +kernel) hl (Nat.le_of_ble_eq_true rfl) ?_
  intro p e s m args below meth c C hr hnm
  refine V_lvE (lv' := [(0, .int x)]) rfl ?_
  refine V_iload_n C dX6_checkDamping_0 0 rfl ?_
  refine V_iconst (v := nI 0) C dX6_checkDamping_1 (by decide) ?_
  refine V_bipush (v := nI 90) C dX6_checkDamping_2 (by decide) ?_
  have hin4 := inR_le x (nI 0) (nI 90)
  refine V_callS C [.int x, .int (nI 0), .int (nI 90)] dX6_checkDamping_4 m_X6_isWithin k_X6_isWithin tw_225 rfl rfl (Nat.le_of_ble_eq_true rfl) ⟨by omega, by omega, by omega, by omega⟩ (c_isWithin hl (by omega) x (nI 0) (nI 90)) (kr_some ?_) kx_no
  refine V_ifn_ne (tgt := 20) C dX6_checkDamping_7 (by decide) (by omega) (fun hb1 => by exfalso; omega) (fun hb1 => ?_)
  exact V_throw C "java/lang/IllegalArgumentException" "no such damping" ["java/lang/RuntimeException", "java/lang/Exception"] dX6_checkDamping_10 dX6_checkDamping_13 dX6_checkDamping_14 dX6_checkDamping_16 dX6_checkDamping_19 (by decide +kernel) (by decide +kernel) tw_228 tw_8 tw_269 thx_RX6_67 thy_RX6_67 thz_RX6_63_67 rfl (by simp; omega) (by simp [Value.category]; omega) (by omega) (by omega) ⟨rfl, rfl, rfl⟩
set_option maxHeartbeats 4000000 in
theorem c_ckDist_ok {l : Launch} {D : va_G} {ba d : Nat} {ad : Adr} {w : Wd} (hl : l.stackTraces = false) (hd : 2 ≤ d) (x : Int32) (hx : ¬ inR x (nI 1) (nI 60) = 0) : CT l yX6_checkDistance (wsO yX6_checkDistance cX6_checkDistance 1 none) d 1 6 D ba [.int x] ad w (isR none ad w) noX := by
  refine CT_of RX6 rfl (by decide +kernel) hl (Nat.le_of_ble_eq_true rfl) ?_
  intro p e s m args below meth c C hr hnm
  refine V_lvE (lv' := [(0, .int x)]) rfl ?_
  refine V_iload_n C dX6_checkDistance_0 0 rfl ?_
  refine V_iconst (v := nI 1) C dX6_checkDistance_1 (by decide) ?_
  refine V_bipush (v := nI 60) C dX6_checkDistance_2 (by decide) ?_
  have hin4 := inR_le x (nI 1) (nI 60)
  refine V_callS C [.int x, .int (nI 1), .int (nI 60)] dX6_checkDistance_4 m_X6_isWithin k_X6_isWithin tw_225 rfl rfl (Nat.le_of_ble_eq_true rfl) ⟨by omega, by omega, by omega, by omega⟩ (c_isWithin hl (by omega) x (nI 1) (nI 60)) (kr_some ?_) kx_no
  refine V_ifn_ne (tgt := 20) C dX6_checkDistance_7 (by decide) (by omega) (fun hb1 => ?_) (fun hb1 => by exfalso; omega)
  exact V_vret C dX6_checkDistance_20 hr ⟨rfl, rfl, rfl⟩ (by omega) (by omega)
set_option maxHeartbeats 4000000 in
theorem c_ckDist_no {l : Launch} {D : va_G} {ba d : Nat} {ad : Adr} {w : Wd} (hl : l.stackTraces = false) (hd : 7 ≤ d) (x : Int32) (hx : inR x (nI 1) (nI 60) = 0) : CT l yX6_checkDistance (wsO yX6_checkDistance cX6_checkDistance 1 none) d 1 6 D ba [.int x] ad w noR (isX "java/lang/IllegalArgumentException" ad w) := by
  refine CT_of RX6 rfl (by decide +kernel) hl (Nat.le_of_ble_eq_true rfl) ?_
  intro p e s m args below meth c C hr hnm
  refine V_lvE (lv' := [(0, .int x)]) rfl ?_
  refine V_iload_n C dX6_checkDistance_0 0 rfl ?_
  refine V_iconst (v := nI 1) C dX6_checkDistance_1 (by decide) ?_
  refine V_bipush (v := nI 60) C dX6_checkDistance_2 (by decide) ?_
  have hin4 := inR_le x (nI 1) (nI 60)
  refine V_callS C [.int x, .int (nI 1), .int (nI 60)] dX6_checkDistance_4 m_X6_isWithin k_X6_isWithin tw_225 rfl rfl (Nat.le_of_ble_eq_true rfl) ⟨by omega, by omega, by omega, by omega⟩ (c_isWithin hl (by omega) x (nI 1) (nI 60)) (kr_some ?_) kx_no
  refine V_ifn_ne (tgt := 20) C dX6_checkDistance_7 (by decide) (by omega) (fun hb1 => by exfalso; omega) (fun hb1 => ?_)
  exact V_throw C "java/lang/IllegalArgumentException" "no such distance" ["java/lang/RuntimeException", "java/lang/Exception"] dX6_checkDistance_10 dX6_checkDistance_13 dX6_checkDistance_14 dX6_checkDistance_16 dX6_checkDistance_19 (by decide +kernel) (by decide +kernel) tw_228 tw_8 tw_375 thx_RX6_67 thy_RX6_67 thz_RX6_63_67 rfl (by simp; omega) (by simp [Value.category]; omega) (by omega) (by omega) ⟨rfl, rfl, rfl⟩
set_option maxHeartbeats 4000000 in
theorem c_ckLoud_ok {l : Launch} {D : va_G} {ba d : Nat} {ad : Adr} {w : Wd} (hl : l.stackTraces = false) (hd : 2 ≤ d) (x : Int32) (hx : ¬ inR x (nI 1) (nI 1000) = 0) : CT l yX6_checkLoudness (wsO yX6_checkLoudness cX6_checkLoudness 1 none) d 1 6 D ba [.int x] ad w (isR none ad w) noX := by
  refine CT_of RX6 rfl (by decide +kernel) hl (Nat.le_of_ble_eq_true rfl) ?_
  intro p e s m args below meth c C hr hnm
  refine V_lvE (lv' := [(0, .int x)]) rfl ?_
  refine V_iload_n C dX6_checkLoudness_0 0 rfl ?_
  refine V_iconst (v := nI 1) C dX6_checkLoudness_1 (by decide) ?_
  refine V_sipush (v := nI 1000) C dX6_checkLoudness_2 (by decide) ?_
  have hin5 := inR_le x (nI 1) (nI 1000)
  refine V_callS C [.int x, .int (nI 1), .int (nI 1000)] dX6_checkLoudness_5 m_X6_isWithin k_X6_isWithin tw_225 rfl rfl (Nat.le_of_ble_eq_true rfl) ⟨by omega, by omega, by omega, by omega⟩ (c_isWithin hl (by omega) x (nI 1) (nI 1000)) (kr_some ?_) kx_no
  refine V_ifn_ne (tgt := 21) C dX6_checkLoudness_8 (by decide) (by omega) (fun hb1 => ?_) (fun hb1 => by exfalso; omega)
  exact V_vret C dX6_checkLoudness_21 hr ⟨rfl, rfl, rfl⟩ (by omega) (by omega)
set_option maxHeartbeats 4000000 in
theorem c_ckLoud_no {l : Launch} {D : va_G} {ba d : Nat} {ad : Adr} {w : Wd} (hl : l.stackTraces = false) (hd : 7 ≤ d) (x : Int32) (hx : inR x (nI 1) (nI 1000) = 0) : CT l yX6_checkLoudness (wsO yX6_checkLoudness cX6_checkLoudness 1 none) d 1 6 D ba [.int x] ad w noR (isX "java/lang/IllegalArgumentException" ad w) := by
  refine CT_of RX6 rfl (by decide +kernel) hl (Nat.le_of_ble_eq_true rfl) ?_
  intro p e s m args below meth c C hr hnm
  refine V_lvE (lv' := [(0, .int x)]) rfl ?_
  refine V_iload_n C dX6_checkLoudness_0 0 rfl ?_
  refine V_iconst (v := nI 1) C dX6_checkLoudness_1 (by decide) ?_
  refine V_sipush (v := nI 1000) C dX6_checkLoudness_2 (by decide) ?_
  have hin5 := inR_le x (nI 1) (nI 1000)
  refine V_callS C [.int x, .int (nI 1), .int (nI 1000)] dX6_checkLoudness_5 m_X6_isWithin k_X6_isWithin tw_225 rfl rfl (Nat.le_of_ble_eq_true rfl) ⟨by omega, by omega, by omega, by omega⟩ (c_isWithin hl (by omega) x (nI 1) (nI 1000)) (kr_some ?_) kx_no
  refine V_ifn_ne (tgt := 21) C dX6_checkLoudness_8 (by decide) (by omega) (fun hb1 => by exfalso; omega) (fun hb1 => ?_)
  exact V_throw C "java/lang/IllegalArgumentException" "no such loudness" ["java/lang/RuntimeException", "java/lang/Exception"] dX6_checkLoudness_11 dX6_checkLoudness_14 dX6_checkLoudness_15 dX6_checkLoudness_17 dX6_checkLoudness_20 (by decide +kernel) (by decide +kernel) tw_228 tw_8 tw_557 thx_RX6_67 thy_RX6_67 thz_RX6_63_67 rfl (by simp; omega) (by simp [Value.category]; omega) (by omega) (by omega) ⟨rfl, rfl, rfl⟩
set_option maxHeartbeats 4000000 in
theorem c_ckCert_ok {l : Launch} {D : va_G} {ba d : Nat} {ad : Adr} {w : Wd} (hl : l.stackTraces = false) (hd : 2 ≤ d) {LH : Lab} {sa sc dm du dy : Nat} {ce : Int32} (hH : w LH = some (.inr (0, [.ref sa, .int (nI sc), .int (nI dm), .int (nI du), .int ce, .int (nI dy)]))) (hc : ¬ ce = -1) : CT l yX6_checkCertificate (wsO yX6_checkCertificate cX6_checkCertificate 1 none) d 1 6 D ba [.ref (ad LH)] ad w (isR none ad w) noX := by
  refine CT_of RX6 rfl (by decide +kernel) hl (Nat.le_of_ble_eq_true rfl) ?_
  intro p e s m args below meth c C hr hnm
  refine V_lvE (lv' := [(0, .ref (ad LH))]) rfl ?_
  have hs9 : (if ce = -1 then 0 else 1) ≤ 1 := by split <;> omega
  refine V_aload_n C dX6_checkCertificate_0 0 rfl ?_
  refine V_callVN (r := (RX0, TX0, 6)) C RX6 [] dX6_checkCertificate_1 m_X0_hasCertificate k_X0_hasCertificate tw_119 rfl rfl rfl hH rfl rfl (Nat.le_of_ble_eq_true rfl) ⟨by omega, by omega, by omega, by omega⟩ (c_hasCert hl (by omega) hH) (kr_some ?_) kx_no
  refine V_ifn_ne (tgt := 17) C dX6_checkCertificate_4 (by decide) (by omega) (fun hb1 => ?_) (fun hb1 => by exfalso; rw [if_neg hc] at hb1; omega)
  exact V_vret C dX6_checkCertificate_17 hr ⟨rfl, rfl, rfl⟩ (by omega) (by omega)
set_option maxHeartbeats 4000000 in
theorem c_ckCert_no {l : Launch} {D : va_G} {ba d : Nat} {ad : Adr} {w : Wd} (hl : l.stackTraces = false) (hd : 7 ≤ d) {LH : Lab} {sa sc dm du dy : Nat} {ce : Int32} (hH : w LH = some (.inr (0, [.ref sa, .int (nI sc), .int (nI dm), .int (nI du), .int ce, .int (nI dy)]))) (hc : ce = -1) : CT l yX6_checkCertificate (wsO yX6_checkCertificate cX6_checkCertificate 1 none) d 1 6 D ba [.ref (ad LH)] ad w noR (isX "java/lang/IllegalStateException" ad w) := by
  refine CT_of RX6 rfl (by decide +kernel) hl (Nat.le_of_ble_eq_true rfl) ?_
  intro p e s m args below meth c C hr hnm
  refine V_lvE (lv' := [(0, .ref (ad LH))]) rfl ?_
  have hs9 : (if ce = -1 then 0 else 1) ≤ 1 := by split <;> omega
  refine V_aload_n C dX6_checkCertificate_0 0 rfl ?_
  refine V_callVN (r := (RX0, TX0, 6)) C RX6 [] dX6_checkCertificate_1 m_X0_hasCertificate k_X0_hasCertificate tw_119 rfl rfl rfl hH rfl rfl (Nat.le_of_ble_eq_true rfl) ⟨by omega, by omega, by omega, by omega⟩ (c_hasCert hl (by omega) hH) (kr_some ?_) kx_no
  refine V_ifn_ne (tgt := 17) C dX6_checkCertificate_4 (by decide) (by omega) (fun hb1 => by exfalso; rw [if_pos hc] at hb1; omega) (fun hb1 => ?_)
  exact V_throw C "java/lang/IllegalStateException" "the hall has no certificate" ["java/lang/RuntimeException", "java/lang/Exception"] dX6_checkCertificate_7 dX6_checkCertificate_10 dX6_checkCertificate_11 dX6_checkCertificate_13 dX6_checkCertificate_16 (by decide +kernel) (by decide +kernel) tw_296 tw_9 tw_487 thx_RX6_47 thy_RX6_47 thz_RX6_43_47 rfl (by simp; omega) (by simp [Value.category]; omega) (by omega) (by omega) ⟨rfl, rfl, rfl⟩
end
