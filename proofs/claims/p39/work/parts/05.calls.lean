section EC
variable {p : Program} {l : Launch} {e : Env} {s : State} {m : MethodId} {args : Array Value} {below : List Frame} {meth : Method} {c : Code} {D : va_G} {ba : Nat} {d mc ms : Nat} {Q : State → Prop} {nL : Nat} {ad : Adr} {w : Wd} {pc : Nat} {lv : List (Nat × Value)} {rest : List Value} {cells slots : Nat}
variable {own : String} {cc : ByteArray} {tb : List ExceptionTableEntry}
variable {QR : Option Value → Adr → Wd → Prop} {QX : String → Adr → Wd → Prop}
abbrev wsO (y : MethodName) (cy : ByteArray) (n : Nat) (ry : Option FieldType) : List Cond := Cond.code y cy n ry :: eg_T
abbrev wsH (y : MethodName) (cy : ByteArray) (n : Nat) (ry : Option FieldType) (hh : List (Nat × Nat × Nat × Nat)) : List Cond := Cond.codeWith y cy n ry hh :: eg_T
theorem eg_gi {ws : List Cond} (h : ∀ w ∈ ws, w ∈ eg_T) : GoodIn eg_T ws := fun w hw => ⟨h w hw, (eg_TT w (h w hw)).2⟩
theorem eg_c1 {w : Cond} (h : w ∈ eg_T) {ws : List Cond} (hs : ∀ w ∈ ws, w ∈ eg_T) : ∀ w' ∈ w :: ws, w' ∈ eg_T := fun w' h' => (List.mem_cons.mp h').elim (fun z => by rw [z]; exact h) (hs w')
theorem eg_c0 : ∀ w' ∈ eg_T, w' ∈ eg_T := fun _ h => h
/-- what the tables say of a method that is called: by a static, an instance, a constructor's call -/
def eg_M (y : MethodName) (cy : ByteArray) (n : Nat) (ry : Option FieldType) (k : Nat) : Prop := Cond.code y cy n ry ∈ eg_T ∧ Cond.initialized y.cls ∈ eg_T ∧ y.cls ≠ "java/lang/invoke/MethodHandle" ∧ y.cls ≠ "java/lang/invoke/VarHandle" ∧ (parseMethodDescriptor y.desc).map (fun d => d.parameters.length) = some k
def eg_MH (y : MethodName) (cy : ByteArray) (n : Nat) (ry : Option FieldType) (hh : List (Nat × Nat × Nat × Nat)) (k : Nat) : Prop := Cond.codeWith y cy n ry hh ∈ eg_T ∧ Cond.initialized y.cls ∈ eg_T ∧ y.cls ≠ "java/lang/invoke/MethodHandle" ∧ y.cls ≠ "java/lang/invoke/VarHandle" ∧ (parseMethodDescriptor y.desc).map (fun d => d.parameters.length) = some k
theorem eg_pre (C : Cx p l s m args meth c D ba own cc nL tb d) {H : Heap} {locs : List Loc} (hM : Mem D ba s ad w H) (hS : va_S (fun q => ba ≤ q) s.heap H locs) (as : List Value) : ∀ U : State, U.heap = H → s.WarmedH U.vm → mPc D ba as ad w as.toArray U := fun U hU hW =>
  ⟨rfl, NF.moved hW (fun q h1 h2 => by rw [hU]; exact hS.2.1 q h1 h2) C.2.2.2.2.2.1, by rw [hU]; exact Nat.le_trans C.2.2.2.2.2.2.1 hS.1, by rw [hU]; exact hM.moved hW.alike⟩
theorem eg_recv (C : Cx p l s m args meth c D ba own cc nL tb d) {H : Heap} (hM : Mem D ba s ad w H) {L : Lab} {ci : Nat} {fs : List Value} {r : vw_C} (hc : vwCl[ci]? = some r) (hw : w L = some (.inr (ci, fs))) : ∃ cell : Cell, H[ad L]? = some cell ∧ cell.vm.isStatics = false ∧ s.vm.findClass r.1 = some cell.cls := by
  have h1 : va_at D vwCl (ad L, .inr (ci, fs)) H := (hM.1 _ _ hw).1
  exact va_recv (tys := []) C.2.2.2.2.2.1.1 (eg_one h1) hc (q0 := 0) rfl
/-- what a call's run gives behind it -/
theorem V_run {st0 : List Value} {a : Array Value} {mc' ms' : Nat} (C : Cx p l s m args meth c D ba own cc nL tb d)
    (hr : ∀ (H : Heap) (locs : List Loc) (ls : Array Slot), Mem D ba s ad w H → va_S (fun q => ba ≤ q) s.heap H locs → lv_has ls nL lv → vx_Run p l e (rmO d mc ms) s m args below meth c H locs cells slots mc' ms' (F0 m pc ls st0) rest (mQc D ba QR a) (mXC D ba QX) (fun q => ba ≤ q))
    (kr : ∀ (v : Option Value) (ad' : Adr) (w' : Wd), QR v ad' w' → V p l e s m args below meth c D ba d mc ms Q nL ad' w' (pc + 3) lv (v.toList ++ rest) (cells + mc') (slots + ms'))
    (kx : ∀ (E : String) (ad' : Adr) (w' : Wd), QX E ad' w' → VX p l e s m args below meth c D ba d mc ms Q nL E ad' w' pc lv rest (cells + mc') (slots + ms')) : V p l e s m args below meth c D ba d mc ms Q nL ad w pc lv st0 cells slots := by
  intro H locs ls hM hS hl T hT X
  rcases hr H locs ls hM hS hl T hT X with ⟨v, st₀, t, T', L, h0, X', hL, e1, e2, ⟨v', ad', w', hv, hq, hM', hF⟩, st⟩ | ⟨q, st₀, t, T', L, E, ce, h0, X', hL, e1, e2, ⟨ad', w', hq, hM', hF⟩, hce, hcv, hcl, st⟩
  · cases hv
    obtain ⟨-, -, k3⟩ := vx_keep h0 e1 hS (A1 := fun q => ba ≤ q) (fun _ _ z => z) (fun _ z => z) hL hF
    have hal : t.vm.Alike s.vm := by rw [← e2]; exact X'.warmed.alike.symm
    obtain ⟨t2, a1, b1⟩ := kr v ad' w' hq T'.heap (locs ++ L) ls (by rw [e1]; exact hM'.moved hal) k3 hl T' rfl X'
    exact ⟨t2, st t2 a1, b1⟩
  · obtain ⟨-, -, k3⟩ := vx_keep h0 e1 hS (A1 := fun q => ba ≤ q) (fun _ _ z => z) (fun _ z => z) hL hF
    have hal : t.vm.Alike s.vm := by rw [← e2]; exact X'.warmed.alike.symm
    obtain ⟨t2, a1, b1⟩ := kx E ad' w' hq T'.heap (locs ++ L) ls q ce (by rw [e1]; exact hM'.moved hal) k3 hl (by rw [e1]; exact hce) hcv hcl T' rfl X'
    exact ⟨t2, st.trans a1, b1⟩
/-- .. of one through an interface -/
theorem V_run5 {st0 : List Value} {a : Array Value} {mc' ms' : Nat} (C : Cx p l s m args meth c D ba own cc nL tb d)
    (hr : ∀ (H : Heap) (locs : List Loc) (ls : Array Slot), Mem D ba s ad w H → va_S (fun q => ba ≤ q) s.heap H locs → lv_has ls nL lv → vx_Run5 p l e (rmO d mc ms) s m args below meth c H locs cells slots mc' ms' (F0 m pc ls st0) rest (mQc D ba QR a) (mXC D ba QX) (fun q => ba ≤ q))
    (kr : ∀ (v : Option Value) (ad' : Adr) (w' : Wd), QR v ad' w' → V p l e s m args below meth c D ba d mc ms Q nL ad' w' (pc + 5) lv (v.toList ++ rest) (cells + mc') (slots + ms'))
    (kx : ∀ (E : String) (ad' : Adr) (w' : Wd), QX E ad' w' → VX p l e s m args below meth c D ba d mc ms Q nL E ad' w' pc lv rest (cells + mc') (slots + ms')) : V p l e s m args below meth c D ba d mc ms Q nL ad w pc lv st0 cells slots := by
  intro H locs ls hM hS hl T hT X
  rcases hr H locs ls hM hS hl T hT X with ⟨v, st₀, t, T', L, h0, X', hL, e1, e2, ⟨v', ad', w', hv, hq, hM', hF⟩, st⟩ | ⟨q, st₀, t, T', L, E, ce, h0, X', hL, e1, e2, ⟨ad', w', hq, hM', hF⟩, hce, hcv, hcl, st⟩
  · cases hv
    obtain ⟨-, -, k3⟩ := vx_keep h0 e1 hS (A1 := fun q => ba ≤ q) (fun _ _ z => z) (fun _ z => z) hL hF
    have hal : t.vm.Alike s.vm := by rw [← e2]; exact X'.warmed.alike.symm
    obtain ⟨t2, a1, b1⟩ := kr v ad' w' hq T'.heap (locs ++ L) ls (by rw [e1]; exact hM'.moved hal) k3 hl T' rfl X'
    exact ⟨t2, st t2 a1, b1⟩
  · obtain ⟨-, -, k3⟩ := vx_keep h0 e1 hS (A1 := fun q => ba ≤ q) (fun _ _ z => z) (fun _ z => z) hL hF
    have hal : t.vm.Alike s.vm := by rw [← e2]; exact X'.warmed.alike.symm
    obtain ⟨t2, a1, b1⟩ := kx E ad' w' hq T'.heap (locs ++ L) ls q ce (by rw [e1]; exact hM'.moved hal) k3 hl (by rw [e1]; exact hce) hcv hcl T' rfl X'
    exact ⟨t2, st.trans a1, b1⟩
/-- a call's room: the callee's depth, its locals -/
def eg_rm (d d' n mc ms cells slots mc' ms' : Nat) : Prop := d' + 1 ≤ d ∧ 8 + (n + 11) + (39 * d' + 2) ≤ 39 * d + 2 ∧ cells + mc' ≤ mc ∧ slots + ms' ≤ ms
theorem V_callV (C : Cx p l s m args meth c D ba own cc nL tb d) {i n k d' mc' ms' : Nat} {y : MethodName} {cy : ByteArray} {ry : Option FieldType} {b : Nat} {L : Lab} {ci : Nat} {fs : List Value} {r : vw_C} {st : List Value} (As : List Value) (h : decode cc pc = .ok (.invokevirtual i, 3)) (hy : eg_M y cy n ry k) (hy2 : Cond.instanceMethod y ∈ eg_T ∧ Cond.selects y.cls y y ∈ eg_T) (hlink : Cond.methodLink own i y ∈ eg_T) (hb : b = ad L) (hc : vwCl[ci]? = some r) (hrc : r.1 = y.cls) (hw : w L = some (.inr (ci, fs))) (hk : As.length = k) (hst : st = As.reverse ++ .ref b :: rest) (hW : (rest.map fun v => v.category).sum ≤ 8) (hrm : eg_rm d d' n mc ms cells slots mc' ms')
    (hM : CT l y (wsO y cy n ry) d' mc' ms' D ba (.ref b :: As) ad w QR QX)
    (kr : ∀ (v : Option Value) (ad' : Adr) (w' : Wd), QR v ad' w' → V p l e s m args below meth c D ba d mc ms Q nL ad' w' (pc + 3) lv (v.toList ++ rest) (cells + mc') (slots + ms'))
    (kx : ∀ (E : String) (ad' : Adr) (w' : Wd), QX E ad' w' → VX p l e s m args below meth c D ba d mc ms Q nL E ad' w' pc lv rest (cells + mc') (slots + ms')) : V p l e s m args below meth c D ba d mc ms Q nL ad w pc lv st cells slots := by
  subst hst
  subst hb
  refine V_run (a := (Value.ref (ad L) :: As).toArray) C (fun H locs ls hMm hS hl => ?_) kr kx
  have hts := C.2.2.2.2.1
  have hrv := eg_recv C hMm hc hw
  rw [hrc] at hrv
  refine vx_runV (Ts := eg_T) (C := y.cls) (bytes := cy) (maxL := n) (ret := ry) (ws := wsO y cy n ry) (rm := rmO d' mc' ms') (n := k) ⟨C.1, C.2.1, C.2.2.1, C.2.2.2.1, hts⟩ hM ?_ ⟨mPc_blind, hrv, eg_pre C hMm hS _⟩ rfl hk hl.1 rfl (lv_room hW) h ⟨hrm.2.2.1, hrm.2.2.2⟩
  exact cwV k hts (eg_gi (eg_c1 hlink (eg_c1 hy2.1 (eg_c1 hy2.2 (eg_c1 hy.2.1 (eg_c1 hy.1 eg_c0)))))) rfl rfl rfl ⟨rfl, hy.2.2.1, hy.2.2.2.1, hy.2.2.2.2⟩ ⟨hrm.1, hrm.2.1⟩
/-- a private method of a nest mate -/
theorem V_callVN (C : Cx p l s m args meth c D ba own cc nL tb d) {i n k d' mc' ms' : Nat} {y : MethodName} {cy : ByteArray} {ry : Option FieldType} {b : Nat} {L : Lab} {ci : Nat} {fs : List Value} {r : vw_C} {st : List Value} (host : String) (As : List Value) (h : decode cc pc = .ok (.invokevirtual i, 3)) (hy : eg_M y cy n ry k) (hy2 : Cond.instanceMethod y ∈ eg_T ∧ Cond.selects y.cls y y ∈ eg_T) (hlink : Cond.methodLinkNest own i y host ∈ lw_tbl) (hb : b = ad L) (hc : vwCl[ci]? = some r) (hrc : r.1 = y.cls) (hw : w L = some (.inr (ci, fs))) (hk : As.length = k) (hst : st = As.reverse ++ .ref b :: rest) (hW : (rest.map fun v => v.category).sum ≤ 8) (hrm : eg_rm d d' n mc ms cells slots mc' ms')
    (hM : CT l y (wsO y cy n ry) d' mc' ms' D ba (.ref b :: As) ad w QR QX)
    (kr : ∀ (v : Option Value) (ad' : Adr) (w' : Wd), QR v ad' w' → V p l e s m args below meth c D ba d mc ms Q nL ad' w' (pc + 3) lv (v.toList ++ rest) (cells + mc') (slots + ms'))
    (kx : ∀ (E : String) (ad' : Adr) (w' : Wd), QX E ad' w' → VX p l e s m args below meth c D ba d mc ms Q nL E ad' w' pc lv rest (cells + mc') (slots + ms')) : V p l e s m args below meth c D ba d mc ms Q nL ad w pc lv st cells slots := by
  subst hst
  subst hb
  refine V_run (a := (Value.ref (ad L) :: As).toArray) C (fun H locs ls hMm hS hl => ?_) kr kx
  have hts := C.2.2.2.2.1
  have hrv := eg_recv C hMm hc hw
  rw [hrc] at hrv
  refine vx_runVN (Ts := eg_T) (C := y.cls) (host := host) (bytes := cy) (maxL := n) (ret := ry) (ws := wsO y cy n ry) (rm := rmO d' mc' ms') (n := k) ⟨C.1, C.2.1, C.2.2.1, C.2.2.2.1, hts⟩ hM ?_ ⟨mPc_blind, hrv, eg_pre C hMm hS _⟩ rfl hk hl.1 rfl (lv_room hW) h ⟨hrm.2.2.1, hrm.2.2.2⟩
  exact ⟨va_cnB k hts (eg_gi (eg_c1 hy.1 eg_c0)) rfl rfl rfl (C.2.2.2.2.2.1.2.1 _ hlink rfl) (hts _ hy.2.1) ⟨hy.2.2.1, hy.2.2.2.1, hy.2.2.2.2⟩ ⟨hrm.1, hrm.2.1⟩, hts _ hy2.1, hts _ hy2.2⟩
theorem V_callS (C : Cx p l s m args meth c D ba own cc nL tb d) {i n k d' mc' ms' : Nat} {y : MethodName} {cy : ByteArray} {ry : Option FieldType} {st : List Value} (As : List Value) (h : decode cc pc = .ok (.invokestatic i, 3)) (hy : eg_M y cy n ry k) (hy2 : Cond.static y ∈ eg_T) (hlink : Cond.methodLink own i y ∈ eg_T) (hk : As.length = k) (hst : st = As.reverse ++ rest) (hW : (rest.map fun v => v.category).sum ≤ 8) (hrm : eg_rm d d' n mc ms cells slots mc' ms')
    (hM : CT l y (wsO y cy n ry) d' mc' ms' D ba As ad w QR QX)
    (kr : ∀ (v : Option Value) (ad' : Adr) (w' : Wd), QR v ad' w' → V p l e s m args below meth c D ba d mc ms Q nL ad' w' (pc + 3) lv (v.toList ++ rest) (cells + mc') (slots + ms'))
    (kx : ∀ (E : String) (ad' : Adr) (w' : Wd), QX E ad' w' → VX p l e s m args below meth c D ba d mc ms Q nL E ad' w' pc lv rest (cells + mc') (slots + ms')) : V p l e s m args below meth c D ba d mc ms Q nL ad w pc lv st cells slots := by
  subst hst
  refine V_run (a := As.toArray) C (fun H locs ls hMm hS hl => ?_) kr kx
  have hts := C.2.2.2.2.1
  refine vx_runS (Ts := eg_T) (bytes := cy) (maxL := n) (ret := ry) (ws := wsO y cy n ry) (rm := rmO d' mc' ms') (n := k) ⟨C.1, C.2.1, C.2.2.1, C.2.2.2.1, hts⟩ hM ?_ ⟨mPc_blind, eg_pre C hMm hS _⟩ rfl hk hl.1 rfl (lv_room hW) h ⟨hrm.2.2.1, hrm.2.2.2⟩
  exact ⟨callB_of k hts (eg_gi (eg_c1 hy.1 eg_c0)) rfl rfl rfl (hts _ hy.2.1) (hts _ hlink) ⟨hy.2.2.1, hy.2.2.2.1, hy.2.2.2.2⟩ ⟨hrm.1, hrm.2.1⟩, hts _ hy2⟩
/-- a static method with a table of its own -/
theorem V_callSX (C : Cx p l s m args meth c D ba own cc nL tb d) {i n k d' mc' ms' : Nat} {y : MethodName} {cy : ByteArray} {ry : Option FieldType} {hh : List (Nat × Nat × Nat × Nat)} {st : List Value} (As : List Value) (h : decode cc pc = .ok (.invokestatic i, 3)) (hy : eg_MH y cy n ry hh k) (hy2 : Cond.static y ∈ eg_T) (hlink : Cond.methodLink own i y ∈ eg_T) (hk : As.length = k) (hst : st = As.reverse ++ rest) (hW : (rest.map fun v => v.category).sum ≤ 8) (hrm : eg_rm d d' n mc ms cells slots mc' ms')
    (hM : CT l y (wsH y cy n ry hh) d' mc' ms' D ba As ad w QR QX)
    (kr : ∀ (v : Option Value) (ad' : Adr) (w' : Wd), QR v ad' w' → V p l e s m args below meth c D ba d mc ms Q nL ad' w' (pc + 3) lv (v.toList ++ rest) (cells + mc') (slots + ms'))
    (kx : ∀ (E : String) (ad' : Adr) (w' : Wd), QX E ad' w' → VX p l e s m args below meth c D ba d mc ms Q nL E ad' w' pc lv rest (cells + mc') (slots + ms')) : V p l e s m args below meth c D ba d mc ms Q nL ad w pc lv st cells slots := by
  subst hst
  refine V_run (a := As.toArray) C (fun H locs ls hMm hS hl => ?_) kr kx
  have hts := C.2.2.2.2.1
  refine vx_runSX (Ts := eg_T) (hh := hh) (bytes := cy) (maxL := n) (ret := ry) (ws := wsH y cy n ry hh) (rm := rmO d' mc' ms') (n := k) ⟨C.1, C.2.1, C.2.2.1, C.2.2.2.1, hts⟩ hM ?_ ⟨mPc_blind, eg_pre C hMm hS _⟩ rfl hk hl.1 rfl (lv_room hW) h ⟨hrm.2.2.1, hrm.2.2.2⟩
  exact vx_cwSW k hts (eg_gi (eg_c1 hlink (eg_c1 hy2 (eg_c1 hy.2.1 (eg_c1 hy.1 eg_c0))))) rfl rfl rfl ⟨hy.2.2.1, hy.2.2.2.1, hy.2.2.2.2⟩ ⟨hrm.1, hrm.2.1⟩
theorem V_callI (C : Cx p l s m args meth c D ba own cc nL tb d) {i n k d' mc' ms' : Nat} {y : MethodName} {cy : ByteArray} {b : Nat} {st : List Value} (As : List Value) (h : decode cc pc = .ok (.invokespecial i, 3)) (hy : eg_M y cy n none k) (hy2 : Cond.instanceMethod y ∈ eg_T ∧ y.name = "<init>") (hlink : Cond.methodLink own i y ∈ eg_T) (hk : As.length = k) (hst : st = As.reverse ++ .ref b :: rest) (hW : (rest.map fun v => v.category).sum ≤ 8) (hrm : eg_rm d d' n mc ms cells slots mc' ms')
    (hM : CT l y (wsO y cy n none) d' mc' ms' D ba (.ref b :: As) ad w QR QX)
    (kr : ∀ (v : Option Value) (ad' : Adr) (w' : Wd), QR v ad' w' → V p l e s m args below meth c D ba d mc ms Q nL ad' w' (pc + 3) lv (v.toList ++ rest) (cells + mc') (slots + ms'))
    (kx : ∀ (E : String) (ad' : Adr) (w' : Wd), QX E ad' w' → VX p l e s m args below meth c D ba d mc ms Q nL E ad' w' pc lv rest (cells + mc') (slots + ms')) : V p l e s m args below meth c D ba d mc ms Q nL ad w pc lv st cells slots := by
  subst hst
  refine V_run (a := (Value.ref b :: As).toArray) C (fun H locs ls hMm hS hl => ?_) kr kx
  have hts := C.2.2.2.2.1
  refine vx_runI (Ts := eg_T) (bytes := cy) (maxL := n) (ws := wsO y cy n none) (rm := rmO d' mc' ms') (n := k) ⟨C.1, C.2.1, C.2.2.1, C.2.2.2.1, hts⟩ hM ?_ ⟨mPc_blind, eg_pre C hMm hS _⟩ rfl hk hl.1 rfl (lv_room hW) h ⟨hrm.2.2.1, hrm.2.2.2⟩
  exact cwI k hts (eg_gi (eg_c1 hy.1 eg_c0)) rfl rfl rfl (hts _ hy.2.1) (hts _ hlink) (hts _ hy2.1) hy2.2 ⟨hy.2.2.1, hy.2.2.2.1, hy.2.2.2.2⟩ ⟨hrm.1, hrm.2.1⟩
/-- a private constructor of a nest mate -/
theorem V_callIN (C : Cx p l s m args meth c D ba own cc nL tb d) {i n k d' mc' ms' : Nat} {y : MethodName} {cy : ByteArray} {b : Nat} {st : List Value} (host : String) (As : List Value) (h : decode cc pc = .ok (.invokespecial i, 3)) (hy : eg_M y cy n none k) (hy2 : Cond.instanceMethod y ∈ eg_T ∧ y.name = "<init>") (hlink : Cond.methodLinkNest own i y host ∈ lw_tbl) (hk : As.length = k) (hst : st = As.reverse ++ .ref b :: rest) (hW : (rest.map fun v => v.category).sum ≤ 8) (hrm : eg_rm d d' n mc ms cells slots mc' ms')
    (hM : CT l y (wsO y cy n none) d' mc' ms' D ba (.ref b :: As) ad w QR QX)
    (kr : ∀ (v : Option Value) (ad' : Adr) (w' : Wd), QR v ad' w' → V p l e s m args below meth c D ba d mc ms Q nL ad' w' (pc + 3) lv (v.toList ++ rest) (cells + mc') (slots + ms'))
    (kx : ∀ (E : String) (ad' : Adr) (w' : Wd), QX E ad' w' → VX p l e s m args below meth c D ba d mc ms Q nL E ad' w' pc lv rest (cells + mc') (slots + ms')) : V p l e s m args below meth c D ba d mc ms Q nL ad w pc lv st cells slots := by
  subst hst
  refine V_run (a := (Value.ref b :: As).toArray) C (fun H locs ls hMm hS hl => ?_) kr kx
  have hts := C.2.2.2.2.1
  refine vx_runIN (Ts := eg_T) (host := host) (bytes := cy) (maxL := n) (ws := wsO y cy n none) (rm := rmO d' mc' ms') (n := k) ⟨C.1, C.2.1, C.2.2.1, C.2.2.2.1, hts⟩ hM ?_ ⟨mPc_blind, eg_pre C hMm hS _⟩ rfl hk hl.1 rfl (lv_room hW) h ⟨hrm.2.2.1, hrm.2.2.2⟩
  exact ⟨va_cnB k hts (eg_gi (eg_c1 hy.1 eg_c0)) rfl rfl rfl (C.2.2.2.2.2.1.2.1 _ hlink rfl) (hts _ hy.2.1) ⟨hy.2.2.1, hy.2.2.2.1, hy.2.2.2.2⟩ ⟨hrm.1, hrm.2.1⟩, hy2.2, hts _ hy2.1⟩
/-- through an interface, the receiver's kind known -/
theorem V_callF (C : Cx p l s m args meth c D ba own cc nL tb d) {i n k d' mc' ms' cnt : Nat} {x y : MethodName} {cy : ByteArray} {ry : Option FieldType} {b : Nat} {L : Lab} {ci : Nat} {fs : List Value} {r : vw_C} {st : List Value} (As : List Value) (h : decode cc pc = .ok (.invokeinterface i cnt, 5)) (hy : eg_M y cy n ry k) (hy2 : Cond.instanceMethod y ∈ eg_T ∧ Cond.selects y.cls x y ∈ eg_T) (hlink : Cond.methodLink own i x ∈ eg_T) (hx : x.cls ≠ "java/lang/invoke/MethodHandle" ∧ x.cls ≠ "java/lang/invoke/VarHandle" ∧ (parseMethodDescriptor x.desc).map (fun d => d.parameters.length) = some k) (hf : (y.cls, x, y) ∈ eg_faces) (hb : b = ad L) (hc : vwCl[ci]? = some r) (hrc : r.1 = y.cls) (hw : w L = some (.inr (ci, fs))) (hk : As.length = k) (hst : st = As.reverse ++ .ref b :: rest) (hW : (rest.map fun v => v.category).sum ≤ 8) (hrm : eg_rm d d' n mc ms cells slots mc' ms')
    (hM : CT l y (wsO y cy n ry) d' mc' ms' D ba (.ref b :: As) ad w QR QX)
    (kr : ∀ (v : Option Value) (ad' : Adr) (w' : Wd), QR v ad' w' → V p l e s m args below meth c D ba d mc ms Q nL ad' w' (pc + 5) lv (v.toList ++ rest) (cells + mc') (slots + ms'))
    (kx : ∀ (E : String) (ad' : Adr) (w' : Wd), QX E ad' w' → VX p l e s m args below meth c D ba d mc ms Q nL E ad' w' pc lv rest (cells + mc') (slots + ms')) : V p l e s m args below meth c D ba d mc ms Q nL ad w pc lv st cells slots := by
  subst hst
  subst hb
  refine V_run5 (a := (Value.ref (ad L) :: As).toArray) C (fun H locs ls hMm hS hl => ?_) kr kx
  have hts := C.2.2.2.2.1
  have hrv := eg_recv C hMm hc hw
  have hat := (C.2.2.2.2.2.1.1.1 ci r hc).2
  rw [hrc] at hrv hat
  refine vx_runF (Ts := eg_T) (C := y.cls) (x := x) (bytes := cy) (maxL := n) (ret := ry) (ws := wsO y cy n ry) (rm := rmO d' mc' ms') (n := k) hat ⟨C.1, C.2.1, C.2.2.1, C.2.2.2.1, hts⟩ hM ?_ ⟨mPc_blind, hrv, eg_pre C hMm hS _⟩ rfl hk hl.1 rfl (lv_room hW) h ⟨hrm.2.2.1, hrm.2.2.2⟩
  exact va_cwF k hts (eg_gi (eg_c1 hlink (eg_c1 hy2.2 (eg_c1 hy2.1 (eg_c1 hy.2.1 (eg_c1 hy.1 eg_c0)))))) rfl rfl rfl (C.2.2.2.2.2.1.2.2.2.1 _ hf) hx ⟨hrm.1, hrm.2.1⟩
/-! ends -/
theorem V_iret (C : Cx p l s m args meth c D ba own cc nL tb d) {v : Int32} (ty : FieldType) (h : decode cc pc = .ok (.ireturn, 1)) (hr : meth.sig.returnType = some ty) (hn : narrow ty (.int v) = .int v) (hq : QR (some (.int v)) ad w) (h1 : cells ≤ mc) (h2 : slots ≤ ms) : V p l e s m args below meth c D ba d mc ms (MO D ba QR QX below args s mc ms) nL ad w pc lv [.int v] cells slots := fun H locs ls hM hS hl =>
  W.widen h1 h2 (vx_ret (W.zret (hlocks := C.2.2.2.2.2.2.2.1) C.1 C.2.1 hr hn (fun t ht hW => ⟨_, ad, w, rfl, hq, by rw [ht]; exact hM.moved hW.alike, hS.F ht⟩) hS.2.2 h))
theorem V_lret (C : Cx p l s m args meth c D ba own cc nL tb d) {v : Int64} (h : decode cc pc = .ok (.lreturn, 1)) (hr : meth.sig.returnType = some .long) (hq : QR (some (.long v)) ad w) (h1 : cells ≤ mc) (h2 : slots ≤ ms) : V p l e s m args below meth c D ba d mc ms (MO D ba QR QX below args s mc ms) nL ad w pc lv [.long v] cells slots := fun H locs ls hM hS hl =>
  W.widen h1 h2 (vx_ret (W.lret (hlocks := C.2.2.2.2.2.2.2.1) C.1 C.2.1 hr (fun t ht hW => ⟨_, ad, w, rfl, hq, by rw [ht]; exact hM.moved hW.alike, hS.F ht⟩) hS.2.2 h))
theorem V_dret (C : Cx p l s m args meth c D ba own cc nL tb d) {v : UInt64} (h : decode cc pc = .ok (.dreturn, 1)) (hr : meth.sig.returnType = some .double) (hq : QR (some (.double v)) ad w) (h1 : cells ≤ mc) (h2 : slots ≤ ms) : V p l e s m args below meth c D ba d mc ms (MO D ba QR QX below args s mc ms) nL ad w pc lv [.double v] cells slots := fun H locs ls hM hS hl =>
  W.widen h1 h2 (vx_ret (W.dret (hlocks := C.2.2.2.2.2.2.2.1) C.1 C.2.1 hr (fun t ht hW => ⟨_, ad, w, rfl, hq, by rw [ht]; exact hM.moved hW.alike, hS.F ht⟩) hS.2.2 h))
theorem V_vret (C : Cx p l s m args meth c D ba own cc nL tb d) (h : decode cc pc = .ok (.return_, 1)) (hr : meth.sig.returnType = none) (hq : QR none ad w) (h1 : cells ≤ mc) (h2 : slots ≤ ms) : V p l e s m args below meth c D ba d mc ms (MO D ba QR QX below args s mc ms) nL ad w pc lv [] cells slots := fun H locs ls hM hS hl =>
  W.widen h1 h2 (vx_ret (W.vret (hlocks := C.2.2.2.2.2.2.2.1) C.1 C.2.1 hr (fun t ht hW => ⟨_, ad, w, rfl, hq, by rw [ht]; exact hM.moved hW.alike, hS.F ht⟩) hS.2.2 h))
theorem V_aret (C : Cx p l s m args meth c D ba own cc nL tb d) {a : Nat} (K : String) (h : decode cc pc = .ok (.areturn, 1)) (hr : meth.sig.returnType = some (.object K)) (hq : QR (some (.ref a)) ad w) (h1 : cells ≤ mc) (h2 : slots ≤ ms) : V p l e s m args below meth c D ba d mc ms (MO D ba QR QX below args s mc ms) nL ad w pc lv [.ref a] cells slots := fun H locs ls hM hS hl =>
  W.widen h1 h2 (vx_ret (W.aret (hlocks := C.2.2.2.2.2.2.2.1) C.1 C.2.1 hr (Or.inl ⟨K, rfl⟩) (Or.inr ⟨a, rfl⟩) (fun t ht hW => ⟨_, ad, w, rfl, hq, by rw [ht]; exact hM.moved hW.alike, hS.F ht⟩) hS.2.2 h))
/-! throws -/
theorem eg_atS {own : String} {ic : Nat} {K : String} {names : List String} (C : Cx p l s m args meth c D ba own cc nL tb d) (h1 : ∀ w ∈ vx_atS own ic K names, w ∈ lw_tbl) (h2 : ∀ w ∈ vx_atS own ic K names, (goodWord w || eg_nw w) = true) : ∀ w ∈ vx_atS own ic K names, w.before args s = true := by
  intro w hw
  have h3 := h2 w hw
  simp only [Bool.or_eq_true] at h3
  rcases h3 with h3 | h3
  · exact C.2.2.2.2.1 w (List.mem_filter.mpr ⟨h1 w hw, h3⟩)
  · exact va_Nw.use (eg_nw_tab h3) (C.2.2.2.2.2.1.2.1 w (h1 w hw) h3)
theorem V_throw (C : Cx p l s m args meth c D ba own cc nL tb d) {ik is ic : Nat} (K text : String) (names : List String) (d0 : decode cc pc = .ok (.new ik, 3)) (d3 : decode cc (pc + 3) = .ok (.dup, 1)) (d4 : decode cc (pc + 4) = .ok (.ldc is, 2)) (d6 : decode cc (pc + 6) = .ok (.invokespecial ic, 3)) (d9 : decode cc (pc + 9) = .ok (.athrow, 1))
    (hcls : Bundle.fit K = true) (hnames : ∀ n ∈ names, Bundle.fit n = true) (hk : Cond.classLink own ik K ∈ eg_T) (hini : Cond.initialized K ∈ eg_T) (hstr : Cond.stringRef own is text ∈ lw_tbl) (hat : ∀ w ∈ vx_atS own ic K names, w ∈ lw_tbl) (hat2 : ∀ w ∈ vx_atS own ic K names, (goodWord w || eg_nw w) = true) (hgood : ∀ w ∈ Cond.classLink own ik K :: Cond.initialized K :: vx_atS own ic K names, vx_ot w = true)
    (hout : tb.all (fun x => covers x (pc + 9) == false) = true) (hd : names.length + 3 < d) (hd2 : (rest.map fun v => v.category).sum + (13 * (names.length + 1) + 43) ≤ 39 * d + 2) (h1 : cells + 1 ≤ mc) (h2 : slots + 6 ≤ ms) (hq : QX K ad w) : V p l e s m args below meth c D ba d mc ms (MO D ba QR QX below args s mc ms) nL ad w pc lv rest cells slots := by
  intro H locs ls hM hS hl
  obtain ⟨sa, hsa⟩ := C.2.2.2.2.2.1.2.2.2.2.2.1 _ _ _ hstr
  have hts := C.2.2.2.2.1
  refine vx_throwS C.1 C.2.1 C.2.2.2.2.2.2.2.2.1 C.2.2.2.1 hcls hnames (hts _ hk) (hts _ hini) hsa (eg_atS C hat hat2) hgood C.2.2.2.2.2.1.2.2.2.2.1.1 C.2.2.2.2.2.1.2.2.2.2.1.2 hS (hl.1.trans C.2.2.1.symm) d0 d3 d4 d6 d9 ?_ hd hd2 h1 h2 C.2.2.2.2.2.2.2.1 ?_ hS.2.2 h1 h2
  · intro x hx
    rw [C.2.2.2.2.2.2.2.2.2] at hx
    exact beq_iff_eq.mp (List.all_eq_true.mp hout x hx)
  · intro t hvm hz hk2
    exact ⟨ad, w, hq, (hM.kept hk2).moved hvm, ⟨Nat.le_trans hS.1 hz, fun q g1 g2 => (hk2 q (Nat.lt_of_lt_of_le g1 hS.1)).trans (hS.2.1 q g1 g2)⟩⟩
/-- a callee's throw goes on -/
theorem VX_out (C : Cx p l s m args meth c D ba own cc nL tb d) {E : String} (hout : tb.all (fun x => covers x pc == false) = true) (hq : QX E ad w) (h1 : cells ≤ mc) (h2 : slots ≤ ms) : VX p l e s m args below meth c D ba d mc ms (MO D ba QR QX below args s mc ms) nL E ad w pc lv rest cells slots := by
  intro H locs ls q ce hM hS hl hce hcv hcl
  refine vx_out ?_ C.2.2.2.2.2.2.2.1 hce hcv hcl ?_ hS.2.2 h1 h2
  · intro x hx
    rw [C.2.2.2.2.2.2.2.2.2] at hx
    exact beq_iff_eq.mp (List.all_eq_true.mp hout x hx)
  · intro t ht hvm
    exact ⟨ad, w, hq, by rw [ht]; exact hM.moved hvm, hS.F ht⟩
/-- caught by the row x of the table -/
theorem VX_catch (C : Cx p l s m args meth c D ba own cc nL tb d) {E : String} (name : String) (pre : List ExceptionTableEntry) (x : ExceptionTableEntry) (suf : List ExceptionTableEntry) (hsplit : tb = pre ++ x :: suf)
    (hpass : ∀ z ∈ pre, covers z pc = false ∨ (z.catchType ≠ 0 ∧ ∃ nm : String, Cond.classLink own z.catchType nm ∈ eg_T ∧ (E, nm) ∈ eg_nc)) (hx : covers x pc = true) (h0 : x.catchType ≠ 0) (hlink : Cond.classLink own x.catchType name ∈ eg_T) (hcast : Cond.castable E name ∈ lw_tbl)
    (kk : ∀ a : Nat, V p l e s m args below meth c D ba d mc ms Q nL ad w x.handlerPc lv [.ref a] cells slots) : VX p l e s m args below meth c D ba d mc ms Q nL E ad w pc lv rest cells slots := by
  intro H locs ls q ce hM hS hl hce hcv hcl
  have hts := C.2.2.2.2.1
  refine vx_catch C.2.2.2.1 pre x suf (C.2.2.2.2.2.2.2.2.2.trans hsplit) ?_ hx h0 (hts _ hlink) (va_Nw.use rfl (C.2.2.2.2.2.1.2.1 _ hcast rfl)) hce hcv hcl (kk q H locs ls hM hS hl)
  intro z hz
  rcases hpass z hz with h | ⟨h, nm, h3, h4⟩
  · exact Or.inl h
  · exact Or.inr ⟨h, nm, hts _ h3, C.2.2.2.2.2.1.2.2.2.2.2.2.1 _ h4⟩
/-! methods of the JDK -/
theorem V_max (C : Cx p l s m args meth c D ba own cc nL tb d) {i : Nat} {x y : Int32} (h : decode cc pc = .ok (.invokestatic i, 3)) (hlink : Cond.methodLink own i Lib.Math.max.name ∈ eg_T) (h1 : Cond.static Lib.Math.max.name ∈ eg_T) (h2 : Cond.initialized "java/lang/Math" ∈ eg_T) (h3 : Cond.code Lib.Math.max.name Lib.Math.max.code 2 (some .int) ∈ eg_T) (hd : 1 ≤ d) (hd2 : (rest.map fun v => v.category).sum + 13 ≤ 39 * d + 2) (hc : cells ≤ mc) (hs : slots ≤ ms)
    (k : V p l e s m args below meth c D ba d mc ms Q nL ad w (pc + 3) lv (.int (if x < y then y else x) :: rest) cells slots) : V p l e s m args below meth c D ba d mc ms Q nL ad w pc lv (.int y :: .int x :: rest) cells slots := fun H locs ls hM hS hl =>
  va_mmax C.1 C.2.1 (C.2.2.1.trans hl.1.symm) C.2.2.2.1 (C.2.2.2.2.1 _ hlink) (C.2.2.2.2.1 _ h1) (C.2.2.2.2.1 _ h2) (C.2.2.2.2.1 _ h3) hd hd2 hc hs h (k H locs ls hM hS hl)
theorem V_min (C : Cx p l s m args meth c D ba own cc nL tb d) {i : Nat} {x y : Int32} (h : decode cc pc = .ok (.invokestatic i, 3)) (hlink : Cond.methodLink own i Lib.Math.min.name ∈ eg_T) (h1 : Cond.static Lib.Math.min.name ∈ eg_T) (h2 : Cond.initialized "java/lang/Math" ∈ eg_T) (h3 : Cond.code Lib.Math.min.name Lib.Math.min.code 2 (some .int) ∈ eg_T) (hd : 1 ≤ d) (hd2 : (rest.map fun v => v.category).sum + 13 ≤ 39 * d + 2) (hc : cells ≤ mc) (hs : slots ≤ ms)
    (k : V p l e s m args below meth c D ba d mc ms Q nL ad w (pc + 3) lv (.int (if y < x then y else x) :: rest) cells slots) : V p l e s m args below meth c D ba d mc ms Q nL ad w pc lv (.int y :: .int x :: rest) cells slots := fun H locs ls hM hS hl =>
  va_mmin C.1 C.2.1 (C.2.2.1.trans hl.1.symm) C.2.2.2.1 (C.2.2.2.2.1 _ hlink) (C.2.2.2.2.1 _ h1) (C.2.2.2.2.1 _ h2) (C.2.2.2.2.1 _ h3) hd hd2 hc hs h (k H locs ls hM hS hl)
theorem V_obj (C : Cx p l s m args meth c D ba own cc nL tb d) {i a : Nat} (h : decode cc pc = .ok (.invokespecial i, 3)) (hlink : Cond.methodLink own i Lib.objectInit ∈ eg_T) (h1 : Cond.instanceMethod Lib.objectInit ∈ eg_T) (h2 : Cond.code Lib.objectInit ⟨#[0xb1]⟩ 1 none ∈ eg_T) (hd : 1 ≤ d) (hd2 : (rest.map fun v => v.category).sum + 12 ≤ 39 * d + 2)
    (k : V p l e s m args below meth c D ba d mc ms Q nL ad w (pc + 3) lv rest cells slots) : V p l e s m args below meth c D ba d mc ms Q nL ad w pc lv (.ref a :: rest) cells slots := fun H locs ls hM hS hl =>
  W.objInit C.1 C.2.1 C.2.2.2.1 (C.2.2.2.2.1 _ hlink) (C.2.2.2.2.1 _ h1) (C.2.2.2.2.1 _ h2) rfl (hl.1.trans C.2.2.1.symm) rfl h hd (by show 2 * 0 + _ + 12 ≤ 39 * d + 2; omega) (k H locs ls hM hS hl)
/-! the law's own script -/
theorem V_sld (C : Cx p l s m args meth c D ba own cc nL tb d) {b L : Nat} {xs : Nat → Int32} (hX : va_X b L xs s s.heap) (hb : b < ba) {i : Int32} (hin : vp_in i L) (h : decode cc pc = .ok (.iaload, 1))
    (k : V p l e s m args below meth c D ba d mc ms Q nL ad w (pc + 1) lv (.int (xs i.toNatClampNeg) :: rest) cells slots) : V p l e s m args below meth c D ba d mc ms Q nL ad w pc lv (.int i :: .ref b :: rest) cells slots := fun H locs ls hM hS hl =>
  va_sld (A := fun q => ba ≤ q) C.1 C.2.1 hX (Nat.lt_of_lt_of_le hb C.2.2.2.2.2.2.1) (Nat.not_le.mpr hb) hS hin h (k H locs ls hM hS hl)
theorem V_slen (C : Cx p l s m args meth c D ba own cc nL tb d) {b L : Nat} {xs : Nat → Int32} (hX : va_X b L xs s s.heap) (hb : b < ba) (h : decode cc pc = .ok (.arraylength, 1))
    (k : V p l e s m args below meth c D ba d mc ms Q nL ad w (pc + 1) lv (.int (Int32.ofNat L) :: rest) cells slots) : V p l e s m args below meth c D ba d mc ms Q nL ad w pc lv (.ref b :: rest) cells slots := fun H locs ls hM hS hl =>
  va_slen (A := fun q => ba ≤ q) C.1 C.2.1 hX (Nat.lt_of_lt_of_le hb C.2.2.2.2.2.2.1) (Nat.not_le.mpr hb) hS h (k H locs ls hM hS hl)
/-! methods begin -/
theorem CT_of {y : MethodName} {cy : ByteArray} {n : Nat} {ry : Option FieldType} {as : List Value} (own : String) (hown : y.cls = own) (hy : plainName y.cls = true) (hl : l.stackTraces = false) (hn : (lg_sl as).length ≤ n)
    (body : ∀ (p : Program) (e : Env) (s : State) (m : MethodId) (args : Array Value) (below : List Frame) (meth : Method) (c : Code), Cx p l s m args meth c D ba own cy n [] d → meth.sig.returnType = ry → meth.name = y.name → V p l e s m args below meth c D ba d mc ms (MO D ba QR QX below args s mc ms) n ad w 0 (lv_args 0 as) [] 0 0) : CT l y (wsO y cy n ry) d mc ms D ba as ad w QR QX := by
  subst hown
  refine vx_ofW (cc := cy) (maxL := n) (ret := ry) hy rfl ?_
  intro p e s m args below meth c s₁ B hml ht hv
  obtain ⟨rfl, hNF, hba, hM⟩ := hv
  have hts := atoms_spec (ws := wsO y cy n ry) B.pre
  have hown : s.vm.findClass y.cls = some m.cls := findClass_of_methodNamed B.named
  have htb : c.exceptionTable.toList = [] := List.eq_nil_iff_forall_not_mem.mpr (fun x hx => ht x hx)
  have K := body p e s m as.toArray below meth c ⟨B.exec, B.bytes, hml, hown, fun w hw => hts w (List.mem_cons_of_mem _ hw), hNF, hba, B.notSynchronized, hl, htb⟩ B.returns (name_of_methodNamed B.named B.method).1
  rw [lg_entry_eq]
  exact K s.heap [] _ hM va_S.rf (lv_entry as hn)
theorem CT_ofH {y : MethodName} {cy : ByteArray} {n : Nat} {ry : Option FieldType} {hh : List (Nat × Nat × Nat × Nat)} {as : List Value} (own : String) (hown : y.cls = own) (hy : plainName y.cls = true) (hl : l.stackTraces = false) (hn : (lg_sl as).length ≤ n)
    (body : ∀ (p : Program) (e : Env) (s : State) (m : MethodId) (args : Array Value) (below : List Frame) (meth : Method) (c : Code), Cx p l s m args meth c D ba own cy n (tableOf hh) d → meth.sig.returnType = ry → meth.name = y.name → V p l e s m args below meth c D ba d mc ms (MO D ba QR QX below args s mc ms) n ad w 0 (lv_args 0 as) [] 0 0) : CT l y (wsH y cy n ry hh) d mc ms D ba as ad w QR QX := by
  subst hown
  refine vx_ofWH (cc := cy) (maxL := n) (ret := ry) (hh := hh) hy rfl ?_
  intro p e s m args below meth c s₁ B hml hv
  obtain ⟨rfl, hNF, hba, hM⟩ := hv
  have hts := atoms_spec (ws := wsH y cy n ry hh) B.pre
  have hown : s.vm.findClass y.cls = some m.cls := findClass_of_methodNamed B.named
  have htb := vx_table (x := y) B (hts _ List.mem_cons_self)
  have K := body p e s m as.toArray below meth c ⟨B.exec, B.bytes, hml, hown, fun w hw => hts w (List.mem_cons_of_mem _ hw), hNF, hba, B.notSynchronized, hl, htb⟩ B.returns (name_of_methodNamed B.named B.method).1
  rw [lg_entry_eq]
  exact K s.heap [] _ hM va_S.rf (lv_entry as hn)
end EC
