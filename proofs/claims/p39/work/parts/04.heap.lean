section EH
variable {p : Program} {l : Launch} {e : Env} {s : State} {m : MethodId} {args : Array Value} {below : List Frame} {meth : Method} {c : Code} {D : va_G} {ba : Nat} {d mc ms : Nat} {Q : State → Prop} {nL : Nat} {ad : Adr} {w : Wd} {pc : Nat} {lv : List (Nat × Value)} {rest : List Value} {cells slots : Nat}
variable {own : String} {cc : ByteArray} {tb : List ExceptionTableEntry}
theorem eg_one {D : va_G} {cl : List vw_C} {a : Nat} {x : va_E} {H : Heap} (h : va_at D cl (a, x) H) : va_P D cl [(a, x)] H := by
  intro k q hk
  match k, hk with
  | 0, hk => cases hk; exact h
theorem eg_K1 {cA : ClassId} {ty : FieldType} {U : State} (h : va_K D vwCl [] U) (h1 : ArrOfT U cA ty) (h2 : va_RA U cA ty) : va_K D vwCl [(cA, ty)] U :=
  ⟨h.1, fun k q hk => by
    match k, hk with
    | 0, hk => cases hk; exact ⟨h1, h2⟩⟩
/-- the field tables' words among all words -/
def eg_FW (C : String) (T : u_T) (N : Nat) : Prop := ∀ w ∈ u_ws C T N, w ∈ eg_T
theorem V_get (C : Cx p l s m args meth c D ba own cc nL tb d) {i ci k : Nat} {fs : List Value} {v : Value} {L : Lab} {a : Nat} (h : decode cc pc = .ok (.getfield i, 3)) (ref K : String) (T : u_T) (N : Nat) (hF : eg_FW K T N) (hc : vwCl[ci]? = some (K, T, N)) (hk : k < N) (hlink : Cond.fieldLink own i ref (T k).2.1 (T k).2.2.1 ∈ eg_T) (hsame : (T k).1 = ref) (ha : a = ad L) (hw : w L = some (.inr (ci, fs))) (hv : fs[k]? = some v)
    (kk : V p l e s m args below meth c D ba d mc ms Q nL ad w (pc + 3) lv (v :: rest) cells slots) : V p l e s m args below meth c D ba d mc ms Q nL ad w pc lv (.ref a :: rest) cells slots := by
  intro H locs ls hM hS hl
  subst ha
  have h1 : va_at D vwCl (ad L, .inr (ci, fs)) H := (hM.1 _ _ hw).1
  exact va_get (D := D) (cl := vwCl) (ci := ci) (C := K) (T := T) (N := N) (tys := []) C.1 C.2.1 C.2.2.2.2.1 hF C.2.2.2.1 C.2.2.2.2.2.1.1 (eg_one h1) 0 rfl hc k hk (C.2.2.2.2.1 _ hlink) (fun _ z => by rw [← hsame]; exact z) hv h (kk H locs ls hM hS hl)
theorem V_getN (C : Cx p l s m args meth c D ba own cc nL tb d) {i ci k : Nat} {fs : List Value} {v : Value} {L : Lab} {a : Nat} (h : decode cc pc = .ok (.getfield i, 3)) (ref K host : String) (T : u_T) (N : Nat) (hF : eg_FW K T N) (hc : vwCl[ci]? = some (K, T, N)) (hk : k < N) (hlink : Cond.fieldLinkNest own i ref (T k).2.1 (T k).2.2.1 host ∈ lw_tbl) (hsame : (T k).1 = ref) (ha : a = ad L) (hw : w L = some (.inr (ci, fs))) (hv : fs[k]? = some v)
    (kk : V p l e s m args below meth c D ba d mc ms Q nL ad w (pc + 3) lv (v :: rest) cells slots) : V p l e s m args below meth c D ba d mc ms Q nL ad w pc lv (.ref a :: rest) cells slots := by
  intro H locs ls hM hS hl
  subst ha
  have h1 : va_at D vwCl (ad L, .inr (ci, fs)) H := (hM.1 _ _ hw).1
  exact va_getN (D := D) (cl := vwCl) (ci := ci) (C := K) (T := T) (N := N) (tys := []) C.1 C.2.1 C.2.2.2.2.1 hF C.2.2.2.1 C.2.2.2.2.2.1.1 (eg_one h1) 0 rfl hc k hk (va_Nw.use rfl (C.2.2.2.2.2.1.2.1 _ hlink rfl)) (fun _ z => by rw [← hsame]; exact z) hv h (kk H locs ls hM hS hl)
theorem V_put (C : Cx p l s m args meth c D ba own cc nL tb d) {i ci k : Nat} {fs : List Value} {v : Value} {L : Lab} {a : Nat} (h : decode cc pc = .ok (.putfield i, 3)) (ref K : String) (T : u_T) (N : Nat) (ty0 : Nat → FieldType) (hty : ∀ k, k < N → parseFieldDescriptor (T k).2.2.1 = some (ty0 k)) (hnm : ∀ a, a < N → ∀ b, b < N → a ≠ b → (T a).2.1 ≠ (T b).2.1) (hF : eg_FW K T N) (hc : vwCl[ci]? = some (K, T, N)) (hk : k < N) (hlink : Cond.fieldLink own i ref (T k).2.1 (T k).2.2.1 ∈ eg_T) (hsame : (T k).1 = ref) (hfin : (T k).2.2.2 = false ∨ ((T k).2.2.2 = true ∧ meth.name = "<init>" ∧ (T k).1 = own)) (hn : narrow (ty0 k) v = v) (hfit : fits (ty0 k) v = true) (ha : a = ad L) (hw : w L = some (.inr (ci, fs))) (hl0 : k < fs.length)
    (kk : V p l e s m args below meth c D ba d mc ms Q nL ad (wset w L (.inr (ci, fs.set k v))) (pc + 3) lv rest cells slots) : V p l e s m args below meth c D ba d mc ms Q nL ad w pc lv (v :: .ref a :: rest) cells slots := by
  intro H locs ls hM hS hlv
  subst ha
  have hts := C.2.2.2.2.1
  have hK := C.2.2.2.2.2.1.1
  have hap := va_apart (own := own) hts hF ty0 hty hnm hK hc
  obtain ⟨r, h1, cell, q1, q2, q3, q4⟩ := (hM.1 _ _ hw).1
  have hr : r = (K, T, N) := Option.some.inj (h1.symm.trans hc)
  subst hr
  obtain ⟨hSl, hfc, kC, hkC, hkind⟩ := hK.1 ci _ hc
  obtain ⟨cf, kf, fi, f, hi, hsl⟩ := hSl k hk
  have hlay := hts _ (hF _ (u_in_lay hk))
  have hd := hty k hk
  have hi2 : s.fieldFound? ref (T k).2.1 (T k).2.2.1 = some (cf, kf, fi, f) := by rw [← hsame]; exact hi
  have fin : ∀ (H' : Heap), H'[ad L]? = some (cell.setSlot f.slot v) → H'.size = H.size → (∀ q, q ≠ ad L → H'[q]? = H[q]?) → W p l e (rmO d mc ms) s m args below meth c H' (locs ++ [⟨ad L, f.slot⟩]) cells slots Q (F0 m (pc + 3) ls rest) := by
    intro H' e1 e2 e3
    rw [hsl] at e1
    refine kk H' _ ls (hM.set hw ⟨_, hc, t_OB.to (V := updV (vp_V fs) k v) ⟨_, e1, q2, q3, t_set q4 hap hk v⟩ (fun j _ => vp_updV_set hl0 v j)⟩ e3) (hS.put e2 e3 (hM.1 _ _ hw).2) hlv
  rcases hfin with hfin | ⟨hfin, hin2, hdecl⟩
  · unfold u_lay at hlay
    rw [if_neg (by rw [hfin]; decide)] at hlay
    have hst := (u_facts hfc hkC (u_lays hts hF hk) hi).1
    have h6 := u_store hfc hkC hkind hlay hi hd hn hfit
    exact W.putK C.1 C.2.1 (f := f) ⟨C.2.2.2.1, hts _ hlink, ⟨_, _, _, hi2⟩, hst⟩ (by rw [q2]; exact h6) q1 q3 (by rw [hsl]; exact k2_hasslot (q4 k hk)) rfl rfl h fin
  · unfold u_lay at hlay
    rw [if_pos hfin] at hlay
    have hst := (u_facts hfc hkC (u_lays hts hF hk) hi).1
    have hcf : m.cls = cf := by
      obtain ⟨_, _, c', _, _, _, -, -, hf', -, -, -, hown2, -⟩ := Cond.laysFinal_spec hlay
      have e1 : c' = cf := by have := hi.symm.trans hf'; simp at this; exact this.1.symm
      rw [hdecl] at hown2
      rw [← e1]; exact Option.some.inj (C.2.2.2.1.symm.trans hown2)
    have h6 := u_fits hfc hkC hkind (Or.inr hlay) hi hd hn hfit
    exact W.putFinK C.1 C.2.1 C.2.2.2.1 (hts _ hlink) hi2 hst hcf hin2 (by rw [q2]; exact h6) q1 q3 (by rw [hsl]; exact k2_hasslot (q4 k hk)) rfl rfl h fin
theorem V_putN (C : Cx p l s m args meth c D ba own cc nL tb d) {i ci k : Nat} {fs : List Value} {v : Value} {L : Lab} {a : Nat} (h : decode cc pc = .ok (.putfield i, 3)) (ref K host : String) (T : u_T) (N : Nat) (ty0 : Nat → FieldType) (hty : ∀ k, k < N → parseFieldDescriptor (T k).2.2.1 = some (ty0 k)) (hnm : ∀ a, a < N → ∀ b, b < N → a ≠ b → (T a).2.1 ≠ (T b).2.1) (hF : eg_FW K T N) (hc : vwCl[ci]? = some (K, T, N)) (hk : k < N) (hlink : Cond.fieldLinkNest own i ref (T k).2.1 (T k).2.2.1 host ∈ lw_tbl) (hsame : (T k).1 = ref) (hfin : (T k).2.2.2 = false) (hn : narrow (ty0 k) v = v) (hfit : fits (ty0 k) v = true) (ha : a = ad L) (hw : w L = some (.inr (ci, fs))) (hl0 : k < fs.length)
    (kk : V p l e s m args below meth c D ba d mc ms Q nL ad (wset w L (.inr (ci, fs.set k v))) (pc + 3) lv rest cells slots) : V p l e s m args below meth c D ba d mc ms Q nL ad w pc lv (v :: .ref a :: rest) cells slots := by
  intro H locs ls hM hS hlv
  subst ha
  have hts := C.2.2.2.2.1
  have hK := C.2.2.2.2.2.1.1
  have hap := va_apart (own := own) hts hF ty0 hty hnm hK hc
  obtain ⟨r, h1, cell, q1, q2, q3, q4⟩ := (hM.1 _ _ hw).1
  have hr : r = (K, T, N) := Option.some.inj (h1.symm.trans hc)
  subst hr
  obtain ⟨hSl, hfc, kC, hkC, hkind⟩ := hK.1 ci _ hc
  obtain ⟨cf, kf, fi, f, hi, hsl⟩ := hSl k hk
  have hlay := hts _ (hF _ (u_in_lay hk))
  have hd := hty k hk
  have hi2 : s.fieldFound? ref (T k).2.1 (T k).2.2.1 = some (cf, kf, fi, f) := by rw [← hsame]; exact hi
  unfold u_lay at hlay
  rw [if_neg (by rw [hfin]; decide)] at hlay
  have hst := (u_facts hfc hkC (u_lays hts hF hk) hi).1
  have h6 := u_store hfc hkC hkind hlay hi hd hn hfit
  refine va_WputK C.1 C.2.1 (f := f) C.2.2.2.1 (va_Nw.use rfl (C.2.2.2.2.2.1.2.1 _ hlink rfl)) hi2 hst (by rw [q2]; exact h6) q1 q3 (by rw [hsl]; exact k2_hasslot (q4 k hk)) rfl rfl h ?_
  intro H' e1 e2 e3
  rw [hsl] at e1
  exact kk H' _ ls (hM.set hw ⟨_, hc, t_OB.to (V := updV (vp_V fs) k v) ⟨_, e1, q2, q3, t_set q4 hap hk v⟩ (fun j _ => vp_updV_set hl0 v j)⟩ e3) (hS.put e2 e3 (hM.1 _ _ hw).2) hlv
/-! arrays -/
abbrev eI (n : Nat) (f : Nat → Int32) : Ent := .inl (.int, n, .inl f)
abbrev eJ (n : Nat) (f : Nat → Int64) : Ent := .inl (.long, n, .inr (.inl f))
abbrev eQ (C : String) (n : Nat) (f : Nat → Option Nat) : Ent := .inl (.object C, n, .inr (.inr (.inr (.inr f))))
theorem V_iald (C : Cx p l s m args meth c D ba own cc nL tb d) {n : Nat} {f : Nat → Int32} {L : Lab} {a : Nat} {i : Int32} (h : decode cc pc = .ok (.iaload, 1)) (ha : a = ad L) (hw : w L = some (eI n f)) (hin : vp_in i n)
    (kk : V p l e s m args below meth c D ba d mc ms Q nL ad w (pc + 1) lv (.int (f i.toNatClampNeg) :: rest) cells slots) : V p l e s m args below meth c D ba d mc ms Q nL ad w pc lv (.int i :: .ref a :: rest) cells slots := by
  intro H locs ls hM hS hl
  subst ha
  obtain ⟨cA, ⟨h1, h2⟩, h3⟩ := (hM.1 _ _ hw).1
  exact va_iald (D := D) (cl := vwCl) C.1 C.2.1 (eg_K1 C.2.2.2.2.2.1.1 h1 h2) (eg_one (x := .inl (cA, n, .inl f)) h3) 0 0 rfl rfl hin h (kk H locs ls hM hS hl)
theorem V_lald (C : Cx p l s m args meth c D ba own cc nL tb d) {n : Nat} {f : Nat → Int64} {L : Lab} {a : Nat} {i : Int32} (h : decode cc pc = .ok (.laload, 1)) (ha : a = ad L) (hw : w L = some (eJ n f)) (hin : vp_in i n)
    (kk : V p l e s m args below meth c D ba d mc ms Q nL ad w (pc + 1) lv (.long (f i.toNatClampNeg) :: rest) cells slots) : V p l e s m args below meth c D ba d mc ms Q nL ad w pc lv (.int i :: .ref a :: rest) cells slots := by
  intro H locs ls hM hS hl
  subst ha
  obtain ⟨cA, ⟨h1, h2⟩, h3⟩ := (hM.1 _ _ hw).1
  exact va_lald (D := D) (cl := vwCl) C.1 C.2.1 (eg_K1 C.2.2.2.2.2.1.1 h1 h2) (eg_one (x := .inl (cA, n, .inr (.inl f))) h3) 0 0 rfl rfl hin h (kk H locs ls hM hS hl)
theorem V_aald (C : Cx p l s m args meth c D ba own cc nL tb d) {K : String} {n : Nat} {f : Nat → Option Nat} {L : Lab} {a : Nat} {i : Int32} {v : Value} (h : decode cc pc = .ok (.aaload, 1)) (ha : a = ad L) (hw : w L = some (eQ K n f)) (hin : vp_in i n) (hv : va_rf (f i.toNatClampNeg) = v)
    (kk : V p l e s m args below meth c D ba d mc ms Q nL ad w (pc + 1) lv (v :: rest) cells slots) : V p l e s m args below meth c D ba d mc ms Q nL ad w pc lv (.int i :: .ref a :: rest) cells slots := by
  intro H locs ls hM hS hl
  subst ha
  subst hv
  obtain ⟨cA, ⟨h1, h2⟩, h3⟩ := (hM.1 _ _ hw).1
  exact va_aldq (D := D) (cl := vwCl) C.1 C.2.1 (eg_K1 C.2.2.2.2.2.1.1 h1 h2) (eg_one (x := .inl (cA, n, .inr (.inr (.inr (.inr f))))) h3) 0 0 rfl rfl hin h (kk H locs ls hM hS hl)
theorem V_alen (C : Cx p l s m args meth c D ba own cc nL tb d) {x : FieldType × vp_A} {L : Lab} {a : Nat} {v : Int32} (h : decode cc pc = .ok (.arraylength, 1)) (ha : a = ad L) (hw : w L = some (.inl x)) (hv : Int32.ofNat x.2.1 = v)
    (kk : V p l e s m args below meth c D ba d mc ms Q nL ad w (pc + 1) lv (.int v :: rest) cells slots) : V p l e s m args below meth c D ba d mc ms Q nL ad w pc lv (.ref a :: rest) cells slots := by
  intro H locs ls hM hS hl
  subst ha
  obtain ⟨cA, ⟨h1, h2⟩, h3⟩ := (hM.1 _ _ hw).1
  exact va_alen (D := D) (cl := vwCl) C.1 C.2.1 (eg_K1 C.2.2.2.2.2.1.1 h1 h2) (eg_one (x := .inl (cA, x.2)) h3) 0 0 rfl rfl hv h (kk H locs ls hM hS hl)
theorem V_iast (C : Cx p l s m args meth c D ba own cc nL tb d) {n : Nat} {f : Nat → Int32} {L : Lab} {a : Nat} {i x : Int32} (h : decode cc pc = .ok (.iastore, 1)) (ha : a = ad L) (hw : w L = some (eI n f)) (hin : vp_in i n)
    (kk : V p l e s m args below meth c D ba d mc ms Q nL ad (wset w L (eI n (upd f i.toNatClampNeg x))) (pc + 1) lv rest cells slots) : V p l e s m args below meth c D ba d mc ms Q nL ad w pc lv (.int x :: .int i :: .ref a :: rest) cells slots := by
  intro H locs ls hM hS hl
  subst ha
  obtain ⟨cA, ⟨h1, h2⟩, h3⟩ := (hM.1 _ _ hw).1
  refine W.iast C.1 C.2.1 h3 (h1 n (fun j => .int (f j))) (fun q => by cases q) (by show ¬ (i < 0 ∨ (arrV _ _ _).slots.size ≤ _); rw [arrV_size]; exact hin) rfl rfl h fun H1 e1 z oq => ?_
  refine kk H1 _ ls (hM.set hw ⟨cA, ⟨h1, h2⟩, ?_⟩ oq) (hS.put z oq (hM.1 _ _ hw).2) hl
  show H1[ad L]? = some (vp_cell _ _)
  rw [e1]
  rw [vp_cell_i, vp_cell_i, arrV_store]
  congr 2
  funext q
  by_cases hq : q = i.toNatClampNeg
  · subst hq
    simp [updV, upd]
  · simp [updV, upd, hq]
theorem V_last (C : Cx p l s m args meth c D ba own cc nL tb d) {n : Nat} {f : Nat → Int64} {L : Lab} {a : Nat} {i : Int32} {x : Int64} (h : decode cc pc = .ok (.lastore, 1)) (ha : a = ad L) (hw : w L = some (eJ n f)) (hin : vp_in i n)
    (kk : V p l e s m args below meth c D ba d mc ms Q nL ad (wset w L (eJ n (vp_updL f i.toNatClampNeg x))) (pc + 1) lv rest cells slots) : V p l e s m args below meth c D ba d mc ms Q nL ad w pc lv (.long x :: .int i :: .ref a :: rest) cells slots := by
  intro H locs ls hM hS hl
  subst ha
  obtain ⟨cA, ⟨h1, h2⟩, h3⟩ := (hM.1 _ _ hw).1
  refine W.last C.1 C.2.1 h3 (h1 n (fun j => .long (f j))) (fun q => by cases q) (by show ¬ (i < 0 ∨ (arrV _ _ _).slots.size ≤ _); rw [arrV_size]; exact hin) rfl rfl h fun H1 e1 z oq => ?_
  refine kk H1 _ ls (hM.set hw ⟨cA, ⟨h1, h2⟩, ?_⟩ oq) (hS.put z oq (hM.1 _ _ hw).2) hl
  show H1[ad L]? = some (vp_cell _ _)
  rw [e1]
  rw [vp_cell_l, vp_cell_l, arrV_store]
  congr 2
  funext q
  by_cases hq : q = i.toNatClampNeg
  · subst hq
    simp [updV, vp_updL]
  · simp [updV, vp_updL, hq]
theorem V_aast (C : Cx p l s m args meth c D ba own cc nL tb d) {r : vw_C} {n ci : Nat} {f : Nat → Option Nat} {L Lv : Lab} {a b : Nat} {i : Int32} {vs : List Value} (h : decode cc pc = .ok (.aastore, 1)) (ha : a = ad L) (hw : w L = some (eQ r.1 n f)) (hb : b = ad Lv) (hv : w Lv = some (.inr (ci, vs))) (hc : vwCl[ci]? = some r) (hin : vp_in i n)
    (kk : V p l e s m args below meth c D ba d mc ms Q nL ad (wset w L (eQ r.1 n (va_up f i.toNatClampNeg (some b)))) (pc + 1) lv rest cells slots) : V p l e s m args below meth c D ba d mc ms Q nL ad w pc lv (.ref b :: .int i :: .ref a :: rest) cells slots := by
  intro H locs ls hM hS hl
  subst ha
  subst hb
  obtain ⟨cA, ⟨h1, h2⟩, h3⟩ := (hM.1 _ _ hw).1
  obtain ⟨r', hr', cellV, g1, g2, g3, -⟩ := (hM.1 _ _ hv).1
  have hlt : i.toNatClampNeg < n := Nat.not_le.mp fun q => hin (Or.inr q)
  have h0 : ¬ i < 0 := fun q => hin (Or.inl q)
  have hdv : va_RA s cA (.object r.1) := h2
  have hcls := (C.2.2.2.2.2.1.1.1 ci r hc).2
  obtain ⟨kA, comp, k1, k2, k3, -⟩ := h2
  have hcomp : comp = D.1 ci := Option.some.inj (k3.symm.trans hcls.1)
  subst hcomp
  obtain ⟨kC, hkC, -⟩ := hcls.2
  refine W.aast C.1 C.2.1 h3 (fun q h => by cases h) (fun h => by cases h) k1 k2 rfl hkC ⟨h0, by show _ < (arrV _ _ _).slots.size; rw [arrV_size]; exact hlt⟩ g1 (fun q h => by rw [g3] at h; cases h) (by rw [g2]; exact hkC) (by rw [g2]; exact va_assign hcls) rfl rfl h fun H1 e1 z oq => ?_
  refine kk H1 _ ls (hM.set hw ⟨cA, ⟨h1, hdv⟩, ?_⟩ oq) (hS.put z oq (hM.1 _ _ hw).2) hl
  show H1[ad L]? = some (vp_cell _ _)
  rw [e1]
  rw [vp_cell_q, vp_cell_q, arrV_store]
  congr 2
  funext q
  by_cases hq : q = i.toNatClampNeg
  · subst hq
    simp [updV, va_up, va_rf]
  · simp [updV, va_up, hq]
/-! making -/
theorem V_new (C : Cx p l s m args meth c D ba own cc nL tb d) {i ci : Nat} {fs : List Value} (L : Lab) (h : decode cc pc = .ok (.new i, 3)) (K : String) (T : u_T) (N : Nat) (ty0 : Nat → FieldType) (hty : ∀ k, k < N → parseFieldDescriptor (T k).2.2.1 = some (ty0 k)) (hF : eg_FW K T N) (hc : vwCl[ci]? = some (K, T, N)) (hl1 : Cond.classLink own i K ∈ eg_T) (hl2 : Cond.instantiable K N ∈ eg_T) (hl3 : Cond.initialized K ∈ eg_T) (hfs : ∀ j, j < N → defaultValue (ty0 j) = vp_V fs j) (hL : w L = none) (h1 : cells + 1 ≤ mc) (h2 : slots + N ≤ ms)
    (kk : ∀ a : Nat, V p l e s m args below meth c D ba d mc ms Q nL (aset ad L a) (wset w L (.inr (ci, fs))) (pc + 3) lv (.ref a :: rest) (cells + 1) (slots + N)) : V p l e s m args below meth c D ba d mc ms Q nL ad w pc lv rest cells slots := by
  intro H locs ls hM hS hl
  have hts := C.2.2.2.2.1
  have hKn := C.2.2.2.2.2.1.1.1 ci _ hc
  refine W.newcK C.1 C.2.1 C.2.2.2.1 (hts _ hl1) (hts _ hl2) (hts _ hl3) rfl h h1 h2 hKn.2.1 rfl fun H1 kC hkC e1 z1 o1 => ?_
  exact kk H.size H1 locs ls (hM.new hL (Nat.le_trans C.2.2.2.2.2.2.1 hS.1) ⟨_, hc, (u_born ty0 hts hF hKn hkC e1 hty).to hfs⟩ o1) ⟨Nat.le_trans hS.1 (by omega), fun x h1 h2 => (o1 x (Nat.lt_of_lt_of_le h1 hS.1)).trans (hS.2.1 x h1 h2), hS.2.2⟩ hl
theorem V_newI (C : Cx p l s m args meth c D ba own cc nL tb d) {n : Int32} {N : Nat} (L : Lab) (h : decode cc pc = .ok (.newarray .int, 2)) (hl1 : Cond.arrayClass .int ∈ eg_T) (hn : ¬ n < 0) (hN : n.toNatClampNeg = N) (hb : N * 4 ≤ 536870912) (hL : w L = none) (h1 : cells + 1 ≤ mc) (h2 : slots + N ≤ ms)
    (kk : ∀ a : Nat, V p l e s m args below meth c D ba d mc ms Q nL (aset ad L a) (wset w L (eI N (fun _ => 0))) (pc + 2) lv (.ref a :: rest) (cells + 1) (slots + N)) : V p l e s m args below meth c D ba d mc ms Q nL ad w pc lv (.int n :: rest) cells slots := by
  intro H locs ls hM hS hl
  refine va_newaK (atype := .int) C.1 C.2.1 (C.2.2.2.2.1 _ hl1) rfl h rfl hn hN hb h1 h2 rfl fun H1 cA e1 z1 o1 hAr hNm => ?_
  exact kk H.size H1 locs ls (hM.new hL (Nat.le_trans C.2.2.2.2.2.2.1 hS.1) ⟨cA, ⟨hAr, hNm⟩, e1⟩ o1) ⟨Nat.le_trans hS.1 (by omega), fun x h1 h2 => (o1 x (Nat.lt_of_lt_of_le h1 hS.1)).trans (hS.2.1 x h1 h2), hS.2.2⟩ hl
theorem V_newJ (C : Cx p l s m args meth c D ba own cc nL tb d) {n : Int32} {N : Nat} (L : Lab) (h : decode cc pc = .ok (.newarray .long, 2)) (hl1 : Cond.arrayClass .long ∈ eg_T) (hn : ¬ n < 0) (hN : n.toNatClampNeg = N) (hb : N * 8 ≤ 536870912) (hL : w L = none) (h1 : cells + 1 ≤ mc) (h2 : slots + N ≤ ms)
    (kk : ∀ a : Nat, V p l e s m args below meth c D ba d mc ms Q nL (aset ad L a) (wset w L (eJ N (fun _ => 0))) (pc + 2) lv (.ref a :: rest) (cells + 1) (slots + N)) : V p l e s m args below meth c D ba d mc ms Q nL ad w pc lv (.int n :: rest) cells slots := by
  intro H locs ls hM hS hl
  refine va_newaK (atype := .long) C.1 C.2.1 (C.2.2.2.2.1 _ hl1) rfl h rfl hn hN hb h1 h2 rfl fun H1 cA e1 z1 o1 hAr hNm => ?_
  exact kk H.size H1 locs ls (hM.new hL (Nat.le_trans C.2.2.2.2.2.2.1 hS.1) ⟨cA, ⟨hAr, hNm⟩, e1⟩ o1) ⟨Nat.le_trans hS.1 (by omega), fun x h1 h2 => (o1 x (Nat.lt_of_lt_of_le h1 hS.1)).trans (hS.2.1 x h1 h2), hS.2.2⟩ hl
theorem V_newQ (C : Cx p l s m args meth c D ba own cc nL tb d) {i : Nat} {n : Int32} {N : Nat} (L : Lab) (K : String) (h : decode cc pc = .ok (.anewarray i, 3)) (hl1 : Cond.classLink own i K ∈ eg_T) (hl2 : Cond.arrayOver (.object K) ∈ lw_tbl) (hn : ¬ n < 0) (hN : n.toNatClampNeg = N) (hb : N * 4 ≤ 536870912) (hL : w L = none) (h1 : cells + 1 ≤ mc) (h2 : slots + N ≤ ms)
    (kk : ∀ a : Nat, V p l e s m args below meth c D ba d mc ms Q nL (aset ad L a) (wset w L (eQ K N (fun _ => none))) (pc + 3) lv (.ref a :: rest) (cells + 1) (slots + N)) : V p l e s m args below meth c D ba d mc ms Q nL ad w pc lv (.int n :: rest) cells slots := by
  intro H locs ls hM hS hl
  subst hN
  refine W.anew C.1 C.2.1 C.2.2.2.1 (C.2.2.2.2.1 _ hl1) (va_AO.use (C.2.2.2.2.2.1.2.2.1 K hl2)) rfl h rfl hn hb h1 h2 fun cA kA comp f1 f2 f3 f4 => ?_
  generalize hH1 : H.push ({ cls := cA, slots := Array.replicate n.toNatClampNeg .null, vm := .none } : Cell) = H1
  have z1 : H1.size = H.size + 1 := by rw [← hH1, Array.size_push]
  have e1 : H1[H.size]? = some (arrV cA n.toNatClampNeg (fun _ => .null)) := by rw [← hH1, Array.getElem?_push_size, ← arrV_new]
  have o1 : ∀ q : Nat, q < H.size → H1[q]? = H[q]? := fun q hq => by rw [← hH1, Array.getElem?_push, if_neg (Nat.ne_of_lt hq)]
  have hAr : ArrOfT s cA (.object K) := fun N z => ⟨(fun k h => by cases h), kA, f2, comp, f3⟩
  exact kk H.size H1 locs ls (hM.new hL (Nat.le_trans C.2.2.2.2.2.2.1 hS.1) ⟨cA, ⟨hAr, kA, comp, f2, f3, f4, f1⟩, by rw [vp_cell_q]; exact e1⟩ o1) ⟨Nat.le_trans hS.1 (by omega), fun x h1 h2 => (o1 x (Nat.lt_of_lt_of_le h1 hS.1)).trans (hS.2.1 x h1 h2), hS.2.2⟩ hl
end EH
