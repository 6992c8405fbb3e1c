/-! ===== rows for the law's own objects: rows of int rows, renaming, shifts, constants ===== -/
section ER
variable {p : Program} {l : Launch} {e : Env} {s : State} {m : MethodId} {args : Array Value} {below : List Frame} {meth : Method} {c : Code} {D : va_G} {ba : Nat} {d mc ms : Nat} {Q : State → Prop} {nL : Nat} {ad : Adr} {w : Wd} {pc : Nat} {lv : List (Nat × Value)} {rest : List Value} {cells slots : Nat}
variable {own : String} {cc : ByteArray} {tb : List ExceptionTableEntry}
variable {QR : Option Value → Adr → Wd → Prop} {QX : String → Adr → Wd → Prop}
theorem Mem.map {ad2 : Adr} {w2 : Wd} {H : Heap} (φ : Lab → Lab) (h : Mem D ba s ad w H) (hw : ∀ L e, w2 L = some e → w (φ L) = some e ∧ ad2 L = ad (φ L)) (hi : ∀ L L', w2 L ≠ none → w2 L' ≠ none → φ L = φ L' → L = L') : Mem D ba s ad2 w2 H := by
  refine ⟨fun L e hL => ?_, fun L1 L2 h1 h2 h3 => ?_⟩
  · obtain ⟨g1, g2⟩ := hw L e hL
    rw [g2]; exact h.1 _ _ g1
  · cases q1 : w2 L1 with
    | none => exact absurd q1 h1
    | some e1 =>
      cases q2 : w2 L2 with
      | none => exact absurd q2 h2
      | some e2 =>
        obtain ⟨g1, g2⟩ := hw L1 e1 q1
        obtain ⟨g3, g4⟩ := hw L2 e2 q2
        refine hi L1 L2 h1 h2 (h.2 _ _ (by rw [g1]; exact fun z => nomatch z) (by rw [g3]; exact fun z => nomatch z) (by rw [← g2, ← g4]; exact h3))
theorem V_map {ad2 : Adr} {w2 : Wd} (φ : Lab → Lab) (hw : ∀ L e, w2 L = some e → w (φ L) = some e ∧ ad2 L = ad (φ L)) (hi : ∀ L L', w2 L ≠ none → w2 L' ≠ none → φ L = φ L' → L = L') (k : V p l e s m args below meth c D ba d mc ms Q nL ad2 w2 pc lv rest cells slots) : V p l e s m args below meth c D ba d mc ms Q nL ad w pc lv rest cells slots := fun H locs ls hM hS hl => k H locs ls (hM.map φ hw hi) hS hl
/-- what was named B is named A, and what was named A is forgotten -/
def wren (w : Wd) (A B : Lab) : Wd := fun L => if L = B then none else if L = A then w B else w L
theorem V_ren {A B : Lab} (hne : A ≠ B) (k : V p l e s m args below meth c D ba d mc ms Q nL (aset ad A (ad B)) (wren w A B) pc lv rest cells slots) : V p l e s m args below meth c D ba d mc ms Q nL ad w pc lv rest cells slots := by
  refine V_map (fun L => if L = A then B else L) (fun L e hL => ?_) (fun L L' h1 h2 h3 => ?_) k
  · unfold wren at hL
    by_cases h1 : L = B
    · rw [if_pos h1] at hL; cases hL
    · rw [if_neg h1] at hL
      by_cases h2 : L = A
      · subst h2
        rw [if_pos rfl] at hL
        exact ⟨by rw [if_pos rfl]; exact hL, by rw [if_pos rfl]; exact aset_s⟩
      · rw [if_neg h2] at hL
        exact ⟨by rw [if_neg h2]; exact hL, by rw [if_neg h2]; exact aset_n h2⟩
  · have n1 : L ≠ B := fun z => h1 (by unfold wren; rw [if_pos z])
    have n2 : L' ≠ B := fun z => h2 (by unfold wren; rw [if_pos z])
    show L = L'
    by_cases q1 : L = A <;> by_cases q2 : L' = A
    · rw [q1, q2]
    · simp only [if_pos q1, if_neg q2] at h3; exact absurd h3.symm n2
    · simp only [if_neg q1, if_pos q2] at h3; exact absurd h3 n1
    · simp only [if_neg q1, if_neg q2] at h3; exact h3
/-- B is forgotten -/
def wdel (w : Wd) (B : Lab) : Wd := fun L => if L = B then none else w L
theorem V_del (B : Lab) (k : V p l e s m args below meth c D ba d mc ms Q nL ad (wdel w B) pc lv rest cells slots) : V p l e s m args below meth c D ba d mc ms Q nL ad w pc lv rest cells slots := by
  refine V_less (fun L e hL => ?_) k
  unfold wdel at hL
  by_cases h1 : L = B
  · rw [if_pos h1] at hL; cases hL
  · rw [if_neg h1] at hL; exact hL
theorem wdel_wset {w : Wd} {B : Lab} {e : Ent} (h : w B = none) : wdel (wset w B e) B = w := by
  funext L
  unfold wdel wset
  by_cases h1 : L = B
  · rw [if_pos h1, h1, h]
  · rw [if_neg h1, if_neg h1]
/-! rows of int rows -/
abbrev eA (n : Nat) (f : Nat → Option Nat) : Ent := .inl (.array .int, n, .inr (.inr (.inr (.inr f))))
theorem V_aaldA (C : Cx p l s m args meth c D ba own cc nL tb d) {n : Nat} {f : Nat → Option Nat} {L : Lab} {a i : Nat} {v : Value} (h : decode cc pc = .ok (.aaload, 1)) (ha : a = ad L) (hw : w L = some (eA n f)) (hi : i < n) (hn : n < 2 ^ 31) (hv : va_rf (f i) = v)
    (kk : V p l e s m args below meth c D ba d mc ms Q nL ad w (pc + 1) lv (v :: rest) cells slots) : V p l e s m args below meth c D ba d mc ms Q nL ad w pc lv (.int (nI i) :: .ref a :: rest) cells slots := by
  intro H locs ls hM hS hl
  subst ha
  subst hv
  obtain ⟨cA, ⟨h1, h2⟩, h3⟩ := (hM.1 _ _ hw).1
  have hin : vp_in (nI i) n := nI_in hi hn
  exact W.aald (v := va_rf (f i)) (ty := .array .int) C.1 C.2.1 h3 (h1 n (fun j => va_rf (f j))) rfl (fun q => by cases q) (by show ¬ (nI i < 0 ∨ (arrV _ _ _).slots.size ≤ _); rw [arrV_size]; exact hin) (by show (arrV _ _ _).slots[_]? = _; rw [nI_clamp (by omega), arrV_read _ _ hi]) rfl rfl h (kk H locs ls hM hS hl)
theorem V_aastA (C : Cx p l s m args meth c D ba own cc nL tb d) {n m1 : Nat} {f : Nat → Option Nat} {g : Nat → Int32} {L Lv : Lab} {a b i : Nat} (h : decode cc pc = .ok (.aastore, 1)) (ha : a = ad L) (hw : w L = some (eA n f)) (hb : b = ad Lv) (hv : w Lv = some (eI m1 g)) (hi : i < n) (hn : n < 2 ^ 31)
    (kk : V p l e s m args below meth c D ba d mc ms Q nL ad (wset w L (eA n (va_up f i (some b)))) (pc + 1) lv rest cells slots) : V p l e s m args below meth c D ba d mc ms Q nL ad w pc lv (.ref b :: .int (nI i) :: .ref a :: rest) cells slots := by
  intro H locs ls hM hS hl
  subst ha
  subst hb
  obtain ⟨cA, ⟨h1, h2⟩, h3⟩ := (hM.1 _ _ hw).1
  obtain ⟨cI, ⟨g1, g2⟩, g3⟩ := (hM.1 _ _ hv).1
  obtain ⟨comp, c2, k, f1, f2, f3, f4, f5⟩ := arrayOverA_spec C.2.2.2.2.2.1.2.2.2.2.2.2.2.1
  have hc : c2 = cA := Option.some.inj (f5.symm.trans h2)
  subst hc
  have hc2 : comp = cI := Option.some.inj (f1.symm.trans g2)
  subst hc2
  obtain ⟨kI, hkI, -⟩ := Vm.findClass_spec f1
  have hin : vp_in (nI i) n := nI_in hi hn
  have h0 : ¬ nI i < 0 := fun q => hin (Or.inl q)
  have hcl : (nI i).toNatClampNeg = i := nI_clamp (by omega)
  refine W.aast C.1 C.2.1 h3 (fun q h => by cases h) (fun h => by cases h) f3 f4 rfl hkI ⟨h0, by show _ < (arrV _ _ _).slots.size; rw [arrV_size, hcl]; exact hi⟩ g3 (fun q h => by cases h) hkI (by show s.vm.assignableAux (255 + 1) comp comp = true; unfold Vm.assignableAux; simp) rfl rfl h fun H1 e1 z oq => ?_
  refine kk H1 _ ls (hM.set hw ⟨_, ⟨h1, h2⟩, ?_⟩ oq) (hS.put z oq (hM.1 _ _ hw).2) hl
  show H1[ad L]? = some (vp_cell _ _)
  rw [e1, hcl]
  rw [vp_cell_q, vp_cell_q, arrV_store]
  congr 2
  funext q
  by_cases hq : q = i
  · subst hq
    simp [updV, va_up, va_rf]
  · simp [updV, va_up, hq]
theorem V_newA (C : Cx p l s m args meth c D ba own cc nL tb d) {i N : Nat} (L : Lab) (h : decode cc pc = .ok (.anewarray i, 3)) (hl1 : Cond.classLink own i "[I" ∈ eg_T) (hb : N * 4 ≤ 536870912) (hL : w L = none) (h1 : cells + 1 ≤ mc) (h2 : slots + N ≤ ms)
    (kk : ∀ a : Nat, V p l e s m args below meth c D ba d mc ms Q nL (aset ad L a) (wset w L (eA N (fun _ => none))) (pc + 3) lv (.ref a :: rest) (cells + 1) (slots + N)) : V p l e s m args below meth c D ba d mc ms Q nL ad w pc lv (.int (nI N) :: rest) cells slots := by
  intro H locs ls hM hS hl
  have hN : (nI N).toNatClampNeg = N := nI_clamp (by omega)
  have es : (FieldType.array FieldType.int).toString = "[I" := by decide +kernel
  refine W.anewA (t := .int) C.1 C.2.1 C.2.2.2.1 (by rw [es]; exact C.2.2.2.2.1 _ hl1) (over_moved (a := #[]) (Vm.Alike.refl _) C.2.2.2.2.2.1.2.2.2.2.2.2.2.1) rfl h rfl (nI_pos (by omega)) (by rw [hN]; exact hb) h1 (by rw [hN]; exact h2) fun cA kA comp f1 f2 f3 f4 => ?_
  rw [hN]
  generalize hH1 : H.push ({ cls := cA, slots := Array.replicate N .null, vm := .none } : Cell) = H1
  have z1 : H1.size = H.size + 1 := by rw [← hH1, Array.size_push]
  have e1 : H1[H.size]? = some (arrV cA N (fun _ => .null)) := by rw [← hH1, Array.getElem?_push_size, ← arrV_new]
  have o1 : ∀ q : Nat, q < H.size → H1[q]? = H[q]? := fun q hq => by rw [← hH1, Array.getElem?_push, if_neg (Nat.ne_of_lt hq)]
  have hAr : ArrOfT s cA (.array .int) := fun N z => ⟨(fun k h => by cases h), kA, f2, comp, f3⟩
  exact kk H.size H1 locs ls (hM.new hL (Nat.le_trans C.2.2.2.2.2.2.1 hS.1) ⟨cA, ⟨hAr, f1⟩, by rw [vp_cell_q]; exact e1⟩ o1) ⟨Nat.le_trans hS.1 (by omega), fun x h1 h2 => (o1 x (Nat.lt_of_lt_of_le h1 hS.1)).trans (hS.2.1 x h1 h2), hS.2.2⟩ hl
theorem V_newIn (C : Cx p l s m args meth c D ba own cc nL tb d) {N : Nat} (L : Lab) (h : decode cc pc = .ok (.newarray .int, 2)) (hl1 : Cond.arrayClass .int ∈ eg_T) (hb : N * 4 ≤ 536870912) (hL : w L = none) (h1 : cells + 1 ≤ mc) (h2 : slots + N ≤ ms)
    (kk : ∀ a : Nat, V p l e s m args below meth c D ba d mc ms Q nL (aset ad L a) (wset w L (eI N (fun _ => 0))) (pc + 2) lv (.ref a :: rest) (cells + 1) (slots + N)) : V p l e s m args below meth c D ba d mc ms Q nL ad w pc lv (.int (nI N) :: rest) cells slots := V_newI C L h hl1 (nI_pos (by omega)) (nI_clamp (by omega)) hb hL h1 h2 kk
theorem V_newQn (C : Cx p l s m args meth c D ba own cc nL tb d) {i N : Nat} (L : Lab) (K : String) (h : decode cc pc = .ok (.anewarray i, 3)) (hl1 : Cond.classLink own i K ∈ eg_T) (hl2 : Cond.arrayOver (.object K) ∈ lw_tbl) (hb : N * 4 ≤ 536870912) (hL : w L = none) (h1 : cells + 1 ≤ mc) (h2 : slots + N ≤ ms)
    (kk : ∀ a : Nat, V p l e s m args below meth c D ba d mc ms Q nL (aset ad L a) (wset w L (eQ K N (fun _ => none))) (pc + 3) lv (.ref a :: rest) (cells + 1) (slots + N)) : V p l e s m args below meth c D ba d mc ms Q nL ad w pc lv (.int (nI N) :: rest) cells slots := V_newQ C L K h hl1 hl2 (nI_pos (by omega)) (nI_clamp (by omega)) hb hL h1 h2 kk
theorem V_aretA (C : Cx p l s m args meth c D ba own cc nL tb d) {a : Nat} (t : FieldType) (h : decode cc pc = .ok (.areturn, 1)) (hr : meth.sig.returnType = some (.array t)) (hq : QR (some (.ref a)) ad w) (h1 : cells ≤ mc) (h2 : slots ≤ ms) : V p l e s m args below meth c D ba d mc ms (MO D ba QR QX below args s mc ms) nL ad w pc lv [.ref a] cells slots := fun H locs ls hM hS hl =>
  W.widen h1 h2 (vx_ret (W.aret (hlocks := C.2.2.2.2.2.2.2.1) C.1 C.2.1 hr (Or.inr ⟨t, rfl⟩) (Or.inr ⟨a, rfl⟩) (fun t ht hW => ⟨_, ad, w, rfl, hq, by rw [ht]; exact hM.moved hW.alike, hS.F ht⟩) hS.2.2 h))
theorem V_ldc (C : Cx p l s m args meth c D ba own cc nL tb d) {i : Nat} {v : Int32} (h : decode cc pc = .ok (.ldc i, 2)) (hw : Cond.constant own i v ∈ eg_T) (k : V p l e s m args below meth c D ba d mc ms Q nL ad w (pc + 2) lv (.int v :: rest) cells slots) : V p l e s m args below meth c D ba d mc ms Q nL ad w pc lv rest cells slots := fun H locs ls hM hS hl => lv_ldc C.1 C.2.1 C.2.2.2.1 (C.2.2.2.2.1 _ hw) h (k H locs ls hM hS hl)
/-- x >> k -/
def sh (x : Int32) (k : Nat) : Int32 := x >>> (nI k &&& 31)
theorem V_ishrn (C : Cx p l s m args meth c D ba own cc nL tb d) {x : Int32} {k : Nat} (h : decode cc pc = .ok (.ishr, 1)) (kk : V p l e s m args below meth c D ba d mc ms Q nL ad w (pc + 1) lv (.int (sh x k) :: rest) cells slots) : V p l e s m args below meth c D ba d mc ms Q nL ad w pc lv (.int (nI k) :: .int x :: rest) cells slots := fun H locs ls hM hS hl => lv_ishr C.1 C.2.1 h (kk H locs ls hM hS hl)
/-- the law's own script -/
theorem V_sldx (C : Cx p l s m args meth c D ba own cc nL tb d) {L : Nat} {xs : Nat → Int32} (hX : va_X (D.2 99 0) L xs s s.heap) (hb : D.2 99 0 < ba) {i : Nat} (hi : i < L) (hL : L < 2 ^ 31) (h : decode cc pc = .ok (.iaload, 1))
    (k : V p l e s m args below meth c D ba d mc ms Q nL ad w (pc + 1) lv (.int (xs i) :: rest) cells slots) : V p l e s m args below meth c D ba d mc ms Q nL ad w pc lv (.int (nI i) :: .ref (D.2 99 0) :: rest) cells slots := V_sld C hX hb (nI_in hi hL) h (by rw [nI_clamp (by omega)]; exact k)
end ER
theorem tk_7 : Cond.constant RL 7 2147483647 ∈ eg_T := eg_in 534 (by decide +kernel) (by decide +kernel)
theorem tk_8 : Cond.constant RL 8 790386105 ∈ eg_T := eg_in 538 (by decide +kernel) (by decide +kernel)
/-- the law's below -/
def bl (v : Int32) (n : Nat) : Nat := v.toBitVec.toNat % 2 ^ 31 % n
theorem bl_lt {v : Int32} {n : Nat} (h : 0 < n) : bl v n < n := Nat.mod_lt _ h
theorem bl_and (v : Int32) : v &&& 2147483647 = nI (v.toBitVec.toNat % 2 ^ 31) := pk_and v 31 (by decide +kernel)
