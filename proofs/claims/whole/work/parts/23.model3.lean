section V23
variable {p : Program} {l : Launch} {e : Env} {s : State} {m : MethodId} {args : Array Value} {below : List Frame} {meth : Method} {c : Code} {D : va_G} {ba : Nat} {d mc ms : Nat} {Q : State → Prop} {nL : Nat} {ad : Adr} {w : Wd} {pc : Nat} {lv : List (Nat × Value)} {rest : List Value} {cells slots : Nat}
variable {own : String} {cc : ByteArray} {tb : List ExceptionTableEntry}
/-- System.arraycopy between two rows of whole numbers -/
theorem V_copyI (C : Cx p l s m args meth c D ba own cc nL tb d) {i : Nat} {n0 n1 : Nat} {f g : Nat → Int32} {L0 L1 : Lab} {a0 a1 : Nat} {sp dp n : Int32} (h : decode cc pc = .ok (.invokestatic i, 3)) (hlink : Cond.methodLink own i arraycopyName ∈ eg_T) (hst : Cond.static arraycopyName ∈ eg_T) (hna : Cond.native arraycopyName ∈ eg_T) (hin : Cond.initialized "java/lang/System" ∈ eg_T) (ha0 : a0 = ad L0) (hw0 : w L0 = some (eI n0 f)) (ha1 : a1 = ad L1) (hw1 : w L1 = some (eI n1 g)) (h1 : ¬ sp < 0) (h2 : ¬ dp < 0) (h3 : ¬ n < 0) (h4 : sp.toNatClampNeg + n.toNatClampNeg ≤ n0) (h5 : dp.toNatClampNeg + n.toNatClampNeg ≤ n1) (hd : 1 ≤ d) (hd2 : (rest.map fun v => v.category).sum + (nativeFrameWords "java/lang/System" "arraycopy" 5 + 11) ≤ 36 * d)
    (k : V p l e s m args below meth c D ba d mc ms Q nL ad (wset w L1 (eI n1 (va_cpy f g sp.toNatClampNeg dp.toNatClampNeg n.toNatClampNeg))) (pc + 3) lv rest cells slots) : V p l e s m args below meth c D ba d mc ms Q nL ad w pc lv (.int n :: .int dp :: .ref a1 :: .int sp :: .ref a0 :: rest) cells slots := by
  intro H locs ls hM hS hl
  subst ha0
  subst ha1
  have nn : ∀ z : Int32, ¬ z < 0 → z.toInt = (z.toNatClampNeg : Int) := by
    intro z hz
    have hz0 : (0 : Int) ≤ z.toInt := by
      have := Int32.not_lt.mp hz
      simpa using Int32.le_iff_toInt_le.mp this
    show z.toInt = ((z.toInt.toNat : Nat) : Int)
    omega
  obtain ⟨⟨c0, ⟨g1, g2⟩, g3⟩, gb0⟩ := hM.1 _ _ hw0
  obtain ⟨⟨c1, ⟨e1, e2⟩, e3⟩, gb1⟩ := hM.1 _ _ hw1
  intro T hT X
  obtain ⟨-, k0, hk0, cm0, hkk0⟩ := g1 n0 (fun j => .int (f j))
  obtain ⟨-, k1, hk1, cm1, hkk1⟩ := e1 n1 (fun j => .int (g j))
  obtain ⟨vm', X', step⟩ := X.arraycopy C.1 C.2.2.2.1 (C.2.2.2.2.1 _ hlink) (C.2.2.2.2.1 _ hna) (C.2.2.2.2.1 _ hst) (C.2.2.2.2.1 _ hin) (src := ad L0) (dst := ad L1) (cs := vp_cell c0 (n0, .inl f)) (cd := vp_cell c1 (n1, .inl g)) (srcPos := sp) (destPos := dp) (n := n) (by rw [hT]; exact g3) (by rw [hT]; exact e3)
    (fun _ h => by cases h) (fun _ h => by cases h) (fun h => by cases h) (fun h => by cases h) hk0 hk1 hkk0 hkk1 (by rfl) h1 h2 h3
    (by rw [nn sp h1, nn n h3]; show ¬ _ > ((arrV c0 n0 (fun j => .int (f j))).slots.size : Int); rw [arrV_size]; omega)
    (by rw [nn dp h2, nn n h3]; show ¬ _ > ((arrV c1 n1 (fun j => .int (g j))).slots.size : Int); rw [arrV_size]; omega)
    (fun vm₁ _ i hi => by
      have e : (vp_cell c0 (n0, .inl f)).slots.getD (sp.toNatClampNeg + i) .null = .int (f (sp.toNatClampNeg + i)) := by
        show (arrV c0 n0 (fun j => .int (f j))).slots.getD _ _ = _
        rw [Array.getD_eq_getD_getElem?, arrV_read _ _ (by omega)]
        rfl
      refine ⟨?_, ?_⟩
      · rw [e]; rfl
      · rw [e]; exact trivial)
    (g := F0 m pc ls (.int n :: .int dp :: .ref (ad L1) :: .int sp :: .ref (ad L0) :: rest)) rfl (by rw [C.2.2.1]; exact hl.1) (rest := rest) rfl (by rw [C.2.1]; exact h) hd (by show 2 * 0 + _ + _ ≤ 36 * d; omega)
  have q1 : copied (vp_cell c0 (n0, .inl f)) (vp_cell c1 (n1, .inl g)) sp dp n = vp_cell c1 (n1, .inl (va_cpy f g sp.toNatClampNeg dp.toNatClampNeg n.toNatClampNeg)) := va_copied (fun z => .int z) c0 c1 f g h4
  rw [q1] at X' step
  have hlt : ad L1 < H.size := (Array.getElem?_eq_some_iff.mp e3).1
  have hheap : ((T.setVm vm').setCell (ad L1) (vp_cell c1 (n1, .inl (va_cpy f g sp.toNatClampNeg dp.toNatClampNeg n.toNatClampNeg)))).heap = H.setIfInBounds (ad L1) (vp_cell c1 (n1, .inl (va_cpy f g sp.toNatClampNeg dp.toNatClampNeg n.toNatClampNeg))) := by rw [← hT]; rfl
  have oq : ∀ q : Nat, q ≠ ad L1 → (H.setIfInBounds (ad L1) (vp_cell c1 (n1, .inl (va_cpy f g sp.toNatClampNeg dp.toNatClampNeg n.toNatClampNeg))))[q]? = H[q]? := fun q hq => by simp [Array.getElem?_setIfInBounds, Ne.symm hq]
  obtain ⟨t, b1, b2⟩ := k _ _ ls (hM.set hw1 ⟨c1, ⟨e1, e2⟩, (show (H.setIfInBounds (ad L1) (vp_cell c1 (n1, .inl (va_cpy f g sp.toNatClampNeg dp.toNatClampNeg n.toNatClampNeg))))[ad L1]? = some _ by simp [Array.getElem?_setIfInBounds, hlt])⟩ oq) ⟨by simp; exact hS.1, fun q z1 z2 => by
      rw [oq q (fun e => z2 (by rw [e]; exact gb1))]
      exact hS.2.1 q z1 z2, fun q hq => by
      rcases List.mem_append.mp hq with h | h
      · exact hS.2.2 q h
      · obtain ⟨z, -, hz⟩ := List.mem_map.mp h
        rw [← hz]
        exact gb1⟩ hl _ hheap X'
  exact ⟨t, step t b1, b2⟩
end V23
section Q23
variable {i : Nat} {ad : Adr} {σ : CS} {th ro : Int32} {lo ma ap : Nat → Int32} {o : Wd}
theorem row0_add {n : Nat} {g g' : Nat → Int32} {x : Int32} (h1 : g' n = x) (h2 : ∀ k, k ≠ n → g' k = g k) : row0 (n + 1) g' = upd (row0 n g) n x := by
  funext k
  by_cases hk : k = n
  · subst hk; simp [row0, upd, h1]
  · have : (k < n + 1) = (k < n) := by simp only [eq_iff_iff]; omega
    simp [row0, upd, hk, h2 k hk, this]
theorem row0_add0 {n : Nat} {g g' : Nat → Int32} (h1 : g' n = 0) (h2 : ∀ k, k ≠ n → g' k = g k) : row0 (n + 1) g' = row0 n g := by
  funext k
  by_cases hk : k = n
  · subst hk; simp [row0, h1]
  · have : (k < n + 1) = (k < n) := by simp only [eq_iff_iff]; omega
    simp [row0, h2 k hk, this]
theorem QW_addH {v : Nat} : wset (wset (wset (QW i ad σ th ro lo ma ap o) [i, 2] (eI 8 (upd (aDm σ) (cN σ) (nI v)))) [i, 4] (eI 8 (upd (aCe σ) (cN σ) (-1)))) [i] (eMod i ad th (cN σ + 1) (cK σ) (cDay σ) (cIns σ) ro) = QW i ad (addH σ v) th ro lo ma ap o := by
  rw [put_wset, put_wset, put_wset]
  have hf : ∀ k, k ≠ cN σ → cH (addH σ v) k = cH σ k := fun k hk => fup_n hk
  have hn : cH (addH σ v) (cN σ) = (0, v, 0, -1, 0, fun _ => (0, 0)) := fup_s
  have h1 : aSc (addH σ v) = aSc σ := row0_add0 (by show nI (hSc (cH (addH σ v) (cN σ))) = 0; rw [hn]; rfl) (fun k hk => by show nI (hSc (cH (addH σ v) k)) = _; rw [hf k hk])
  have h2 : aDm (addH σ v) = upd (aDm σ) (cN σ) (nI v) := row0_add (by show nI (hDm (cH (addH σ v) (cN σ))) = _; rw [hn]) (fun k hk => by show nI (hDm (cH (addH σ v) k)) = _; rw [hf k hk])
  have h3 : aDu (addH σ v) = aDu σ := row0_add0 (by show nI (hDu (cH (addH σ v) (cN σ))) = 0; rw [hn]; rfl) (fun k hk => by show nI (hDu (cH (addH σ v) k)) = _; rw [hf k hk])
  have h4 : aCe (addH σ v) = upd (aCe σ) (cN σ) (-1) := row0_add (by show hCe (cH (addH σ v) (cN σ)) = _; rw [hn]) (fun k hk => by show hCe (cH (addH σ v) k) = _; rw [hf k hk])
  have h5 : aDy (addH σ v) = aDy σ := row0_add0 (by show nI (hDy (cH (addH σ v) (cN σ))) = 0; rw [hn]; rfl) (fun k hk => by show nI (hDy (cH (addH σ v) k)) = _; rw [hf k hk])
  have hx : ∀ x, (x / 6 < cN σ + 1 ∧ x % 6 < hSc (cH (addH σ v) (x / 6))) ↔ (x / 6 < cN σ ∧ x % 6 < hSc (cH σ (x / 6))) := by
    intro x
    by_cases hq : x / 6 = cN σ
    · rw [hq, hn]
      constructor
      · intro z; exact absurd z.2 (Nat.not_lt_zero _)
      · intro z; exact absurd z.1 (Nat.lt_irrefl _)
    · rw [hf _ hq]
      constructor
      · intro z; exact ⟨by omega, z.2⟩
      · intro z; exact ⟨by omega, z.2⟩
  have h6 : aDs (addH σ v) = aDs σ := by
    funext x
    show (if x / 6 < cN σ + 1 ∧ x % 6 < hSc (cH (addH σ v) (x / 6)) then nI (hSu (cH (addH σ v) (x / 6)) (x % 6)).2 else 0) = (if x / 6 < cN σ ∧ x % 6 < hSc (cH σ (x / 6)) then nI (hSu (cH σ (x / 6)) (x % 6)).2 else 0)
    by_cases hz : x / 6 < cN σ ∧ x % 6 < hSc (cH σ (x / 6))
    · rw [if_pos hz, if_pos ((hx x).mpr hz), hf _ (Nat.ne_of_lt hz.1)]
    · rw [if_neg hz, if_neg (fun z => hz ((hx x).mp z))]
  have h7 : aHb (addH σ v) = aHb σ := by
    funext x
    show (if x / 6 < cN σ + 1 ∧ x % 6 < hSc (cH (addH σ v) (x / 6)) then nI (hSu (cH (addH σ v) (x / 6)) (x % 6)).1 else 0) = (if x / 6 < cN σ ∧ x % 6 < hSc (cH σ (x / 6)) then nI (hSu (cH σ (x / 6)) (x % 6)).1 else 0)
    by_cases hz : x / 6 < cN σ ∧ x % 6 < hSc (cH σ (x / 6))
    · rw [if_pos hz, if_pos ((hx x).mpr hz), hf _ (Nat.ne_of_lt hz.1)]
    · rw [if_neg hz, if_neg (fun z => hz ((hx x).mp z))]
  congr 1
  funext L
  rcases L with _ | ⟨c, _ | ⟨j, x⟩⟩
  · rw [wset_s]; rfl
  · by_cases c2 : c = 2
    · subst c2
      rw [wset_n (by simp), wset_n (by simp), wset_s]
      show _ = some (eI 8 (aDm (addH σ v)))
      rw [h2]
    by_cases c4 : c = 4
    · subst c4
      rw [wset_n (by simp), wset_s]
      show _ = some (eI 8 (aCe (addH σ v)))
      rw [h4]
    rw [wset_n (by simp), wset_n (by simp [c4]), wset_n (by simp [c2])]
    simp only [MC, if_neg c2, if_neg c4, h1, h3, h5, h6, h7]
    rfl
  · simp [wset, MC]
theorem QW_addS {j a b : Nat} (hj : j < cN σ) (h6 : hSc (cH σ j) < 6) : wset (wset (wset (QW i ad (setH σ j (hSc (cH σ j), hDm (cH σ j), hDu (cH σ j), hCe (cH σ j), hDy (cH σ j), hSu (cH σ j))) th ro lo ma ap o) [i, 6] (eI 48 (upd (aDs (setH σ j (hSc (cH σ j), hDm (cH σ j), hDu (cH σ j), hCe (cH σ j), hDy (cH σ j), hSu (cH σ j)))) (6 * j + hSc (cH σ j)) (nI a)))) [i, 7] (eI 48 (upd (aHb (setH σ j (hSc (cH σ j), hDm (cH σ j), hDu (cH σ j), hCe (cH σ j), hDy (cH σ j), hSu (cH σ j)))) (6 * j + hSc (cH σ j)) (nI b)))) [i, 1] (eI 8 (upd (aSc (setH σ j (hSc (cH σ j), hDm (cH σ j), hDu (cH σ j), hCe (cH σ j), hDy (cH σ j), hSu (cH σ j)))) j (nI (hSc (cH σ j) + 1)))) = QW i ad (setH σ j (hSc (cH σ j) + 1, hDm (cH σ j), hDu (cH σ j), hCe (cH σ j), hDy (cH σ j), fup (hSu (cH σ j)) (hSc (cH σ j)) (b, a))) th ro lo ma ap o := by
  have e6 := aDs_up (σ := σ) (j := j) (k := hSc (cH σ j)) (sc := hSc (cH σ j) + 1) (h := (hSc (cH σ j), hDm (cH σ j), hDu (cH σ j), hCe (cH σ j), hDy (cH σ j), hSu (cH σ j))) (h' := (hSc (cH σ j) + 1, hDm (cH σ j), hDu (cH σ j), hCe (cH σ j), hDy (cH σ j), fup (hSu (cH σ j)) (hSc (cH σ j)) (b, a))) hj h6 rfl (Nat.lt_succ_self _) (fun x _ hx => by show x < hSc (cH σ j) + 1 ↔ x < hSc (cH σ j); omega) (fun x hx => by show (fup (hSu (cH σ j)) (hSc (cH σ j)) (b, a) x).2 = (hSu (cH σ j) x).2; rw [fup_n hx])
  have e7 := aHb_up (σ := σ) (j := j) (k := hSc (cH σ j)) (sc := hSc (cH σ j) + 1) (h := (hSc (cH σ j), hDm (cH σ j), hDu (cH σ j), hCe (cH σ j), hDy (cH σ j), hSu (cH σ j))) (h' := (hSc (cH σ j) + 1, hDm (cH σ j), hDu (cH σ j), hCe (cH σ j), hDy (cH σ j), fup (hSu (cH σ j)) (hSc (cH σ j)) (b, a))) hj h6 rfl (Nat.lt_succ_self _) (fun x _ hx => by show x < hSc (cH σ j) + 1 ↔ x < hSc (cH σ j); omega) (fun x hx => by show (fup (hSu (cH σ j)) (hSc (cH σ j)) (b, a) x).1 = (hSu (cH σ j) x).1; rw [fup_n hx])
  rw [show (nI (hSu (hSc (cH σ j) + 1, hDm (cH σ j), hDu (cH σ j), hCe (cH σ j), hDy (cH σ j), fup (hSu (cH σ j)) (hSc (cH σ j)) (b, a)) (hSc (cH σ j))).2) = nI a from by show nI (fup (hSu (cH σ j)) (hSc (cH σ j)) (b, a) (hSc (cH σ j))).2 = _; rw [fup_s]] at e6
  rw [show (nI (hSu (hSc (cH σ j) + 1, hDm (cH σ j), hDu (cH σ j), hCe (cH σ j), hDy (cH σ j), fup (hSu (cH σ j)) (hSc (cH σ j)) (b, a)) (hSc (cH σ j))).1) = nI b from by show nI (fup (hSu (cH σ j)) (hSc (cH σ j)) (b, a) (hSc (cH σ j))).1 = _; rw [fup_s]] at e7
  have e1 := aSc_up (σ := σ) (j := j) (h := (hSc (cH σ j), hDm (cH σ j), hDu (cH σ j), hCe (cH σ j), hDy (cH σ j), hSu (cH σ j))) (h' := (hSc (cH σ j) + 1, hDm (cH σ j), hDu (cH σ j), hCe (cH σ j), hDy (cH σ j), fup (hSu (cH σ j)) (hSc (cH σ j)) (b, a))) hj
  have e2 := aDm_eq (σ := σ) (j := j) (h := (hSc (cH σ j), hDm (cH σ j), hDu (cH σ j), hCe (cH σ j), hDy (cH σ j), hSu (cH σ j))) (h' := (hSc (cH σ j) + 1, hDm (cH σ j), hDu (cH σ j), hCe (cH σ j), hDy (cH σ j), fup (hSu (cH σ j)) (hSc (cH σ j)) (b, a))) rfl
  have e3 := aDu_eq (σ := σ) (j := j) (h := (hSc (cH σ j), hDm (cH σ j), hDu (cH σ j), hCe (cH σ j), hDy (cH σ j), hSu (cH σ j))) (h' := (hSc (cH σ j) + 1, hDm (cH σ j), hDu (cH σ j), hCe (cH σ j), hDy (cH σ j), fup (hSu (cH σ j)) (hSc (cH σ j)) (b, a))) rfl
  have e4 := aCe_eq (σ := σ) (j := j) (h := (hSc (cH σ j), hDm (cH σ j), hDu (cH σ j), hCe (cH σ j), hDy (cH σ j), hSu (cH σ j))) (h' := (hSc (cH σ j) + 1, hDm (cH σ j), hDu (cH σ j), hCe (cH σ j), hDy (cH σ j), fup (hSu (cH σ j)) (hSc (cH σ j)) (b, a))) rfl
  have e5 := aDy_eq (σ := σ) (j := j) (h := (hSc (cH σ j), hDm (cH σ j), hDu (cH σ j), hCe (cH σ j), hDy (cH σ j), hSu (cH σ j))) (h' := (hSc (cH σ j) + 1, hDm (cH σ j), hDu (cH σ j), hCe (cH σ j), hDy (cH σ j), fup (hSu (cH σ j)) (hSc (cH σ j)) (b, a))) rfl
  rw [put_wset, put_wset, put_wset]
  congr 1
  funext L
  rcases L with _ | ⟨c, _ | ⟨x, y⟩⟩
  · rw [wset_n (by simp), wset_n (by simp), wset_n (by simp)]; rfl
  · by_cases c1 : c = 1
    · subst c1
      rw [wset_s]
      show _ = some (eI 8 (aSc _))
      rw [e1]
    by_cases c7 : c = 7
    · subst c7
      rw [wset_n (by simp), wset_s]
      show _ = some (eI 48 (aHb _))
      rw [e7]
    by_cases c6 : c = 6
    · subst c6
      rw [wset_n (by simp), wset_n (by simp), wset_s]
      show _ = some (eI 48 (aDs _))
      rw [e6]
    rw [wset_n (by simp [c1]), wset_n (by simp [c7]), wset_n (by simp [c6])]
    simp only [MC, if_neg c1, if_neg c6, if_neg c7, e2, e3, e4, e5]
    rfl
  · simp [wset, MC]
theorem QW_f12 : QW i ad σ th ro lo ma ap o [i, 12] = none := put_s.trans (by simp [MC])
theorem aRu_add {s : StdS} {its : Nat → Int32} (h0 : its 0 = nI s.1) (h1 : its 1 = nI s.2.1) (h2 : its 2 = nI s.2.2.1) (h3 : its 3 = nI s.2.2.2.1) (h4 : its 4 = nI s.2.2.2.2) : va_cpy its (aRu σ) 0 (5 * cK σ) 5 = aRu (addD σ s) := by
  funext x
  show (if 5 * cK σ ≤ x ∧ x < 5 * cK σ + 5 then its (0 + (x - 5 * cK σ)) else if x / 5 < cK σ then nI (stF (cS σ (x / 5)) (x % 5)) else 0) = (if x / 5 < cK σ + 1 then nI (stF (fup (cS σ) (cK σ) s (x / 5)) (x % 5)) else 0)
  by_cases hx : 5 * cK σ ≤ x ∧ x < 5 * cK σ + 5
  · have hq : x / 5 = cK σ := by omega
    rw [if_pos hx, if_pos (by omega), hq, fup_s]
    have hm : x % 5 = 0 ∨ x % 5 = 1 ∨ x % 5 = 2 ∨ x % 5 = 3 ∨ x % 5 = 4 := by omega
    have hm2 : 0 + (x - 5 * cK σ) = x % 5 := by omega
    rw [hm2]
    rcases hm with h | h | h | h | h <;> rw [h] <;> assumption
  · rw [if_neg hx]
    by_cases hq : x / 5 < cK σ
    · rw [if_pos hq, if_pos (by omega), fup_n (by omega)]
    · rw [if_neg hq, if_neg (by omega)]
theorem QW_addD {s : StdS} : wset (wset (QW i ad σ th ro lo ma ap o) [i, 8] (eI 25 (aRu (addD σ s)))) [i] (eMod i ad th (cN σ) (cK σ + 1) (cDay σ) (cIns σ) ro) = QW i ad (addD σ s) th ro lo ma ap o := by
  rw [put_wset, put_wset]
  congr 1
  funext L
  rcases L with _ | ⟨c, _ | ⟨x, y⟩⟩
  · rw [wset_s]; rfl
  · by_cases c8 : c = 8
    · subst c8
      rw [wset_n (by simp), wset_s]
      rfl
    rw [wset_n (by simp), wset_n (by simp [c8])]
    simp only [MC, if_neg c8]
    rfl
  · simp [wset, MC]
end Q23
set_option maxHeartbeats 4000000 in
theorem m_addHall {l : Launch} {D : va_G} {ba d : Nat} {ad : Adr} (hl : l.stackTraces = false) (hd : 4 ≤ d) {i : Nat} {σ : CS} {th ro : Int32} {lo ma ap : Nat → Int32} {o : Wd} (hσ : cOK σ) {v : Nat} (hv : v ≤ 90) (hin : ¬ inR (nI v) (nI 0) (nI 90) = 0) (h8 : cN σ < 8)  : CT l yX7_addHall (wsO yX7_addHall cX7_addHall 2 (some .int)) d 8 64 D ba [.ref (ad [i]), .int (nI v)] ad (QW i ad σ th ro lo ma ap o) (RQ i ad (addH σ v) o (nI 0) (some (.int (nI (cN σ))))) noX := by
  refine CT_of RX7 rfl (by decide +kernel) hl (Nat.le_of_ble_eq_true rfl) ?_
  intro p e s m args below meth c C hr hnm
  refine V_lvE (lv' := [(0, .ref (ad [i])), (1, .int (nI v))]) rfl ?_
  have hσ1 := hσ.1
  have hσ2 := hσ.2.1
  refine V_aload_n C dX7_addHall_0 0 rfl ?_
  refine V_iconst (v := nI 0) C dX7_addHall_1 (by decide) ?_
  refine V_put (ci := 6) (k := 0) C dX7_addHall_2 RX7 RX7 TX7 17 tyX7 tyX7_ok nmX7 fw_X7 rfl (by decide) tw_668 rfl (Or.inl rfl) rfl rfl rfl QW_o (Nat.le_of_ble_eq_true rfl) ?_
  refine V_wd (w' := wset (QW i ad σ th ro lo ma ap o) ([i]) (.inr (6, [.int (nI 0), .int (nI (cN σ)), .int (nI (cK σ)), .int (cDay σ), .int (cIns σ), .ref (ad [i, 1]), .ref (ad [i, 2]), .ref (ad [i, 3]), .ref (ad [i, 4]), .ref (ad [i, 5]), .ref (ad [i, 6]), .ref (ad [i, 7]), .ref (ad [i, 8]), .ref (ad [i, 9]), .ref (ad [i, 10]), .ref (ad [i, 11]), .int ro]))) rfl ?_
  refine V_wd (w' := QW i ad σ (nI 0) ro lo ma ap o) QW_th ?_
  refine V_iload_n C dX7_addHall_5 1 rfl ?_
  refine V_iconst (v := nI 0) C dX7_addHall_6 (by decide) ?_
  refine V_bipush (v := nI 90) C dX7_addHall_7 (by decide) ?_
  have hin9 := inR_le (nI v) (nI 0) (nI 90)
  refine V_callS C [.int (nI v), .int (nI 0), .int (nI 90)] dX7_addHall_9 m_X7_isIn k_X7_isIn tw_728 rfl rfl (Nat.le_of_ble_eq_true rfl) ⟨by omega, by omega, by omega, by omega⟩ (m_isIn hl (by omega) (nI v) (nI 0) (nI 90)) (kr_some (x := .int (nI (inR (nI v) (nI 0) (nI 90)))) ?_) kx_no
  refine V_ifn_ne (tgt := 21) C dX7_addHall_12 (by decide) (by omega) (fun hb1 => ?_) (fun hb1 => by exfalso; exact hin hb1)
  refine V_aload_n C dX7_addHall_21 0 rfl ?_
  refine V_get (ci := 6) (k := 1) C dX7_addHall_22 RX7 RX7 TX7 17 fw_X7 rfl (by decide) tw_669 rfl rfl QW_o rfl ?_
  refine V_bipush (v := nI 8) C dX7_addHall_25 (by decide) ?_
  refine V_icmpn_ne (tgt := 36) C dX7_addHall_27 (by decide) (by omega) (by decide) (fun hb2 => ?_) (fun hb2 => by exfalso; omega)
  refine V_aload_n C dX7_addHall_36 0 rfl ?_
  refine V_get (ci := 6) (k := 6) C dX7_addHall_37 RX7 RX7 TX7 17 fw_X7 rfl (by decide) tw_674 rfl rfl QW_o rfl ?_
  refine V_aload_n C dX7_addHall_40 0 rfl ?_
  refine V_get (ci := 6) (k := 1) C dX7_addHall_41 RX7 RX7 TX7 17 fw_X7 rfl (by decide) tw_669 rfl rfl QW_o rfl ?_
  refine V_iload_n C dX7_addHall_44 1 rfl ?_
  refine V_iastn C dX7_addHall_45 rfl QW_2 (by omega) (by decide) ?_
  refine V_wd (w' := wset (QW i ad σ (nI 0) ro lo ma ap o) ([i, 2]) (eI 8 (upd (aDm σ) (cN σ) (nI v)))) rfl ?_
  refine V_aload_n C dX7_addHall_46 0 rfl ?_
  refine V_get (ci := 6) (k := 8) C dX7_addHall_47 RX7 RX7 TX7 17 fw_X7 rfl (by decide) tw_676 rfl rfl ((wset_n (by simp)).trans QW_o) rfl ?_
  refine V_aload_n C dX7_addHall_50 0 rfl ?_
  refine V_get (ci := 6) (k := 1) C dX7_addHall_51 RX7 RX7 TX7 17 fw_X7 rfl (by decide) tw_669 rfl rfl ((wset_n (by simp)).trans QW_o) rfl ?_
  refine V_iconst (v := -1) C dX7_addHall_54 (by decide) ?_
  refine V_iastn C dX7_addHall_55 rfl ((wset_n (by simp)).trans QW_4) (by omega) (by decide) ?_
  refine V_wd (w' := wset (wset (QW i ad σ (nI 0) ro lo ma ap o) ([i, 2]) (eI 8 (upd (aDm σ) (cN σ) (nI v)))) ([i, 4]) (eI 8 (upd (aCe σ) (cN σ) (-1)))) rfl ?_
  refine V_aload_n C dX7_addHall_56 0 rfl ?_
  refine V_dup C dX7_addHall_57 rfl ?_
  refine V_get (ci := 6) (k := 1) C dX7_addHall_58 RX7 RX7 TX7 17 fw_X7 rfl (by decide) tw_669 rfl rfl ((wset_n (by simp)).trans ((wset_n (by simp)).trans QW_o)) rfl ?_
  refine V_iconst (v := nI 1) C dX7_addHall_61 (by decide) ?_
  refine V_iaddn C dX7_addHall_62 ?_
  refine V_put (ci := 6) (k := 1) C dX7_addHall_63 RX7 RX7 TX7 17 tyX7 tyX7_ok nmX7 fw_X7 rfl (by decide) tw_669 rfl (Or.inl rfl) rfl rfl rfl ((wset_n (by simp)).trans ((wset_n (by simp)).trans QW_o)) (Nat.le_of_ble_eq_true rfl) ?_
  refine V_wd (w' := wset (wset (wset (QW i ad σ (nI 0) ro lo ma ap o) ([i, 2]) (eI 8 (upd (aDm σ) (cN σ) (nI v)))) ([i, 4]) (eI 8 (upd (aCe σ) (cN σ) (-1)))) ([i]) (.inr (6, [.int (nI 0), .int (nI ((cN σ) + 1)), .int (nI (cK σ)), .int (cDay σ), .int (cIns σ), .ref (ad [i, 1]), .ref (ad [i, 2]), .ref (ad [i, 3]), .ref (ad [i, 4]), .ref (ad [i, 5]), .ref (ad [i, 6]), .ref (ad [i, 7]), .ref (ad [i, 8]), .ref (ad [i, 9]), .ref (ad [i, 10]), .ref (ad [i, 11]), .int ro]))) rfl ?_
  refine V_wd (w' := QW i ad (addH σ v) (nI 0) ro lo ma ap o) QW_addH ?_
  refine V_aload_n C dX7_addHall_66 0 rfl ?_
  refine V_get (ci := 6) (k := 1) C dX7_addHall_67 RX7 RX7 TX7 17 fw_X7 rfl (by decide) tw_669 rfl rfl (QW_o (σ := (addH σ v))) rfl ?_
  refine V_iconst (v := nI 1) C dX7_addHall_70 (by decide) ?_
  refine V_isubn C dX7_addHall_71 (by show 1 ≤ cN σ + 1; omega) ?_
  exact V_iret C .int dX7_addHall_72 hr rfl ⟨by rw [show cN (addH σ v) - 1 = cN σ from rfl], rfl, _, _, _, _, rfl⟩ (by omega) (by omega)
set_option maxHeartbeats 4000000 in
theorem m_addHall_bad {l : Launch} {D : va_G} {ba d : Nat} {ad : Adr} (hl : l.stackTraces = false) (hd : 4 ≤ d) {i : Nat} {σ : CS} {th ro : Int32} {lo ma ap : Nat → Int32} {o : Wd} (hσ : cOK σ) {x : Int32} (hin : inR x (nI 0) (nI 90) = 0)  : CT l yX7_addHall (wsO yX7_addHall cX7_addHall 2 (some .int)) d 8 64 D ba [.ref (ad [i]), .int x] ad (QW i ad σ th ro lo ma ap o) (RQ i ad σ o (nI 1) (some (.int (nI 0)))) noX := by
  refine CT_of RX7 rfl (by decide +kernel) hl (Nat.le_of_ble_eq_true rfl) ?_
  intro p e s m args below meth c C hr hnm
  refine V_lvE (lv' := [(0, .ref (ad [i])), (1, .int x)]) rfl ?_
  have hσ1 := hσ.1
  have hσ2 := hσ.2.1
  refine V_aload_n C dX7_addHall_0 0 rfl ?_
  refine V_iconst (v := nI 0) C dX7_addHall_1 (by decide) ?_
  refine V_put (ci := 6) (k := 0) C dX7_addHall_2 RX7 RX7 TX7 17 tyX7 tyX7_ok nmX7 fw_X7 rfl (by decide) tw_668 rfl (Or.inl rfl) rfl rfl rfl QW_o (Nat.le_of_ble_eq_true rfl) ?_
  refine V_wd (w' := wset (QW i ad σ th ro lo ma ap o) ([i]) (.inr (6, [.int (nI 0), .int (nI (cN σ)), .int (nI (cK σ)), .int (cDay σ), .int (cIns σ), .ref (ad [i, 1]), .ref (ad [i, 2]), .ref (ad [i, 3]), .ref (ad [i, 4]), .ref (ad [i, 5]), .ref (ad [i, 6]), .ref (ad [i, 7]), .ref (ad [i, 8]), .ref (ad [i, 9]), .ref (ad [i, 10]), .ref (ad [i, 11]), .int ro]))) rfl ?_
  refine V_wd (w' := QW i ad σ (nI 0) ro lo ma ap o) QW_th ?_
  refine V_iload_n C dX7_addHall_5 1 rfl ?_
  refine V_iconst (v := nI 0) C dX7_addHall_6 (by decide) ?_
  refine V_bipush (v := nI 90) C dX7_addHall_7 (by decide) ?_
  have hin9 := inR_le x (nI 0) (nI 90)
  refine V_callS C [.int x, .int (nI 0), .int (nI 90)] dX7_addHall_9 m_X7_isIn k_X7_isIn tw_728 rfl rfl (Nat.le_of_ble_eq_true rfl) ⟨by omega, by omega, by omega, by omega⟩ (m_isIn hl (by omega) x (nI 0) (nI 90)) (kr_some (x := .int (nI (inR x (nI 0) (nI 90)))) ?_) kx_no
  rw [show inR x (nI 0) (nI 90) = 0 from hin]
  refine V_ifn_ne (tgt := 21) C dX7_addHall_12 (by decide) (by decide) (fun hb1 => by exfalso; omega) (fun hb1 => ?_)
  refine V_aload_n C dX7_addHall_15 0 rfl ?_
  refine V_iconst (v := nI 1) C dX7_addHall_16 (by decide) ?_
  refine V_callV (r := (RX7, TX7, 17)) C [.int (nI 1)] dX7_addHall_17 m_X7_fail k_X7_fail tw_731 rfl rfl rfl QW_o rfl rfl (Nat.le_of_ble_eq_true rfl) ⟨by omega, by omega, by omega, by omega⟩ (m_fail hl (by omega) (nI 1)) (kr_some (x := .int (nI 0)) ?_) kx_no
  exact V_iret C .int dX7_addHall_20 hr rfl ⟨rfl, rfl, _, _, _, _, rfl⟩ (by omega) (by omega)
set_option maxHeartbeats 4000000 in
theorem m_addHall_full {l : Launch} {D : va_G} {ba d : Nat} {ad : Adr} (hl : l.stackTraces = false) (hd : 4 ≤ d) {i : Nat} {σ : CS} {th ro : Int32} {lo ma ap : Nat → Int32} {o : Wd} (hσ : cOK σ) {x : Int32} (hin : ¬ inR x (nI 0) (nI 90) = 0) (h8 : cN σ = 8)  : CT l yX7_addHall (wsO yX7_addHall cX7_addHall 2 (some .int)) d 8 64 D ba [.ref (ad [i]), .int x] ad (QW i ad σ th ro lo ma ap o) (RQ i ad σ o (nI 2) (some (.int (nI 0)))) noX := by
  refine CT_of RX7 rfl (by decide +kernel) hl (Nat.le_of_ble_eq_true rfl) ?_
  intro p e s m args below meth c C hr hnm
  refine V_lvE (lv' := [(0, .ref (ad [i])), (1, .int x)]) rfl ?_
  have hσ1 := hσ.1
  have hσ2 := hσ.2.1
  refine V_aload_n C dX7_addHall_0 0 rfl ?_
  refine V_iconst (v := nI 0) C dX7_addHall_1 (by decide) ?_
  refine V_put (ci := 6) (k := 0) C dX7_addHall_2 RX7 RX7 TX7 17 tyX7 tyX7_ok nmX7 fw_X7 rfl (by decide) tw_668 rfl (Or.inl rfl) rfl rfl rfl QW_o (Nat.le_of_ble_eq_true rfl) ?_
  refine V_wd (w' := wset (QW i ad σ th ro lo ma ap o) ([i]) (.inr (6, [.int (nI 0), .int (nI (cN σ)), .int (nI (cK σ)), .int (cDay σ), .int (cIns σ), .ref (ad [i, 1]), .ref (ad [i, 2]), .ref (ad [i, 3]), .ref (ad [i, 4]), .ref (ad [i, 5]), .ref (ad [i, 6]), .ref (ad [i, 7]), .ref (ad [i, 8]), .ref (ad [i, 9]), .ref (ad [i, 10]), .ref (ad [i, 11]), .int ro]))) rfl ?_
  refine V_wd (w' := QW i ad σ (nI 0) ro lo ma ap o) QW_th ?_
  refine V_iload_n C dX7_addHall_5 1 rfl ?_
  refine V_iconst (v := nI 0) C dX7_addHall_6 (by decide) ?_
  refine V_bipush (v := nI 90) C dX7_addHall_7 (by decide) ?_
  have hin9 := inR_le x (nI 0) (nI 90)
  refine V_callS C [.int x, .int (nI 0), .int (nI 90)] dX7_addHall_9 m_X7_isIn k_X7_isIn tw_728 rfl rfl (Nat.le_of_ble_eq_true rfl) ⟨by omega, by omega, by omega, by omega⟩ (m_isIn hl (by omega) x (nI 0) (nI 90)) (kr_some (x := .int (nI (inR x (nI 0) (nI 90)))) ?_) kx_no
  refine V_ifn_ne (tgt := 21) C dX7_addHall_12 (by decide) (by omega) (fun hb1 => ?_) (fun hb1 => by exfalso; exact hin hb1)
  refine V_aload_n C dX7_addHall_21 0 rfl ?_
  refine V_get (ci := 6) (k := 1) C dX7_addHall_22 RX7 RX7 TX7 17 fw_X7 rfl (by decide) tw_669 rfl rfl QW_o rfl ?_
  refine V_bipush (v := nI 8) C dX7_addHall_25 (by decide) ?_
  refine V_icmpn_ne (tgt := 36) C dX7_addHall_27 (by decide) (by omega) (by decide) (fun hb2 => by exfalso; omega) (fun hb2 => ?_)
  refine V_aload_n C dX7_addHall_30 0 rfl ?_
  refine V_iconst (v := nI 2) C dX7_addHall_31 (by decide) ?_
  refine V_callV (r := (RX7, TX7, 17)) C [.int (nI 2)] dX7_addHall_32 m_X7_fail k_X7_fail tw_731 rfl rfl rfl QW_o rfl rfl (Nat.le_of_ble_eq_true rfl) ⟨by omega, by omega, by omega, by omega⟩ (m_fail hl (by omega) (nI 2)) (kr_some (x := .int (nI 0)) ?_) kx_no
  exact V_iret C .int dX7_addHall_35 hr rfl ⟨rfl, rfl, _, _, _, _, rfl⟩ (by omega) (by omega)
set_option maxHeartbeats 4000000 in
theorem m_addSurface {l : Launch} {D : va_G} {ba d : Nat} {ad : Adr} (hl : l.stackTraces = false) (hd : 4 ≤ d) {i : Nat} {σ : CS} {th ro : Int32} {lo ma ap : Nat → Int32} {o : Wd} (hσ : cOK σ) {j : Nat} (hj : j < cN σ) {a b : Nat} (ha : a ≤ 60) (hb : b ≤ 99) (hin1 : ¬ inR (nI a) (nI 1) (nI 60) = 0) (hin2 : ¬ inR (nI b) (nI 0) (nI 99) = 0) (h6 : hSc (cH σ j) < 6)  : CT l yX7_addSurface (wsO yX7_addSurface cX7_addSurface 4 (some .int)) d 8 64 D ba [.ref (ad [i]), .int (nI j), .int (nI a), .int (nI b)] ad (QW i ad σ th ro lo ma ap o) (RQ i ad (setH σ j (hSc (cH σ j) + 1, hDm (cH σ j), hDu (cH σ j), -1, 0, fup (hSu (cH σ j)) (hSc (cH σ j)) (b, a))) o (nI 0) (some (.int (nI (hSc (cH σ j)))))) noX := by
  refine CT_of RX7 rfl (by decide +kernel) hl (Nat.le_of_ble_eq_true rfl) ?_
  intro p e s m args below meth c C hr hnm
  refine V_lvE (lv' := [(0, .ref (ad [i])), (1, .int (nI j)), (2, .int (nI a)), (3, .int (nI b))]) rfl ?_
  have hσ1 := hσ.1
  have hσ2 := hσ.2.1
  have hu := hσ.2.2.1 j hj
  have hu1 := hu.1
  have hu2 := hu.2.1
  have hu3 := hu.2.2.1
  have hu4 := hu.2.2.2.1
  refine V_aload_n C dX7_addSurface_0 0 rfl ?_
  refine V_iconst (v := nI 0) C dX7_addSurface_1 (by decide) ?_
  refine V_put (ci := 6) (k := 0) C dX7_addSurface_2 RX7 RX7 TX7 17 tyX7 tyX7_ok nmX7 fw_X7 rfl (by decide) tw_668 rfl (Or.inl rfl) rfl rfl rfl QW_o (Nat.le_of_ble_eq_true rfl) ?_
  refine V_wd (w' := wset (QW i ad σ th ro lo ma ap o) ([i]) (.inr (6, [.int (nI 0), .int (nI (cN σ)), .int (nI (cK σ)), .int (cDay σ), .int (cIns σ), .ref (ad [i, 1]), .ref (ad [i, 2]), .ref (ad [i, 3]), .ref (ad [i, 4]), .ref (ad [i, 5]), .ref (ad [i, 6]), .ref (ad [i, 7]), .ref (ad [i, 8]), .ref (ad [i, 9]), .ref (ad [i, 10]), .ref (ad [i, 11]), .int ro]))) rfl ?_
  refine V_wd (w' := QW i ad σ (nI 0) ro lo ma ap o) QW_th ?_
  refine V_aload_n C dX7_addSurface_5 0 rfl ?_
  refine V_iload_n C dX7_addSurface_6 1 rfl ?_
  refine V_callV (r := (RX7, TX7, 17)) C [.int (nI j)] dX7_addSurface_7 m_X7_isHall k_X7_isHall tw_739 rfl rfl rfl QW_o rfl rfl (Nat.le_of_ble_eq_true rfl) ⟨by omega, by omega, by omega, by omega⟩ (m_isHall hl (by omega) hσ hj) (kr_some (x := .int (nI 1)) ?_) kx_no
  refine V_ifn_ne (tgt := 19) C dX7_addSurface_10 (by decide) (by decide) (fun hb1 => ?_) (fun hb1 => by exfalso; omega)
  refine V_iload_n C dX7_addSurface_19 2 rfl ?_
  refine V_iconst (v := nI 1) C dX7_addSurface_20 (by decide) ?_
  refine V_bipush (v := nI 60) C dX7_addSurface_21 (by decide) ?_
  have hin23 := inR_le (nI a) (nI 1) (nI 60)
  refine V_callS C [.int (nI a), .int (nI 1), .int (nI 60)] dX7_addSurface_23 m_X7_isIn k_X7_isIn tw_728 rfl rfl (Nat.le_of_ble_eq_true rfl) ⟨by omega, by omega, by omega, by omega⟩ (m_isIn hl (by omega) (nI a) (nI 1) (nI 60)) (kr_some (x := .int (nI (inR (nI a) (nI 1) (nI 60)))) ?_) kx_no
  refine V_ifn_eq (tgt := 39) C dX7_addSurface_26 (by decide) (by omega) (fun hb2 => by exfalso; exact hin1 hb2) (fun hb2 => ?_)
  refine V_iload_n C dX7_addSurface_29 3 rfl ?_
  refine V_iconst (v := nI 0) C dX7_addSurface_30 (by decide) ?_
  refine V_bipush (v := nI 99) C dX7_addSurface_31 (by decide) ?_
  have hin33 := inR_le (nI b) (nI 0) (nI 99)
  refine V_callS C [.int (nI b), .int (nI 0), .int (nI 99)] dX7_addSurface_33 m_X7_isIn k_X7_isIn tw_728 rfl rfl (Nat.le_of_ble_eq_true rfl) ⟨by omega, by omega, by omega, by omega⟩ (m_isIn hl (by omega) (nI b) (nI 0) (nI 99)) (kr_some (x := .int (nI (inR (nI b) (nI 0) (nI 99)))) ?_) kx_no
  refine V_ifn_ne (tgt := 45) C dX7_addSurface_36 (by decide) (by omega) (fun hb3 => ?_) (fun hb3 => by exfalso; exact hin2 hb3)
  refine V_wd (w' := QW i ad (setH σ j (hSc (cH σ j), hDm (cH σ j), hDu (cH σ j), hCe (cH σ j), hDy (cH σ j), hSu (cH σ j))) (nI 0) ro lo ma ap o) (by rw [setH_id]) ?_
  refine V_aload_n C dX7_addSurface_45 0 rfl ?_
  refine V_get (ci := 6) (k := 5) C dX7_addSurface_46 RX7 RX7 TX7 17 fw_X7 rfl (by decide) tw_673 rfl rfl (QW_o (σ := (setH σ j (hSc (cH σ j), hDm (cH σ j), hDu (cH σ j), hCe (cH σ j), hDy (cH σ j), hSu (cH σ j))))) rfl ?_
  refine V_iload_n C dX7_addSurface_49 1 rfl ?_
  refine V_ialdn (v := (nI (hSc (cH σ j)))) C dX7_addSurface_50 rfl (QW_1 (σ := (setH σ j (hSc (cH σ j), hDm (cH σ j), hDu (cH σ j), hCe (cH σ j), hDy (cH σ j), hSu (cH σ j))))) (by omega) (by decide) (rdh_Sc hj) ?_
  refine V_bipush (v := nI 6) C dX7_addSurface_51 (by decide) ?_
  refine V_icmpn_ne (tgt := 62) C dX7_addSurface_53 (by decide) (by omega) (by decide) (fun hb4 => ?_) (fun hb4 => by exfalso; omega)
  refine V_aload_n C dX7_addSurface_62 0 rfl ?_
  refine V_get (ci := 6) (k := 10) C dX7_addSurface_63 RX7 RX7 TX7 17 fw_X7 rfl (by decide) tw_678 rfl rfl (QW_o (σ := (setH σ j (hSc (cH σ j), hDm (cH σ j), hDu (cH σ j), hCe (cH σ j), hDy (cH σ j), hSu (cH σ j))))) rfl ?_
  refine V_bipush (v := nI 6) C dX7_addSurface_66 (by decide) ?_
  refine V_iload_n C dX7_addSurface_68 1 rfl ?_
  refine V_imuln C dX7_addSurface_69 ?_
  refine V_aload_n C dX7_addSurface_70 0 rfl ?_
  refine V_get (ci := 6) (k := 5) C dX7_addSurface_71 RX7 RX7 TX7 17 fw_X7 rfl (by decide) tw_673 rfl rfl (QW_o (σ := (setH σ j (hSc (cH σ j), hDm (cH σ j), hDu (cH σ j), hCe (cH σ j), hDy (cH σ j), hSu (cH σ j))))) rfl ?_
  refine V_iload_n C dX7_addSurface_74 1 rfl ?_
  refine V_ialdn (v := (nI (hSc (cH σ j)))) C dX7_addSurface_75 rfl (QW_1 (σ := (setH σ j (hSc (cH σ j), hDm (cH σ j), hDu (cH σ j), hCe (cH σ j), hDy (cH σ j), hSu (cH σ j))))) (by omega) (by decide) (rdh_Sc hj) ?_
  refine V_iaddn C dX7_addSurface_76 ?_
  refine V_iload_n C dX7_addSurface_77 2 rfl ?_
  refine V_iastn C dX7_addSurface_78 rfl (QW_6 (σ := (setH σ j (hSc (cH σ j), hDm (cH σ j), hDu (cH σ j), hCe (cH σ j), hDy (cH σ j), hSu (cH σ j))))) (by omega) (by decide) ?_
  refine V_wd (w' := wset (QW i ad (setH σ j (hSc (cH σ j), hDm (cH σ j), hDu (cH σ j), hCe (cH σ j), hDy (cH σ j), hSu (cH σ j))) (nI 0) ro lo ma ap o) ([i, 6]) (eI 48 (upd (aDs (setH σ j (hSc (cH σ j), hDm (cH σ j), hDu (cH σ j), hCe (cH σ j), hDy (cH σ j), hSu (cH σ j)))) ((6 * j) + (hSc (cH σ j))) (nI a)))) rfl ?_
  refine V_aload_n C dX7_addSurface_79 0 rfl ?_
  refine V_get (ci := 6) (k := 11) C dX7_addSurface_80 RX7 RX7 TX7 17 fw_X7 rfl (by decide) tw_679 rfl rfl ((wset_n (by simp)).trans (QW_o (σ := (setH σ j (hSc (cH σ j), hDm (cH σ j), hDu (cH σ j), hCe (cH σ j), hDy (cH σ j), hSu (cH σ j)))))) rfl ?_
  refine V_bipush (v := nI 6) C dX7_addSurface_83 (by decide) ?_
  refine V_iload_n C dX7_addSurface_85 1 rfl ?_
  refine V_imuln C dX7_addSurface_86 ?_
  refine V_aload_n C dX7_addSurface_87 0 rfl ?_
  refine V_get (ci := 6) (k := 5) C dX7_addSurface_88 RX7 RX7 TX7 17 fw_X7 rfl (by decide) tw_673 rfl rfl ((wset_n (by simp)).trans (QW_o (σ := (setH σ j (hSc (cH σ j), hDm (cH σ j), hDu (cH σ j), hCe (cH σ j), hDy (cH σ j), hSu (cH σ j)))))) rfl ?_
  refine V_iload_n C dX7_addSurface_91 1 rfl ?_
  refine V_ialdn (v := (nI (hSc (cH σ j)))) C dX7_addSurface_92 rfl ((wset_n (by simp)).trans (QW_1 (σ := (setH σ j (hSc (cH σ j), hDm (cH σ j), hDu (cH σ j), hCe (cH σ j), hDy (cH σ j), hSu (cH σ j)))))) (by omega) (by decide) (rdh_Sc hj) ?_
  refine V_iaddn C dX7_addSurface_93 ?_
  refine V_iload_n C dX7_addSurface_94 3 rfl ?_
  refine V_iastn C dX7_addSurface_95 rfl ((wset_n (by simp)).trans (QW_7 (σ := (setH σ j (hSc (cH σ j), hDm (cH σ j), hDu (cH σ j), hCe (cH σ j), hDy (cH σ j), hSu (cH σ j)))))) (by omega) (by decide) ?_
  refine V_wd (w' := wset (wset (QW i ad (setH σ j (hSc (cH σ j), hDm (cH σ j), hDu (cH σ j), hCe (cH σ j), hDy (cH σ j), hSu (cH σ j))) (nI 0) ro lo ma ap o) ([i, 6]) (eI 48 (upd (aDs (setH σ j (hSc (cH σ j), hDm (cH σ j), hDu (cH σ j), hCe (cH σ j), hDy (cH σ j), hSu (cH σ j)))) ((6 * j) + (hSc (cH σ j))) (nI a)))) ([i, 7]) (eI 48 (upd (aHb (setH σ j (hSc (cH σ j), hDm (cH σ j), hDu (cH σ j), hCe (cH σ j), hDy (cH σ j), hSu (cH σ j)))) ((6 * j) + (hSc (cH σ j))) (nI b)))) rfl ?_
  refine V_aload_n C dX7_addSurface_96 0 rfl ?_
  refine V_get (ci := 6) (k := 5) C dX7_addSurface_97 RX7 RX7 TX7 17 fw_X7 rfl (by decide) tw_673 rfl rfl ((wset_n (by simp)).trans ((wset_n (by simp)).trans (QW_o (σ := (setH σ j (hSc (cH σ j), hDm (cH σ j), hDu (cH σ j), hCe (cH σ j), hDy (cH σ j), hSu (cH σ j))))))) rfl ?_
  refine V_iload_n C dX7_addSurface_100 1 rfl ?_
  refine V_dup2 C dX7_addSurface_101 rfl rfl ?_
  refine V_ialdn (v := (nI (hSc (cH σ j)))) C dX7_addSurface_102 rfl ((wset_n (by simp)).trans ((wset_n (by simp)).trans (QW_1 (σ := (setH σ j (hSc (cH σ j), hDm (cH σ j), hDu (cH σ j), hCe (cH σ j), hDy (cH σ j), hSu (cH σ j))))))) (by omega) (by decide) (rdh_Sc hj) ?_
  refine V_iconst (v := nI 1) C dX7_addSurface_103 (by decide) ?_
  refine V_iaddn C dX7_addSurface_104 ?_
  refine V_iastn C dX7_addSurface_105 rfl ((wset_n (by simp)).trans ((wset_n (by simp)).trans (QW_1 (σ := (setH σ j (hSc (cH σ j), hDm (cH σ j), hDu (cH σ j), hCe (cH σ j), hDy (cH σ j), hSu (cH σ j))))))) (by omega) (by decide) ?_
  refine V_wd (w' := wset (wset (wset (QW i ad (setH σ j (hSc (cH σ j), hDm (cH σ j), hDu (cH σ j), hCe (cH σ j), hDy (cH σ j), hSu (cH σ j))) (nI 0) ro lo ma ap o) ([i, 6]) (eI 48 (upd (aDs (setH σ j (hSc (cH σ j), hDm (cH σ j), hDu (cH σ j), hCe (cH σ j), hDy (cH σ j), hSu (cH σ j)))) ((6 * j) + (hSc (cH σ j))) (nI a)))) ([i, 7]) (eI 48 (upd (aHb (setH σ j (hSc (cH σ j), hDm (cH σ j), hDu (cH σ j), hCe (cH σ j), hDy (cH σ j), hSu (cH σ j)))) ((6 * j) + (hSc (cH σ j))) (nI b)))) ([i, 1]) (eI 8 (upd (aSc (setH σ j (hSc (cH σ j), hDm (cH σ j), hDu (cH σ j), hCe (cH σ j), hDy (cH σ j), hSu (cH σ j)))) j (nI ((hSc (cH σ j)) + 1))))) rfl ?_
  refine V_wd (w' := QW i ad (setH σ j (hSc (cH σ j) + 1, hDm (cH σ j), hDu (cH σ j), hCe (cH σ j), hDy (cH σ j), fup (hSu (cH σ j)) (hSc (cH σ j)) (b, a))) (nI 0) ro lo ma ap o) (QW_addS hj h6) ?_
  refine V_aload_n C dX7_addSurface_106 0 rfl ?_
  refine V_iload_n C dX7_addSurface_107 1 rfl ?_
  refine V_callV (r := (RX7, TX7, 17)) C [.int (nI j)] dX7_addSurface_108 m_X7_strike k_X7_strike tw_743 rfl rfl rfl (QW_o (σ := (setH σ j (hSc (cH σ j) + 1, hDm (cH σ j), hDu (cH σ j), hCe (cH σ j), hDy (cH σ j), fup (hSu (cH σ j)) (hSc (cH σ j)) (b, a))))) rfl rfl (Nat.le_of_ble_eq_true rfl) ⟨by omega, by omega, by omega, by omega⟩ (m_strike hl (by omega) hσ hj) (kr_none ?_) kx_no
  refine V_aload_n C dX7_addSurface_111 0 rfl ?_
  refine V_get (ci := 6) (k := 5) C dX7_addSurface_112 RX7 RX7 TX7 17 fw_X7 rfl (by decide) tw_673 rfl rfl (QW_o (σ := (setH σ j (hSc (cH σ j) + 1, hDm (cH σ j), hDu (cH σ j), -1, 0, fup (hSu (cH σ j)) (hSc (cH σ j)) (b, a))))) rfl ?_
  refine V_iload_n C dX7_addSurface_115 1 rfl ?_
  refine V_ialdn (v := (nI (hSc (cH σ j) + 1))) C dX7_addSurface_116 rfl (QW_1 (σ := (setH σ j (hSc (cH σ j) + 1, hDm (cH σ j), hDu (cH σ j), -1, 0, fup (hSu (cH σ j)) (hSc (cH σ j)) (b, a))))) (by omega) (by decide) (rdh_Sc hj) ?_
  refine V_iconst (v := nI 1) C dX7_addSurface_117 (by decide) ?_
  refine V_isubn C dX7_addSurface_118 (by omega) ?_
  exact V_iret C .int dX7_addSurface_119 hr rfl ⟨by rw [Nat.add_sub_cancel], rfl, _, _, _, _, rfl⟩ (by omega) (by omega)
set_option maxHeartbeats 4000000 in
theorem m_addSurface_no {l : Launch} {D : va_G} {ba d : Nat} {ad : Adr} (hl : l.stackTraces = false) (hd : 4 ≤ d) {i : Nat} {σ : CS} {th ro : Int32} {lo ma ap : Nat → Int32} {o : Wd} (hσ : cOK σ) {x : Int32} (hx : ∀ j, j < cN σ → x ≠ nI j) (y z : Int32)  : CT l yX7_addSurface (wsO yX7_addSurface cX7_addSurface 4 (some .int)) d 8 64 D ba [.ref (ad [i]), .int x, .int y, .int z] ad (QW i ad σ th ro lo ma ap o) (RQ i ad σ o (nI 1) (some (.int (nI 0)))) noX := by
  refine CT_of RX7 rfl (by decide +kernel) hl (Nat.le_of_ble_eq_true rfl) ?_
  intro p e s m args below meth c C hr hnm
  refine V_lvE (lv' := [(0, .ref (ad [i])), (1, .int x), (2, .int y), (3, .int z)]) rfl ?_
  have hσ1 := hσ.1
  have hσ2 := hσ.2.1
  refine V_aload_n C dX7_addSurface_0 0 rfl ?_
  refine V_iconst (v := nI 0) C dX7_addSurface_1 (by decide) ?_
  refine V_put (ci := 6) (k := 0) C dX7_addSurface_2 RX7 RX7 TX7 17 tyX7 tyX7_ok nmX7 fw_X7 rfl (by decide) tw_668 rfl (Or.inl rfl) rfl rfl rfl QW_o (Nat.le_of_ble_eq_true rfl) ?_
  refine V_wd (w' := wset (QW i ad σ th ro lo ma ap o) ([i]) (.inr (6, [.int (nI 0), .int (nI (cN σ)), .int (nI (cK σ)), .int (cDay σ), .int (cIns σ), .ref (ad [i, 1]), .ref (ad [i, 2]), .ref (ad [i, 3]), .ref (ad [i, 4]), .ref (ad [i, 5]), .ref (ad [i, 6]), .ref (ad [i, 7]), .ref (ad [i, 8]), .ref (ad [i, 9]), .ref (ad [i, 10]), .ref (ad [i, 11]), .int ro]))) rfl ?_
  refine V_wd (w' := QW i ad σ (nI 0) ro lo ma ap o) QW_th ?_
  refine V_aload_n C dX7_addSurface_5 0 rfl ?_
  refine V_iload_n C dX7_addSurface_6 1 rfl ?_
  refine V_callV (r := (RX7, TX7, 17)) C [.int x] dX7_addSurface_7 m_X7_isHall k_X7_isHall tw_739 rfl rfl rfl QW_o rfl rfl (Nat.le_of_ble_eq_true rfl) ⟨by omega, by omega, by omega, by omega⟩ (m_isHall_no hl (by omega) hσ hx) (kr_some (x := .int (nI 0)) ?_) kx_no
  refine V_ifn_ne (tgt := 19) C dX7_addSurface_10 (by decide) (by decide) (fun hb1 => by exfalso; omega) (fun hb1 => ?_)
  refine V_aload_n C dX7_addSurface_13 0 rfl ?_
  refine V_iconst (v := nI 1) C dX7_addSurface_14 (by decide) ?_
  refine V_callV (r := (RX7, TX7, 17)) C [.int (nI 1)] dX7_addSurface_15 m_X7_fail k_X7_fail tw_731 rfl rfl rfl QW_o rfl rfl (Nat.le_of_ble_eq_true rfl) ⟨by omega, by omega, by omega, by omega⟩ (m_fail hl (by omega) (nI 1)) (kr_some (x := .int (nI 0)) ?_) kx_no
  exact V_iret C .int dX7_addSurface_18 hr rfl ⟨rfl, rfl, _, _, _, _, rfl⟩ (by omega) (by omega)
set_option maxHeartbeats 4000000 in
theorem m_addSurface_bad {l : Launch} {D : va_G} {ba d : Nat} {ad : Adr} (hl : l.stackTraces = false) (hd : 4 ≤ d) {i : Nat} {σ : CS} {th ro : Int32} {lo ma ap : Nat → Int32} {o : Wd} (hσ : cOK σ) {j : Nat} (hj : j < cN σ) {y : Int32} (hin : inR y (nI 1) (nI 60) = 0) (z : Int32)  : CT l yX7_addSurface (wsO yX7_addSurface cX7_addSurface 4 (some .int)) d 8 64 D ba [.ref (ad [i]), .int (nI j), .int y, .int z] ad (QW i ad σ th ro lo ma ap o) (RQ i ad σ o (nI 2) (some (.int (nI 0)))) noX := by
  refine CT_of RX7 rfl (by decide +kernel) hl (Nat.le_of_ble_eq_true rfl) ?_
  intro p e s m args below meth c C hr hnm
  refine V_lvE (lv' := [(0, .ref (ad [i])), (1, .int (nI j)), (2, .int y), (3, .int z)]) rfl ?_
  have hσ1 := hσ.1
  have hσ2 := hσ.2.1
  refine V_aload_n C dX7_addSurface_0 0 rfl ?_
  refine V_iconst (v := nI 0) C dX7_addSurface_1 (by decide) ?_
  refine V_put (ci := 6) (k := 0) C dX7_addSurface_2 RX7 RX7 TX7 17 tyX7 tyX7_ok nmX7 fw_X7 rfl (by decide) tw_668 rfl (Or.inl rfl) rfl rfl rfl QW_o (Nat.le_of_ble_eq_true rfl) ?_
  refine V_wd (w' := wset (QW i ad σ th ro lo ma ap o) ([i]) (.inr (6, [.int (nI 0), .int (nI (cN σ)), .int (nI (cK σ)), .int (cDay σ), .int (cIns σ), .ref (ad [i, 1]), .ref (ad [i, 2]), .ref (ad [i, 3]), .ref (ad [i, 4]), .ref (ad [i, 5]), .ref (ad [i, 6]), .ref (ad [i, 7]), .ref (ad [i, 8]), .ref (ad [i, 9]), .ref (ad [i, 10]), .ref (ad [i, 11]), .int ro]))) rfl ?_
  refine V_wd (w' := QW i ad σ (nI 0) ro lo ma ap o) QW_th ?_
  refine V_aload_n C dX7_addSurface_5 0 rfl ?_
  refine V_iload_n C dX7_addSurface_6 1 rfl ?_
  refine V_callV (r := (RX7, TX7, 17)) C [.int (nI j)] dX7_addSurface_7 m_X7_isHall k_X7_isHall tw_739 rfl rfl rfl QW_o rfl rfl (Nat.le_of_ble_eq_true rfl) ⟨by omega, by omega, by omega, by omega⟩ (m_isHall hl (by omega) hσ hj) (kr_some (x := .int (nI 1)) ?_) kx_no
  refine V_ifn_ne (tgt := 19) C dX7_addSurface_10 (by decide) (by decide) (fun hb1 => ?_) (fun hb1 => by exfalso; omega)
  refine V_iload_n C dX7_addSurface_19 2 rfl ?_
  refine V_iconst (v := nI 1) C dX7_addSurface_20 (by decide) ?_
  refine V_bipush (v := nI 60) C dX7_addSurface_21 (by decide) ?_
  have hin23 := inR_le y (nI 1) (nI 60)
  refine V_callS C [.int y, .int (nI 1), .int (nI 60)] dX7_addSurface_23 m_X7_isIn k_X7_isIn tw_728 rfl rfl (Nat.le_of_ble_eq_true rfl) ⟨by omega, by omega, by omega, by omega⟩ (m_isIn hl (by omega) y (nI 1) (nI 60)) (kr_some (x := .int (nI (inR y (nI 1) (nI 60)))) ?_) kx_no
  rw [show inR y (nI 1) (nI 60) = 0 from hin]
  refine V_ifn_eq (tgt := 39) C dX7_addSurface_26 (by decide) (by decide) (fun hb2 => ?_) (fun hb2 => by exfalso; omega)
  refine V_aload_n C dX7_addSurface_39 0 rfl ?_
  refine V_iconst (v := nI 2) C dX7_addSurface_40 (by decide) ?_
  refine V_callV (r := (RX7, TX7, 17)) C [.int (nI 2)] dX7_addSurface_41 m_X7_fail k_X7_fail tw_731 rfl rfl rfl QW_o rfl rfl (Nat.le_of_ble_eq_true rfl) ⟨by omega, by omega, by omega, by omega⟩ (m_fail hl (by omega) (nI 2)) (kr_some (x := .int (nI 0)) ?_) kx_no
  exact V_iret C .int dX7_addSurface_44 hr rfl ⟨rfl, rfl, _, _, _, _, rfl⟩ (by omega) (by omega)
set_option maxHeartbeats 4000000 in
theorem m_addSurface_bad2 {l : Launch} {D : va_G} {ba d : Nat} {ad : Adr} (hl : l.stackTraces = false) (hd : 4 ≤ d) {i : Nat} {σ : CS} {th ro : Int32} {lo ma ap : Nat → Int32} {o : Wd} (hσ : cOK σ) {j : Nat} (hj : j < cN σ) {y z : Int32} (hin : ¬ inR y (nI 1) (nI 60) = 0) (hin2 : inR z (nI 0) (nI 99) = 0)  : CT l yX7_addSurface (wsO yX7_addSurface cX7_addSurface 4 (some .int)) d 8 64 D ba [.ref (ad [i]), .int (nI j), .int y, .int z] ad (QW i ad σ th ro lo ma ap o) (RQ i ad σ o (nI 2) (some (.int (nI 0)))) noX := by
  refine CT_of RX7 rfl (by decide +kernel) hl (Nat.le_of_ble_eq_true rfl) ?_
  intro p e s m args below meth c C hr hnm
  refine V_lvE (lv' := [(0, .ref (ad [i])), (1, .int (nI j)), (2, .int y), (3, .int z)]) rfl ?_
  have hσ1 := hσ.1
  have hσ2 := hσ.2.1
  refine V_aload_n C dX7_addSurface_0 0 rfl ?_
  refine V_iconst (v := nI 0) C dX7_addSurface_1 (by decide) ?_
  refine V_put (ci := 6) (k := 0) C dX7_addSurface_2 RX7 RX7 TX7 17 tyX7 tyX7_ok nmX7 fw_X7 rfl (by decide) tw_668 rfl (Or.inl rfl) rfl rfl rfl QW_o (Nat.le_of_ble_eq_true rfl) ?_
  refine V_wd (w' := wset (QW i ad σ th ro lo ma ap o) ([i]) (.inr (6, [.int (nI 0), .int (nI (cN σ)), .int (nI (cK σ)), .int (cDay σ), .int (cIns σ), .ref (ad [i, 1]), .ref (ad [i, 2]), .ref (ad [i, 3]), .ref (ad [i, 4]), .ref (ad [i, 5]), .ref (ad [i, 6]), .ref (ad [i, 7]), .ref (ad [i, 8]), .ref (ad [i, 9]), .ref (ad [i, 10]), .ref (ad [i, 11]), .int ro]))) rfl ?_
  refine V_wd (w' := QW i ad σ (nI 0) ro lo ma ap o) QW_th ?_
  refine V_aload_n C dX7_addSurface_5 0 rfl ?_
  refine V_iload_n C dX7_addSurface_6 1 rfl ?_
  refine V_callV (r := (RX7, TX7, 17)) C [.int (nI j)] dX7_addSurface_7 m_X7_isHall k_X7_isHall tw_739 rfl rfl rfl QW_o rfl rfl (Nat.le_of_ble_eq_true rfl) ⟨by omega, by omega, by omega, by omega⟩ (m_isHall hl (by omega) hσ hj) (kr_some (x := .int (nI 1)) ?_) kx_no
  refine V_ifn_ne (tgt := 19) C dX7_addSurface_10 (by decide) (by decide) (fun hb1 => ?_) (fun hb1 => by exfalso; omega)
  refine V_iload_n C dX7_addSurface_19 2 rfl ?_
  refine V_iconst (v := nI 1) C dX7_addSurface_20 (by decide) ?_
  refine V_bipush (v := nI 60) C dX7_addSurface_21 (by decide) ?_
  have hin23 := inR_le y (nI 1) (nI 60)
  refine V_callS C [.int y, .int (nI 1), .int (nI 60)] dX7_addSurface_23 m_X7_isIn k_X7_isIn tw_728 rfl rfl (Nat.le_of_ble_eq_true rfl) ⟨by omega, by omega, by omega, by omega⟩ (m_isIn hl (by omega) y (nI 1) (nI 60)) (kr_some (x := .int (nI (inR y (nI 1) (nI 60)))) ?_) kx_no
  refine V_ifn_eq (tgt := 39) C dX7_addSurface_26 (by decide) (by omega) (fun hb2 => by exfalso; exact hin hb2) (fun hb2 => ?_)
  refine V_iload_n C dX7_addSurface_29 3 rfl ?_
  refine V_iconst (v := nI 0) C dX7_addSurface_30 (by decide) ?_
  refine V_bipush (v := nI 99) C dX7_addSurface_31 (by decide) ?_
  have hin33 := inR_le z (nI 0) (nI 99)
  refine V_callS C [.int z, .int (nI 0), .int (nI 99)] dX7_addSurface_33 m_X7_isIn k_X7_isIn tw_728 rfl rfl (Nat.le_of_ble_eq_true rfl) ⟨by omega, by omega, by omega, by omega⟩ (m_isIn hl (by omega) z (nI 0) (nI 99)) (kr_some (x := .int (nI (inR z (nI 0) (nI 99)))) ?_) kx_no
  rw [show inR z (nI 0) (nI 99) = 0 from hin2]
  refine V_ifn_ne (tgt := 45) C dX7_addSurface_36 (by decide) (by decide) (fun hb3 => by exfalso; omega) (fun hb3 => ?_)
  refine V_aload_n C dX7_addSurface_39 0 rfl ?_
  refine V_iconst (v := nI 2) C dX7_addSurface_40 (by decide) ?_
  refine V_callV (r := (RX7, TX7, 17)) C [.int (nI 2)] dX7_addSurface_41 m_X7_fail k_X7_fail tw_731 rfl rfl rfl QW_o rfl rfl (Nat.le_of_ble_eq_true rfl) ⟨by omega, by omega, by omega, by omega⟩ (m_fail hl (by omega) (nI 2)) (kr_some (x := .int (nI 0)) ?_) kx_no
  exact V_iret C .int dX7_addSurface_44 hr rfl ⟨rfl, rfl, _, _, _, _, rfl⟩ (by omega) (by omega)
set_option maxHeartbeats 4000000 in
theorem m_addSurface_full {l : Launch} {D : va_G} {ba d : Nat} {ad : Adr} (hl : l.stackTraces = false) (hd : 4 ≤ d) {i : Nat} {σ : CS} {th ro : Int32} {lo ma ap : Nat → Int32} {o : Wd} (hσ : cOK σ) {j : Nat} (hj : j < cN σ) {y z : Int32} (hin : ¬ inR y (nI 1) (nI 60) = 0) (hin2 : ¬ inR z (nI 0) (nI 99) = 0) (h6 : hSc (cH σ j) = 6)  : CT l yX7_addSurface (wsO yX7_addSurface cX7_addSurface 4 (some .int)) d 8 64 D ba [.ref (ad [i]), .int (nI j), .int y, .int z] ad (QW i ad σ th ro lo ma ap o) (RQ i ad σ o (nI 3) (some (.int (nI 0)))) noX := by
  refine CT_of RX7 rfl (by decide +kernel) hl (Nat.le_of_ble_eq_true rfl) ?_
  intro p e s m args below meth c C hr hnm
  refine V_lvE (lv' := [(0, .ref (ad [i])), (1, .int (nI j)), (2, .int y), (3, .int z)]) rfl ?_
  have hσ1 := hσ.1
  have hσ2 := hσ.2.1
  have hu := hσ.2.2.1 j hj
  have hu1 := hu.1
  have hu2 := hu.2.1
  have hu3 := hu.2.2.1
  have hu4 := hu.2.2.2.1
  refine V_aload_n C dX7_addSurface_0 0 rfl ?_
  refine V_iconst (v := nI 0) C dX7_addSurface_1 (by decide) ?_
  refine V_put (ci := 6) (k := 0) C dX7_addSurface_2 RX7 RX7 TX7 17 tyX7 tyX7_ok nmX7 fw_X7 rfl (by decide) tw_668 rfl (Or.inl rfl) rfl rfl rfl QW_o (Nat.le_of_ble_eq_true rfl) ?_
  refine V_wd (w' := wset (QW i ad σ th ro lo ma ap o) ([i]) (.inr (6, [.int (nI 0), .int (nI (cN σ)), .int (nI (cK σ)), .int (cDay σ), .int (cIns σ), .ref (ad [i, 1]), .ref (ad [i, 2]), .ref (ad [i, 3]), .ref (ad [i, 4]), .ref (ad [i, 5]), .ref (ad [i, 6]), .ref (ad [i, 7]), .ref (ad [i, 8]), .ref (ad [i, 9]), .ref (ad [i, 10]), .ref (ad [i, 11]), .int ro]))) rfl ?_
  refine V_wd (w' := QW i ad σ (nI 0) ro lo ma ap o) QW_th ?_
  refine V_aload_n C dX7_addSurface_5 0 rfl ?_
  refine V_iload_n C dX7_addSurface_6 1 rfl ?_
  refine V_callV (r := (RX7, TX7, 17)) C [.int (nI j)] dX7_addSurface_7 m_X7_isHall k_X7_isHall tw_739 rfl rfl rfl QW_o rfl rfl (Nat.le_of_ble_eq_true rfl) ⟨by omega, by omega, by omega, by omega⟩ (m_isHall hl (by omega) hσ hj) (kr_some (x := .int (nI 1)) ?_) kx_no
  refine V_ifn_ne (tgt := 19) C dX7_addSurface_10 (by decide) (by decide) (fun hb1 => ?_) (fun hb1 => by exfalso; omega)
  refine V_iload_n C dX7_addSurface_19 2 rfl ?_
  refine V_iconst (v := nI 1) C dX7_addSurface_20 (by decide) ?_
  refine V_bipush (v := nI 60) C dX7_addSurface_21 (by decide) ?_
  have hin23 := inR_le y (nI 1) (nI 60)
  refine V_callS C [.int y, .int (nI 1), .int (nI 60)] dX7_addSurface_23 m_X7_isIn k_X7_isIn tw_728 rfl rfl (Nat.le_of_ble_eq_true rfl) ⟨by omega, by omega, by omega, by omega⟩ (m_isIn hl (by omega) y (nI 1) (nI 60)) (kr_some (x := .int (nI (inR y (nI 1) (nI 60)))) ?_) kx_no
  refine V_ifn_eq (tgt := 39) C dX7_addSurface_26 (by decide) (by omega) (fun hb2 => by exfalso; exact hin hb2) (fun hb2 => ?_)
  refine V_iload_n C dX7_addSurface_29 3 rfl ?_
  refine V_iconst (v := nI 0) C dX7_addSurface_30 (by decide) ?_
  refine V_bipush (v := nI 99) C dX7_addSurface_31 (by decide) ?_
  have hin33 := inR_le z (nI 0) (nI 99)
  refine V_callS C [.int z, .int (nI 0), .int (nI 99)] dX7_addSurface_33 m_X7_isIn k_X7_isIn tw_728 rfl rfl (Nat.le_of_ble_eq_true rfl) ⟨by omega, by omega, by omega, by omega⟩ (m_isIn hl (by omega) z (nI 0) (nI 99)) (kr_some (x := .int (nI (inR z (nI 0) (nI 99)))) ?_) kx_no
  refine V_ifn_ne (tgt := 45) C dX7_addSurface_36 (by decide) (by omega) (fun hb3 => ?_) (fun hb3 => by exfalso; exact hin2 hb3)
  refine V_aload_n C dX7_addSurface_45 0 rfl ?_
  refine V_get (ci := 6) (k := 5) C dX7_addSurface_46 RX7 RX7 TX7 17 fw_X7 rfl (by decide) tw_673 rfl rfl QW_o rfl ?_
  refine V_iload_n C dX7_addSurface_49 1 rfl ?_
  refine V_ialdn (v := (nI (hSc (cH σ j)))) C dX7_addSurface_50 rfl QW_1 (by omega) (by decide) (row0_in hj) ?_
  refine V_bipush (v := nI 6) C dX7_addSurface_51 (by decide) ?_
  refine V_icmpn_ne (tgt := 62) C dX7_addSurface_53 (by decide) (by omega) (by decide) (fun hb4 => by exfalso; omega) (fun hb4 => ?_)
  refine V_aload_n C dX7_addSurface_56 0 rfl ?_
  refine V_iconst (v := nI 3) C dX7_addSurface_57 (by decide) ?_
  refine V_callV (r := (RX7, TX7, 17)) C [.int (nI 3)] dX7_addSurface_58 m_X7_fail k_X7_fail tw_731 rfl rfl rfl QW_o rfl rfl (Nat.le_of_ble_eq_true rfl) ⟨by omega, by omega, by omega, by omega⟩ (m_fail hl (by omega) (nI 3)) (kr_some (x := .int (nI 0)) ?_) kx_no
  exact V_iret C .int dX7_addSurface_61 hr rfl ⟨rfl, rfl, _, _, _, _, rfl⟩ (by omega) (by omega)
set_option maxHeartbeats 4000000 in
theorem m_addStd {l : Launch} {D : va_G} {ba d : Nat} {ad : Adr} (hl : l.stackTraces = false) (hd : 4 ≤ d) {i : Nat} {σ : CS} {th ro : Int32} {lo ma ap : Nat → Int32} {o : Wd} (hσ : cOK σ) {ea li mo lt dy : Nat} (h_ea : ea ≤ 500) (h_li : li ≤ 1000) (h_mo : mo ≤ 99) (h_lt : lt ≤ 3000) (h_dy : dy ≤ 100) (g_ea : ¬ inR (nI ea) (nI 0) (nI 500) = 0) (g_li : ¬ inR (nI li) (nI 1) (nI 1000) = 0) (g_mo : ¬ inR (nI mo) (nI 0) (nI 99) = 0) (g_lt : ¬ inR (nI lt) (nI 0) (nI 3000) = 0) (g_dy : ¬ inR (nI dy) (nI 1) (nI 100) = 0) (h5 : cK σ < 5)  : CT l yX7_addStandard (wsO yX7_addStandard cX7_addStandard 7 (some .int)) d 8 64 D ba [.ref (ad [i]), .int (nI ea), .int (nI li), .int (nI mo), .int (nI lt), .int (nI dy)] ad (QW i ad σ th ro lo ma ap o) (RQ i ad (addD σ (ea, li, mo, lt, dy)) o (nI 0) (some (.int (nI (cK σ))))) noX := by
  refine CT_of RX7 rfl (by decide +kernel) hl (Nat.le_of_ble_eq_true rfl) ?_
  intro p e s m args below meth c C hr hnm
  refine V_lvE (lv' := [(0, .ref (ad [i])), (1, .int (nI ea)), (2, .int (nI li)), (3, .int (nI mo)), (4, .int (nI lt)), (5, .int (nI dy))]) rfl ?_
  have hσ1 := hσ.1
  have hσ2 := hσ.2.1
  refine V_aload_n C dX7_addStandard_0 0 rfl ?_
  refine V_iconst (v := nI 0) C dX7_addStandard_1 (by decide) ?_
  refine V_put (ci := 6) (k := 0) C dX7_addStandard_2 RX7 RX7 TX7 17 tyX7 tyX7_ok nmX7 fw_X7 rfl (by decide) tw_668 rfl (Or.inl rfl) rfl rfl rfl QW_o (Nat.le_of_ble_eq_true rfl) ?_
  refine V_wd (w' := wset (QW i ad σ th ro lo ma ap o) ([i]) (.inr (6, [.int (nI 0), .int (nI (cN σ)), .int (nI (cK σ)), .int (cDay σ), .int (cIns σ), .ref (ad [i, 1]), .ref (ad [i, 2]), .ref (ad [i, 3]), .ref (ad [i, 4]), .ref (ad [i, 5]), .ref (ad [i, 6]), .ref (ad [i, 7]), .ref (ad [i, 8]), .ref (ad [i, 9]), .ref (ad [i, 10]), .ref (ad [i, 11]), .int ro]))) rfl ?_
  refine V_wd (w' := QW i ad σ (nI 0) ro lo ma ap o) QW_th ?_
  refine V_iload_n C dX7_addStandard_5 1 rfl ?_
  refine V_iconst (v := nI 0) C dX7_addStandard_6 (by decide) ?_
  refine V_sipush (v := nI 500) C dX7_addStandard_7 (by decide) ?_
  have hin10 := inR_le (nI ea) (nI 0) (nI 500)
  refine V_callS C [.int (nI ea), .int (nI 0), .int (nI 500)] dX7_addStandard_10 m_X7_isIn k_X7_isIn tw_728 rfl rfl (Nat.le_of_ble_eq_true rfl) ⟨by omega, by omega, by omega, by omega⟩ (m_isIn hl (by omega) (nI ea) (nI 0) (nI 500)) (kr_some (x := .int (nI (inR (nI ea) (nI 0) (nI 500)))) ?_) kx_no
  refine V_ifn_eq (tgt := 60) C dX7_addStandard_13 (by decide) (by omega) (fun hb1 => by exfalso; exact g_ea hb1) (fun hb1 => ?_)
  refine V_iload_n C dX7_addStandard_16 2 rfl ?_
  refine V_iconst (v := nI 1) C dX7_addStandard_17 (by decide) ?_
  refine V_sipush (v := nI 1000) C dX7_addStandard_18 (by decide) ?_
  have hin21 := inR_le (nI li) (nI 1) (nI 1000)
  refine V_callS C [.int (nI li), .int (nI 1), .int (nI 1000)] dX7_addStandard_21 m_X7_isIn k_X7_isIn tw_728 rfl rfl (Nat.le_of_ble_eq_true rfl) ⟨by omega, by omega, by omega, by omega⟩ (m_isIn hl (by omega) (nI li) (nI 1) (nI 1000)) (kr_some (x := .int (nI (inR (nI li) (nI 1) (nI 1000)))) ?_) kx_no
  refine V_ifn_eq (tgt := 60) C dX7_addStandard_24 (by decide) (by omega) (fun hb2 => by exfalso; exact g_li hb2) (fun hb2 => ?_)
  refine V_iload_n C dX7_addStandard_27 3 rfl ?_
  refine V_iconst (v := nI 0) C dX7_addStandard_28 (by decide) ?_
  refine V_bipush (v := nI 99) C dX7_addStandard_29 (by decide) ?_
  have hin31 := inR_le (nI mo) (nI 0) (nI 99)
  refine V_callS C [.int (nI mo), .int (nI 0), .int (nI 99)] dX7_addStandard_31 m_X7_isIn k_X7_isIn tw_728 rfl rfl (Nat.le_of_ble_eq_true rfl) ⟨by omega, by omega, by omega, by omega⟩ (m_isIn hl (by omega) (nI mo) (nI 0) (nI 99)) (kr_some (x := .int (nI (inR (nI mo) (nI 0) (nI 99)))) ?_) kx_no
  refine V_ifn_eq (tgt := 60) C dX7_addStandard_34 (by decide) (by omega) (fun hb3 => by exfalso; exact g_mo hb3) (fun hb3 => ?_)
  refine V_iload C dX7_addStandard_37 4 rfl ?_
  refine V_iconst (v := nI 0) C dX7_addStandard_39 (by decide) ?_
  refine V_sipush (v := nI 3000) C dX7_addStandard_40 (by decide) ?_
  have hin43 := inR_le (nI lt) (nI 0) (nI 3000)
  refine V_callS C [.int (nI lt), .int (nI 0), .int (nI 3000)] dX7_addStandard_43 m_X7_isIn k_X7_isIn tw_728 rfl rfl (Nat.le_of_ble_eq_true rfl) ⟨by omega, by omega, by omega, by omega⟩ (m_isIn hl (by omega) (nI lt) (nI 0) (nI 3000)) (kr_some (x := .int (nI (inR (nI lt) (nI 0) (nI 3000)))) ?_) kx_no
  refine V_ifn_eq (tgt := 60) C dX7_addStandard_46 (by decide) (by omega) (fun hb4 => by exfalso; exact g_lt hb4) (fun hb4 => ?_)
  refine V_iload C dX7_addStandard_49 5 rfl ?_
  refine V_iconst (v := nI 1) C dX7_addStandard_51 (by decide) ?_
  refine V_bipush (v := nI 100) C dX7_addStandard_52 (by decide) ?_
  have hin54 := inR_le (nI dy) (nI 1) (nI 100)
  refine V_callS C [.int (nI dy), .int (nI 1), .int (nI 100)] dX7_addStandard_54 m_X7_isIn k_X7_isIn tw_728 rfl rfl (Nat.le_of_ble_eq_true rfl) ⟨by omega, by omega, by omega, by omega⟩ (m_isIn hl (by omega) (nI dy) (nI 1) (nI 100)) (kr_some (x := .int (nI (inR (nI dy) (nI 1) (nI 100)))) ?_) kx_no
  refine V_ifn_ne (tgt := 66) C dX7_addStandard_57 (by decide) (by omega) (fun hb5 => ?_) (fun hb5 => by exfalso; exact g_dy hb5)
  refine V_aload_n C dX7_addStandard_66 0 rfl ?_
  refine V_get (ci := 6) (k := 2) C dX7_addStandard_67 RX7 RX7 TX7 17 fw_X7 rfl (by decide) tw_670 rfl rfl QW_o rfl ?_
  refine V_iconst (v := nI 5) C dX7_addStandard_70 (by decide) ?_
  refine V_icmpn_ne (tgt := 80) C dX7_addStandard_71 (by decide) (by omega) (by decide) (fun hb6 => ?_) (fun hb6 => by exfalso; omega)
  refine V_iconst (v := nI 5) C dX7_addStandard_80 (by decide) ?_
  refine V_newI (N := 5) C ([i, 12]) dX7_addStandard_81 tw_69 (by decide) (by decide) (by decide) QW_f12 (by omega) (by omega) (fun q1 => ?_)
  refine V_dup C dX7_addStandard_83 rfl ?_
  refine V_iconst (v := nI 0) C dX7_addStandard_84 (by decide) ?_
  refine V_iload_n C dX7_addStandard_85 1 rfl ?_
  refine V_iastn C dX7_addStandard_86 aset_s.symm wset_s (by omega) (by decide) ?_
  refine V_wd (w' := wset (QW i ad σ (nI 0) ro lo ma ap o) ([i, 12]) (eI 5 (upd (fun _ => 0) 0 (nI ea)))) wset_wset ?_
  refine V_dup C dX7_addStandard_87 rfl ?_
  refine V_iconst (v := nI 1) C dX7_addStandard_88 (by decide) ?_
  refine V_iload_n C dX7_addStandard_89 2 rfl ?_
  refine V_iastn C dX7_addStandard_90 aset_s.symm wset_s (by omega) (by decide) ?_
  refine V_wd (w' := wset (QW i ad σ (nI 0) ro lo ma ap o) ([i, 12]) (eI 5 (upd (upd (fun _ => 0) 0 (nI ea)) 1 (nI li)))) wset_wset ?_
  refine V_dup C dX7_addStandard_91 rfl ?_
  refine V_iconst (v := nI 2) C dX7_addStandard_92 (by decide) ?_
  refine V_iload_n C dX7_addStandard_93 3 rfl ?_
  refine V_iastn C dX7_addStandard_94 aset_s.symm wset_s (by omega) (by decide) ?_
  refine V_wd (w' := wset (QW i ad σ (nI 0) ro lo ma ap o) ([i, 12]) (eI 5 (upd (upd (upd (fun _ => 0) 0 (nI ea)) 1 (nI li)) 2 (nI mo)))) wset_wset ?_
  refine V_dup C dX7_addStandard_95 rfl ?_
  refine V_iconst (v := nI 3) C dX7_addStandard_96 (by decide) ?_
  refine V_iload C dX7_addStandard_97 4 rfl ?_
  refine V_iastn C dX7_addStandard_99 aset_s.symm wset_s (by omega) (by decide) ?_
  refine V_wd (w' := wset (QW i ad σ (nI 0) ro lo ma ap o) ([i, 12]) (eI 5 (upd (upd (upd (upd (fun _ => 0) 0 (nI ea)) 1 (nI li)) 2 (nI mo)) 3 (nI lt)))) wset_wset ?_
  refine V_dup C dX7_addStandard_100 rfl ?_
  refine V_iconst (v := nI 4) C dX7_addStandard_101 (by decide) ?_
  refine V_iload C dX7_addStandard_102 5 rfl ?_
  refine V_iastn C dX7_addStandard_104 aset_s.symm wset_s (by omega) (by decide) ?_
  refine V_wd (w' := wset (QW i ad σ (nI 0) ro lo ma ap o) ([i, 12]) (eI 5 (upd (upd (upd (upd (upd (fun _ => 0) 0 (nI ea)) 1 (nI li)) 2 (nI mo)) 3 (nI lt)) 4 (nI dy)))) wset_wset ?_
  refine V_astore C [(6, .ref q1), (0, .ref (ad [i])), (1, .int (nI ea)), (2, .int (nI li)), (3, .int (nI mo)), (4, .int (nI lt)), (5, .int (nI dy))] dX7_addStandard_105 (by decide) rfl ?_
  refine V_aload C dX7_addStandard_107 0 rfl ?_
  refine V_iconst (v := nI 0) C dX7_addStandard_109 (by decide) ?_
  refine V_aload_n C dX7_addStandard_110 1 rfl ?_
  refine V_get (ci := 6) (k := 12) C dX7_addStandard_111 RX7 RX7 TX7 17 fw_X7 rfl (by decide) tw_680 rfl (aset_n (by simp)).symm ((wset_n (by simp)).trans QW_o) rfl ?_
  refine V_iconst (v := nI 5) C dX7_addStandard_114 (by decide) ?_
  refine V_aload_n C dX7_addStandard_115 1 rfl ?_
  refine V_get (ci := 6) (k := 2) C dX7_addStandard_116 RX7 RX7 TX7 17 fw_X7 rfl (by decide) tw_670 rfl (aset_n (by simp)).symm ((wset_n (by simp)).trans QW_o) rfl ?_
  refine V_imuln C dX7_addStandard_119 ?_
  refine V_iconst (v := nI 5) C dX7_addStandard_120 (by decide) ?_
  refine V_copyI C dX7_addStandard_121 tw_767 tw_768 tw_769 tw_14 aset_s.symm wset_s (aset_n (by simp)).symm ((wset_n (by simp)).trans QW_8) (by decide) (nI_pos (by omega)) (by decide) (by decide) (by rw [nI_clamp (by omega)]; show _ + 5 ≤ 25; omega) (by omega) (by simp [Value.category]; show 18 ≤ 36 * d; omega) ?_
  rw [show (nI (5 * cK σ)).toNatClampNeg = 5 * cK σ from nI_clamp (by omega), show (nI 0).toNatClampNeg = 0 from rfl, show (nI 5).toNatClampNeg = 5 from rfl, aRu_add (s := (ea, li, mo, lt, dy)) rfl rfl rfl rfl rfl]
  refine V_less (w' := wset (QW i ad σ (nI 0) ro lo ma ap o) [i, 8] (eI 25 (aRu (addD σ (ea, li, mo, lt, dy))))) (fun L e hL => ?_) ?_
  · by_cases h8 : L = [i, 8]
    · subst h8; rw [wset_s] at hL ⊢; exact hL
    · rw [wset_n h8] at hL ⊢
      have h12 : L ≠ [i, 12] := fun z => by rw [z, QW_f12] at hL; exact absurd hL (by simp)
      simp only [wset, if_neg h12]; exact hL
  refine V_adr (ad' := ad) (fun L hL => ?_) ?_
  · have h12 : L ≠ [i, 12] := fun z => by rw [z, wset_n (by simp), QW_f12] at hL; exact hL rfl
    exact (aset_n h12).symm
  refine V_lv [1, 2, 3, 4, 5, 6] rfl ?_
  refine V_aload_n C dX7_addStandard_124 0 rfl ?_
  refine V_dup C dX7_addStandard_125 rfl ?_
  refine V_get (ci := 6) (k := 2) C dX7_addStandard_126 RX7 RX7 TX7 17 fw_X7 rfl (by decide) tw_670 rfl rfl ((wset_n (by simp)).trans QW_o) rfl ?_
  refine V_iconst (v := nI 1) C dX7_addStandard_129 (by decide) ?_
  refine V_iaddn C dX7_addStandard_130 ?_
  refine V_put (ci := 6) (k := 2) C dX7_addStandard_131 RX7 RX7 TX7 17 tyX7 tyX7_ok nmX7 fw_X7 rfl (by decide) tw_670 rfl (Or.inl rfl) rfl rfl rfl ((wset_n (by simp)).trans QW_o) (Nat.le_of_ble_eq_true rfl) ?_
  refine V_wd (w' := wset (wset (QW i ad σ (nI 0) ro lo ma ap o) [i, 8] (eI 25 (aRu (addD σ (ea, li, mo, lt, dy))))) ([i]) (.inr (6, [.int (nI 0), .int (nI (cN σ)), .int (nI ((cK σ) + 1)), .int (cDay σ), .int (cIns σ), .ref (ad [i, 1]), .ref (ad [i, 2]), .ref (ad [i, 3]), .ref (ad [i, 4]), .ref (ad [i, 5]), .ref (ad [i, 6]), .ref (ad [i, 7]), .ref (ad [i, 8]), .ref (ad [i, 9]), .ref (ad [i, 10]), .ref (ad [i, 11]), .int ro]))) rfl ?_
  refine V_wd (w' := QW i ad (addD σ (ea, li, mo, lt, dy)) (nI 0) ro lo ma ap o) QW_addD ?_
  refine V_aload_n C dX7_addStandard_134 0 rfl ?_
  refine V_get (ci := 6) (k := 2) C dX7_addStandard_135 RX7 RX7 TX7 17 fw_X7 rfl (by decide) tw_670 rfl rfl (QW_o (σ := (addD σ (ea, li, mo, lt, dy)))) rfl ?_
  refine V_iconst (v := nI 1) C dX7_addStandard_138 (by decide) ?_
  refine V_isubn C dX7_addStandard_139 (by show 1 ≤ cK σ + 1; omega) ?_
  exact V_iret C .int dX7_addStandard_140 hr rfl ⟨by rw [show cK (addD σ (ea, li, mo, lt, dy)) - 1 = cK σ from rfl], rfl, _, _, _, _, rfl⟩ (by omega) (by omega)
set_option maxHeartbeats 4000000 in
theorem m_addStd_full {l : Launch} {D : va_G} {ba d : Nat} {ad : Adr} (hl : l.stackTraces = false) (hd : 4 ≤ d) {i : Nat} {σ : CS} {th ro : Int32} {lo ma ap : Nat → Int32} {o : Wd} (hσ : cOK σ) {ea li mo lt dy : Int32} (g_ea : ¬ inR ea (nI 0) (nI 500) = 0) (g_li : ¬ inR li (nI 1) (nI 1000) = 0) (g_mo : ¬ inR mo (nI 0) (nI 99) = 0) (g_lt : ¬ inR lt (nI 0) (nI 3000) = 0) (g_dy : ¬ inR dy (nI 1) (nI 100) = 0) (h5 : cK σ = 5)  : CT l yX7_addStandard (wsO yX7_addStandard cX7_addStandard 7 (some .int)) d 8 64 D ba [.ref (ad [i]), .int ea, .int li, .int mo, .int lt, .int dy] ad (QW i ad σ th ro lo ma ap o) (RQ i ad σ o (nI 2) (some (.int (nI 0)))) noX := by
  refine CT_of RX7 rfl (by decide +kernel) hl (Nat.le_of_ble_eq_true rfl) ?_
  intro p e s m args below meth c C hr hnm
  refine V_lvE (lv' := [(0, .ref (ad [i])), (1, .int ea), (2, .int li), (3, .int mo), (4, .int lt), (5, .int dy)]) rfl ?_
  have hσ1 := hσ.1
  have hσ2 := hσ.2.1
  refine V_aload_n C dX7_addStandard_0 0 rfl ?_
  refine V_iconst (v := nI 0) C dX7_addStandard_1 (by decide) ?_
  refine V_put (ci := 6) (k := 0) C dX7_addStandard_2 RX7 RX7 TX7 17 tyX7 tyX7_ok nmX7 fw_X7 rfl (by decide) tw_668 rfl (Or.inl rfl) rfl rfl rfl QW_o (Nat.le_of_ble_eq_true rfl) ?_
  refine V_wd (w' := wset (QW i ad σ th ro lo ma ap o) ([i]) (.inr (6, [.int (nI 0), .int (nI (cN σ)), .int (nI (cK σ)), .int (cDay σ), .int (cIns σ), .ref (ad [i, 1]), .ref (ad [i, 2]), .ref (ad [i, 3]), .ref (ad [i, 4]), .ref (ad [i, 5]), .ref (ad [i, 6]), .ref (ad [i, 7]), .ref (ad [i, 8]), .ref (ad [i, 9]), .ref (ad [i, 10]), .ref (ad [i, 11]), .int ro]))) rfl ?_
  refine V_wd (w' := QW i ad σ (nI 0) ro lo ma ap o) QW_th ?_
  refine V_iload_n C dX7_addStandard_5 1 rfl ?_
  refine V_iconst (v := nI 0) C dX7_addStandard_6 (by decide) ?_
  refine V_sipush (v := nI 500) C dX7_addStandard_7 (by decide) ?_
  have hin10 := inR_le ea (nI 0) (nI 500)
  refine V_callS C [.int ea, .int (nI 0), .int (nI 500)] dX7_addStandard_10 m_X7_isIn k_X7_isIn tw_728 rfl rfl (Nat.le_of_ble_eq_true rfl) ⟨by omega, by omega, by omega, by omega⟩ (m_isIn hl (by omega) ea (nI 0) (nI 500)) (kr_some (x := .int (nI (inR ea (nI 0) (nI 500)))) ?_) kx_no
  refine V_ifn_eq (tgt := 60) C dX7_addStandard_13 (by decide) (by omega) (fun hb1 => by exfalso; exact g_ea hb1) (fun hb1 => ?_)
  refine V_iload_n C dX7_addStandard_16 2 rfl ?_
  refine V_iconst (v := nI 1) C dX7_addStandard_17 (by decide) ?_
  refine V_sipush (v := nI 1000) C dX7_addStandard_18 (by decide) ?_
  have hin21 := inR_le li (nI 1) (nI 1000)
  refine V_callS C [.int li, .int (nI 1), .int (nI 1000)] dX7_addStandard_21 m_X7_isIn k_X7_isIn tw_728 rfl rfl (Nat.le_of_ble_eq_true rfl) ⟨by omega, by omega, by omega, by omega⟩ (m_isIn hl (by omega) li (nI 1) (nI 1000)) (kr_some (x := .int (nI (inR li (nI 1) (nI 1000)))) ?_) kx_no
  refine V_ifn_eq (tgt := 60) C dX7_addStandard_24 (by decide) (by omega) (fun hb2 => by exfalso; exact g_li hb2) (fun hb2 => ?_)
  refine V_iload_n C dX7_addStandard_27 3 rfl ?_
  refine V_iconst (v := nI 0) C dX7_addStandard_28 (by decide) ?_
  refine V_bipush (v := nI 99) C dX7_addStandard_29 (by decide) ?_
  have hin31 := inR_le mo (nI 0) (nI 99)
  refine V_callS C [.int mo, .int (nI 0), .int (nI 99)] dX7_addStandard_31 m_X7_isIn k_X7_isIn tw_728 rfl rfl (Nat.le_of_ble_eq_true rfl) ⟨by omega, by omega, by omega, by omega⟩ (m_isIn hl (by omega) mo (nI 0) (nI 99)) (kr_some (x := .int (nI (inR mo (nI 0) (nI 99)))) ?_) kx_no
  refine V_ifn_eq (tgt := 60) C dX7_addStandard_34 (by decide) (by omega) (fun hb3 => by exfalso; exact g_mo hb3) (fun hb3 => ?_)
  refine V_iload C dX7_addStandard_37 4 rfl ?_
  refine V_iconst (v := nI 0) C dX7_addStandard_39 (by decide) ?_
  refine V_sipush (v := nI 3000) C dX7_addStandard_40 (by decide) ?_
  have hin43 := inR_le lt (nI 0) (nI 3000)
  refine V_callS C [.int lt, .int (nI 0), .int (nI 3000)] dX7_addStandard_43 m_X7_isIn k_X7_isIn tw_728 rfl rfl (Nat.le_of_ble_eq_true rfl) ⟨by omega, by omega, by omega, by omega⟩ (m_isIn hl (by omega) lt (nI 0) (nI 3000)) (kr_some (x := .int (nI (inR lt (nI 0) (nI 3000)))) ?_) kx_no
  refine V_ifn_eq (tgt := 60) C dX7_addStandard_46 (by decide) (by omega) (fun hb4 => by exfalso; exact g_lt hb4) (fun hb4 => ?_)
  refine V_iload C dX7_addStandard_49 5 rfl ?_
  refine V_iconst (v := nI 1) C dX7_addStandard_51 (by decide) ?_
  refine V_bipush (v := nI 100) C dX7_addStandard_52 (by decide) ?_
  have hin54 := inR_le dy (nI 1) (nI 100)
  refine V_callS C [.int dy, .int (nI 1), .int (nI 100)] dX7_addStandard_54 m_X7_isIn k_X7_isIn tw_728 rfl rfl (Nat.le_of_ble_eq_true rfl) ⟨by omega, by omega, by omega, by omega⟩ (m_isIn hl (by omega) dy (nI 1) (nI 100)) (kr_some (x := .int (nI (inR dy (nI 1) (nI 100)))) ?_) kx_no
  refine V_ifn_ne (tgt := 66) C dX7_addStandard_57 (by decide) (by omega) (fun hb5 => ?_) (fun hb5 => by exfalso; exact g_dy hb5)
  refine V_aload_n C dX7_addStandard_66 0 rfl ?_
  refine V_get (ci := 6) (k := 2) C dX7_addStandard_67 RX7 RX7 TX7 17 fw_X7 rfl (by decide) tw_670 rfl rfl QW_o rfl ?_
  refine V_iconst (v := nI 5) C dX7_addStandard_70 (by decide) ?_
  refine V_icmpn_ne (tgt := 80) C dX7_addStandard_71 (by decide) (by omega) (by decide) (fun hb6 => by exfalso; omega) (fun hb6 => ?_)
  refine V_aload_n C dX7_addStandard_74 0 rfl ?_
  refine V_iconst (v := nI 2) C dX7_addStandard_75 (by decide) ?_
  refine V_callV (r := (RX7, TX7, 17)) C [.int (nI 2)] dX7_addStandard_76 m_X7_fail k_X7_fail tw_731 rfl rfl rfl QW_o rfl rfl (Nat.le_of_ble_eq_true rfl) ⟨by omega, by omega, by omega, by omega⟩ (m_fail hl (by omega) (nI 2)) (kr_some (x := .int (nI 0)) ?_) kx_no
  exact V_iret C .int dX7_addStandard_79 hr rfl ⟨rfl, rfl, _, _, _, _, rfl⟩ (by omega) (by omega)
set_option maxHeartbeats 4000000 in
theorem m_addStd_bad {l : Launch} {D : va_G} {ba d : Nat} {ad : Adr} (hl : l.stackTraces = false) (hd : 4 ≤ d) {i : Nat} {σ : CS} {th ro : Int32} {lo ma ap : Nat → Int32} {o : Wd} (hσ : cOK σ) {ea li mo lt dy : Int32} (hin : inR ea (nI 0) (nI 500) = 0 ∨ inR li (nI 1) (nI 1000) = 0 ∨ inR mo (nI 0) (nI 99) = 0 ∨ inR lt (nI 0) (nI 3000) = 0 ∨ inR dy (nI 1) (nI 100) = 0)  : CT l yX7_addStandard (wsO yX7_addStandard cX7_addStandard 7 (some .int)) d 8 64 D ba [.ref (ad [i]), .int ea, .int li, .int mo, .int lt, .int dy] ad (QW i ad σ th ro lo ma ap o) (RQ i ad σ o (nI 1) (some (.int (nI 0)))) noX := by
  refine CT_of RX7 rfl (by decide +kernel) hl (Nat.le_of_ble_eq_true rfl) ?_
  intro p e s m args below meth c C hr hnm
  refine V_lvE (lv' := [(0, .ref (ad [i])), (1, .int ea), (2, .int li), (3, .int mo), (4, .int lt), (5, .int dy)]) rfl ?_
  have hσ1 := hσ.1
  have hσ2 := hσ.2.1
  refine V_aload_n C dX7_addStandard_0 0 rfl ?_
  refine V_iconst (v := nI 0) C dX7_addStandard_1 (by decide) ?_
  refine V_put (ci := 6) (k := 0) C dX7_addStandard_2 RX7 RX7 TX7 17 tyX7 tyX7_ok nmX7 fw_X7 rfl (by decide) tw_668 rfl (Or.inl rfl) rfl rfl rfl QW_o (Nat.le_of_ble_eq_true rfl) ?_
  refine V_wd (w' := wset (QW i ad σ th ro lo ma ap o) ([i]) (.inr (6, [.int (nI 0), .int (nI (cN σ)), .int (nI (cK σ)), .int (cDay σ), .int (cIns σ), .ref (ad [i, 1]), .ref (ad [i, 2]), .ref (ad [i, 3]), .ref (ad [i, 4]), .ref (ad [i, 5]), .ref (ad [i, 6]), .ref (ad [i, 7]), .ref (ad [i, 8]), .ref (ad [i, 9]), .ref (ad [i, 10]), .ref (ad [i, 11]), .int ro]))) rfl ?_
  refine V_wd (w' := QW i ad σ (nI 0) ro lo ma ap o) QW_th ?_
  refine V_iload_n C dX7_addStandard_5 1 rfl ?_
  refine V_iconst (v := nI 0) C dX7_addStandard_6 (by decide) ?_
  refine V_sipush (v := nI 500) C dX7_addStandard_7 (by decide) ?_
  have hin10 := inR_le ea (nI 0) (nI 500)
  refine V_callS C [.int ea, .int (nI 0), .int (nI 500)] dX7_addStandard_10 m_X7_isIn k_X7_isIn tw_728 rfl rfl (Nat.le_of_ble_eq_true rfl) ⟨by omega, by omega, by omega, by omega⟩ (m_isIn hl (by omega) ea (nI 0) (nI 500)) (kr_some (x := .int (nI (inR ea (nI 0) (nI 500)))) ?_) kx_no
  refine V_ifn_eq (tgt := 60) C dX7_addStandard_13 (by decide) (by omega) (fun hb1 => ?_) (fun hb1 => ?_)
  · skip
    refine V_aload_n C dX7_addStandard_60 0 rfl ?_
    refine V_iconst (v := nI 1) C dX7_addStandard_61 (by decide) ?_
    refine V_callV (r := (RX7, TX7, 17)) C [.int (nI 1)] dX7_addStandard_62 m_X7_fail k_X7_fail tw_731 rfl rfl rfl QW_o rfl rfl (Nat.le_of_ble_eq_true rfl) ⟨by omega, by omega, by omega, by omega⟩ (m_fail hl (by omega) (nI 1)) (kr_some (x := .int (nI 0)) ?_) kx_no
    exact V_iret C .int dX7_addStandard_65 hr rfl ⟨rfl, rfl, _, _, _, _, rfl⟩ (by omega) (by omega)
  · skip
    refine V_iload_n C dX7_addStandard_16 2 rfl ?_
    refine V_iconst (v := nI 1) C dX7_addStandard_17 (by decide) ?_
    refine V_sipush (v := nI 1000) C dX7_addStandard_18 (by decide) ?_
    have hin21 := inR_le li (nI 1) (nI 1000)
    refine V_callS C [.int li, .int (nI 1), .int (nI 1000)] dX7_addStandard_21 m_X7_isIn k_X7_isIn tw_728 rfl rfl (Nat.le_of_ble_eq_true rfl) ⟨by omega, by omega, by omega, by omega⟩ (m_isIn hl (by omega) li (nI 1) (nI 1000)) (kr_some (x := .int (nI (inR li (nI 1) (nI 1000)))) ?_) kx_no
    refine V_ifn_eq (tgt := 60) C dX7_addStandard_24 (by decide) (by omega) (fun hb2 => ?_) (fun hb2 => ?_)
    · skip
      refine V_aload_n C dX7_addStandard_60 0 rfl ?_
      refine V_iconst (v := nI 1) C dX7_addStandard_61 (by decide) ?_
      refine V_callV (r := (RX7, TX7, 17)) C [.int (nI 1)] dX7_addStandard_62 m_X7_fail k_X7_fail tw_731 rfl rfl rfl QW_o rfl rfl (Nat.le_of_ble_eq_true rfl) ⟨by omega, by omega, by omega, by omega⟩ (m_fail hl (by omega) (nI 1)) (kr_some (x := .int (nI 0)) ?_) kx_no
      exact V_iret C .int dX7_addStandard_65 hr rfl ⟨rfl, rfl, _, _, _, _, rfl⟩ (by omega) (by omega)
    · skip
      refine V_iload_n C dX7_addStandard_27 3 rfl ?_
      refine V_iconst (v := nI 0) C dX7_addStandard_28 (by decide) ?_
      refine V_bipush (v := nI 99) C dX7_addStandard_29 (by decide) ?_
      have hin31 := inR_le mo (nI 0) (nI 99)
      refine V_callS C [.int mo, .int (nI 0), .int (nI 99)] dX7_addStandard_31 m_X7_isIn k_X7_isIn tw_728 rfl rfl (Nat.le_of_ble_eq_true rfl) ⟨by omega, by omega, by omega, by omega⟩ (m_isIn hl (by omega) mo (nI 0) (nI 99)) (kr_some (x := .int (nI (inR mo (nI 0) (nI 99)))) ?_) kx_no
      refine V_ifn_eq (tgt := 60) C dX7_addStandard_34 (by decide) (by omega) (fun hb3 => ?_) (fun hb3 => ?_)
      · skip
        refine V_aload_n C dX7_addStandard_60 0 rfl ?_
        refine V_iconst (v := nI 1) C dX7_addStandard_61 (by decide) ?_
        refine V_callV (r := (RX7, TX7, 17)) C [.int (nI 1)] dX7_addStandard_62 m_X7_fail k_X7_fail tw_731 rfl rfl rfl QW_o rfl rfl (Nat.le_of_ble_eq_true rfl) ⟨by omega, by omega, by omega, by omega⟩ (m_fail hl (by omega) (nI 1)) (kr_some (x := .int (nI 0)) ?_) kx_no
        exact V_iret C .int dX7_addStandard_65 hr rfl ⟨rfl, rfl, _, _, _, _, rfl⟩ (by omega) (by omega)
      · skip
        refine V_iload C dX7_addStandard_37 4 rfl ?_
        refine V_iconst (v := nI 0) C dX7_addStandard_39 (by decide) ?_
        refine V_sipush (v := nI 3000) C dX7_addStandard_40 (by decide) ?_
        have hin43 := inR_le lt (nI 0) (nI 3000)
        refine V_callS C [.int lt, .int (nI 0), .int (nI 3000)] dX7_addStandard_43 m_X7_isIn k_X7_isIn tw_728 rfl rfl (Nat.le_of_ble_eq_true rfl) ⟨by omega, by omega, by omega, by omega⟩ (m_isIn hl (by omega) lt (nI 0) (nI 3000)) (kr_some (x := .int (nI (inR lt (nI 0) (nI 3000)))) ?_) kx_no
        refine V_ifn_eq (tgt := 60) C dX7_addStandard_46 (by decide) (by omega) (fun hb4 => ?_) (fun hb4 => ?_)
        · skip
          refine V_aload_n C dX7_addStandard_60 0 rfl ?_
          refine V_iconst (v := nI 1) C dX7_addStandard_61 (by decide) ?_
          refine V_callV (r := (RX7, TX7, 17)) C [.int (nI 1)] dX7_addStandard_62 m_X7_fail k_X7_fail tw_731 rfl rfl rfl QW_o rfl rfl (Nat.le_of_ble_eq_true rfl) ⟨by omega, by omega, by omega, by omega⟩ (m_fail hl (by omega) (nI 1)) (kr_some (x := .int (nI 0)) ?_) kx_no
          exact V_iret C .int dX7_addStandard_65 hr rfl ⟨rfl, rfl, _, _, _, _, rfl⟩ (by omega) (by omega)
        · skip
          refine V_iload C dX7_addStandard_49 5 rfl ?_
          refine V_iconst (v := nI 1) C dX7_addStandard_51 (by decide) ?_
          refine V_bipush (v := nI 100) C dX7_addStandard_52 (by decide) ?_
          have hin54 := inR_le dy (nI 1) (nI 100)
          refine V_callS C [.int dy, .int (nI 1), .int (nI 100)] dX7_addStandard_54 m_X7_isIn k_X7_isIn tw_728 rfl rfl (Nat.le_of_ble_eq_true rfl) ⟨by omega, by omega, by omega, by omega⟩ (m_isIn hl (by omega) dy (nI 1) (nI 100)) (kr_some (x := .int (nI (inR dy (nI 1) (nI 100)))) ?_) kx_no
          refine V_ifn_ne (tgt := 66) C dX7_addStandard_57 (by decide) (by omega) (fun hb5 => ?_) (fun hb5 => ?_)
          · skip
            exfalso; omega
          · skip
            refine V_aload_n C dX7_addStandard_60 0 rfl ?_
            refine V_iconst (v := nI 1) C dX7_addStandard_61 (by decide) ?_
            refine V_callV (r := (RX7, TX7, 17)) C [.int (nI 1)] dX7_addStandard_62 m_X7_fail k_X7_fail tw_731 rfl rfl rfl QW_o rfl rfl (Nat.le_of_ble_eq_true rfl) ⟨by omega, by omega, by omega, by omega⟩ (m_fail hl (by omega) (nI 1)) (kr_some (x := .int (nI 0)) ?_) kx_no
            exact V_iret C .int dX7_addStandard_65 hr rfl ⟨rfl, rfl, _, _, _, _, rfl⟩ (by omega) (by omega)
set_option maxHeartbeats 4000000 in
theorem lp_ce {p : Program} {l : Launch} {e : Env} {s : State} {m : MethodId} {args : Array Value} {below : List Frame} {meth : Method} {c : Code} {D : va_G} {ba d mc ms : Nat} {ad : Adr} {QR : Option Value → Adr → Wd → Prop} {QX : String → Adr → Wd → Prop} (C : Cx p l s m args meth c D ba RX7 cX7_certified 3 [] d) (hl : l.stackTraces = false) (hr : meth.sig.returnType = (some .int)) (hd : 2 ≤ d) {i : Nat} {σ : CS} {th ro : Int32} {lo ma ap : Nat → Int32} {o : Wd} (hσ : cOK σ) (hq : QR (some (.int (nI (certs (cH σ) (cN σ))))) ad (QW i ad σ th ro lo ma ap o))  : ∀ (n : Nat) (k : Nat), k + n = cN σ → V p l e s m args below meth c D ba d mc ms (MO D ba QR QX below args s mc ms) 3 ad (QW i ad σ th ro lo ma ap o) 4 [(2, .int (nI k)), (1, .int (nI (upF (certN (cH σ)) k 0))), (0, .ref (ad [i]))] [] 0 0 := by
  intro n
  induction n with
  | zero =>
    intro k hk
    have hσ1 := hσ.1
    refine V_iload_n C dX7_certified_4 0 rfl ?_
    refine V_aload_n C dX7_certified_5 2 rfl ?_
    refine V_get (ci := 6) (k := 1) C dX7_certified_6 RX7 RX7 TX7 17 fw_X7 rfl (by decide) tw_669 rfl rfl QW_o rfl ?_
    refine V_icmpn_ge (tgt := 36) C dX7_certified_9 (by decide) (by omega) (by omega) (fun hb1 => ?_) (fun hb1 => by exfalso; omega)
    refine V_iload_n C dX7_certified_36 1 rfl ?_
    exact V_iret C .int dX7_certified_37 hr rfl (by rw [show k = cN σ by omega]; exact hq) (by omega) (by omega)
  | succ n ih =>
    intro k hk
    have hσ1 := hσ.1
    refine V_iload_n C dX7_certified_4 0 rfl ?_
    refine V_aload_n C dX7_certified_5 2 rfl ?_
    refine V_get (ci := 6) (k := 1) C dX7_certified_6 RX7 RX7 TX7 17 fw_X7 rfl (by decide) tw_669 rfl rfl QW_o rfl ?_
    refine V_icmpn_ge (tgt := 36) C dX7_certified_9 (by decide) (by omega) (by omega) (fun hb1 => by exfalso; omega) (fun hb1 => ?_)
    refine V_iload_n C dX7_certified_12 1 rfl ?_
    refine V_aload_n C dX7_certified_13 2 rfl ?_
    refine V_get (ci := 6) (k := 8) C dX7_certified_14 RX7 RX7 TX7 17 fw_X7 rfl (by decide) tw_676 rfl rfl QW_o rfl ?_
    refine V_iload_n C dX7_certified_17 0 rfl ?_
    refine V_ialdn (v := (hCe (cH σ k))) C dX7_certified_18 rfl QW_4 (by omega) (by decide) (row0_in (by omega)) ?_
    refine V_iconst (v := -1) C dX7_certified_19 (by decide) ?_
    refine V_icmp_ne (tgt := 27) C dX7_certified_20 (by decide) (fun hb2 => ?_) (fun hb2 => ?_)
    · skip
      refine V_iconst (v := nI 1) C dX7_certified_27 (by decide) ?_
      refine V_iaddn C dX7_certified_28 ?_
      refine V_istore_n C [(1, .int (nI ((upF (certN (cH σ)) k 0) + 1))), (2, .int (nI k)), (0, .ref (ad [i]))] dX7_certified_29 (by decide) rfl ?_
      refine V_iincn C [(2, .int (nI (k + 1))), (1, .int (nI ((upF (certN (cH σ)) k 0) + 1))), (0, .ref (ad [i]))] dX7_certified_30 1 rfl (by decide) rfl ?_
      refine V_goto (tgt := 4) C dX7_certified_33 (by decide) ?_
      rw [show (upF (certN (cH σ)) k 0) + 1 = upF (certN (cH σ)) (k + 1) 0 from by show _ = certN _ _ _; unfold certN; rw [if_neg hb2]]
      refine V_lv [0, 1, 2] rfl ?_
      exact ih (k + 1) (by omega)
    · skip
      refine V_iconst (v := nI 0) C dX7_certified_23 (by decide) ?_
      refine V_goto (tgt := 28) C dX7_certified_24 (by decide) ?_
      refine V_iaddn C dX7_certified_28 ?_
      refine V_istore_n C [(1, .int (nI ((upF (certN (cH σ)) k 0) + 0))), (2, .int (nI k)), (0, .ref (ad [i]))] dX7_certified_29 (by decide) rfl ?_
      refine V_iincn C [(2, .int (nI (k + 1))), (1, .int (nI ((upF (certN (cH σ)) k 0) + 0))), (0, .ref (ad [i]))] dX7_certified_30 1 rfl (by decide) rfl ?_
      refine V_goto (tgt := 4) C dX7_certified_33 (by decide) ?_
      rw [show (upF (certN (cH σ)) k 0) + 0 = upF (certN (cH σ)) (k + 1) 0 from by rw [Nat.add_zero]; show _ = certN _ _ _; unfold certN; rw [if_pos hb2]]
      refine V_lv [0, 1, 2] rfl ?_
      exact ih (k + 1) (by omega)
set_option maxHeartbeats 4000000 in
theorem m_cert {l : Launch} {D : va_G} {ba d : Nat} {ad : Adr} (hl : l.stackTraces = false) (hd : 2 ≤ d) {i : Nat} {σ : CS} {th ro : Int32} {lo ma ap : Nat → Int32} {o : Wd} (hσ : cOK σ)  : CT l yX7_certified (wsO yX7_certified cX7_certified 3 (some .int)) d 0 0 D ba [.ref (ad [i])] ad (QW i ad σ th ro lo ma ap o) (isR (some (.int (nI (certs (cH σ) (cN σ))))) ad (QW i ad σ th ro lo ma ap o)) noX := by
  refine CT_of RX7 rfl (by decide +kernel) hl (Nat.le_of_ble_eq_true rfl) ?_
  intro p e s m args below meth c C hr hnm
  refine V_lvE (lv' := [(0, .ref (ad [i]))]) rfl ?_
  have hσ1 := hσ.1
  have hσ2 := hσ.2.1
  refine V_iconst (v := nI 0) C dX7_certified_0 (by decide) ?_
  refine V_istore_n C [(1, .int (nI 0)), (0, .ref (ad [i]))] dX7_certified_1 (by decide) rfl ?_
  refine V_iconst (v := nI 0) C dX7_certified_2 (by decide) ?_
  refine V_istore_n C [(2, .int (nI 0)), (1, .int (nI 0)), (0, .ref (ad [i]))] dX7_certified_3 (by decide) rfl ?_
  refine V_lv [0, 1, 2] rfl ?_
  exact lp_ce C hl hr (by omega) hσ ⟨rfl, rfl, rfl⟩ (cN σ) 0 (by omega)
set_option maxHeartbeats 4000000 in
theorem m_certifiedHalls {l : Launch} {D : va_G} {ba d : Nat} {ad : Adr} (hl : l.stackTraces = false) (hd : 4 ≤ d) {i : Nat} {σ : CS} {th ro : Int32} {lo ma ap : Nat → Int32} {o : Wd} (hσ : cOK σ)  : CT l yX7_certifiedHalls (wsO yX7_certifiedHalls cX7_certifiedHalls 1 (some .int)) d 8 64 D ba [.ref (ad [i])] ad (QW i ad σ th ro lo ma ap o) (RQ i ad σ o (nI 0) (some (.int (nI (certs (cH σ) (cN σ)))))) noX := by
  refine CT_of RX7 rfl (by decide +kernel) hl (Nat.le_of_ble_eq_true rfl) ?_
  intro p e s m args below meth c C hr hnm
  refine V_lvE (lv' := [(0, .ref (ad [i]))]) rfl ?_
  have hσ1 := hσ.1
  have hσ2 := hσ.2.1
  refine V_aload_n C dX7_certifiedHalls_0 0 rfl ?_
  refine V_iconst (v := nI 0) C dX7_certifiedHalls_1 (by decide) ?_
  refine V_put (ci := 6) (k := 0) C dX7_certifiedHalls_2 RX7 RX7 TX7 17 tyX7 tyX7_ok nmX7 fw_X7 rfl (by decide) tw_668 rfl (Or.inl rfl) rfl rfl rfl QW_o (Nat.le_of_ble_eq_true rfl) ?_
  refine V_wd (w' := wset (QW i ad σ th ro lo ma ap o) ([i]) (.inr (6, [.int (nI 0), .int (nI (cN σ)), .int (nI (cK σ)), .int (cDay σ), .int (cIns σ), .ref (ad [i, 1]), .ref (ad [i, 2]), .ref (ad [i, 3]), .ref (ad [i, 4]), .ref (ad [i, 5]), .ref (ad [i, 6]), .ref (ad [i, 7]), .ref (ad [i, 8]), .ref (ad [i, 9]), .ref (ad [i, 10]), .ref (ad [i, 11]), .int ro]))) rfl ?_
  refine V_wd (w' := QW i ad σ (nI 0) ro lo ma ap o) QW_th ?_
  refine V_aload_n C dX7_certifiedHalls_5 0 rfl ?_
  refine V_callV (r := (RX7, TX7, 17)) C [] dX7_certifiedHalls_6 m_X7_certified k_X7_certified tw_828 rfl rfl rfl QW_o rfl rfl (Nat.le_of_ble_eq_true rfl) ⟨by omega, by omega, by omega, by omega⟩ (m_cert hl (by omega) hσ) (kr_some (x := .int (nI (certs (cH σ) (cN σ)))) ?_) kx_no
  exact V_iret C .int dX7_certifiedHalls_9 hr rfl ⟨rfl, rfl, _, _, _, _, rfl⟩ (by omega) (by omega)
theorem older_step {v k : Nat} {σ : CS} {h : HallS} (hh : h = oldH v (olderH v (cH σ) k k)) : setH (cN σ, cK σ, cDay σ, cIns σ, olderH v (cH σ) k, cS σ) k h = (cN σ, cK σ, cDay σ, cIns σ, olderH v (cH σ) (k + 1), cS σ) := by
  subst hh
  show (_, _, _, _, fup (olderH v (cH σ) k) k _, _) = _
  rw [olderH_s]
set_option maxHeartbeats 4000000 in
theorem lp_mpass {p : Program} {l : Launch} {e : Env} {s : State} {m : MethodId} {args : Array Value} {below : List Frame} {meth : Method} {c : Code} {D : va_G} {ba d mc ms : Nat} {ad : Adr} {QR : Option Value → Adr → Wd → Prop} {QX : String → Adr → Wd → Prop} (C : Cx p l s m args meth c D ba RX7 cX7_passDays 3 [] d) (hl : l.stackTraces = false) (hr : meth.sig.returnType = (some .int)) (hd : 4 ≤ d) {i : Nat} {σ : CS} {th ro : Int32} {lo ma ap : Nat → Int32} {o : Wd} (hσ : cOK σ) {v : Nat} (hv : v ≤ 100) (hq : ∀ w9, w9 = QW i ad (cN σ, cK σ, cDay σ + nI v, cIns σ, olderH v (cH σ) (cN σ), cS σ) (nI 0) ro lo ma ap o → QR (some (.int (nI (certs (olderH v (cH σ) (cN σ)) (cN σ))))) ad w9)  : ∀ (n : Nat) (k : Nat), k + n = cN σ → V p l e s m args below meth c D ba d mc ms (MO D ba QR QX below args s mc ms) 3 ad (QW i ad (cN σ, cK σ, cDay σ, cIns σ, olderH v (cH σ) k, cS σ) (nI 0) ro lo ma ap o) 23 [(2, .int (nI k)), (0, .ref (ad [i])), (1, .int (nI v))] [] 0 0 := by
  intro n
  induction n with
  | zero =>
    intro k hk
    have hσ1 := hσ.1
    have hcn : cN (cN σ, cK σ, cDay σ, cIns σ, olderH v (cH σ) k, cS σ) = cN σ := rfl
    have hO := older_ok (v := v) (day := cDay σ) (m := k) hσ
    refine V_iload_n C dX7_passDays_23 0 rfl ?_
    refine V_aload_n C dX7_passDays_24 1 rfl ?_
    refine V_get (ci := 6) (k := 1) C dX7_passDays_25 RX7 RX7 TX7 17 fw_X7 rfl (by decide) tw_669 rfl rfl (QW_o (σ := (cN σ, cK σ, cDay σ, cIns σ, olderH v (cH σ) k, cS σ))) rfl ?_
    refine V_icmpn_ge (tgt := 84) C dX7_passDays_28 (by decide) (by omega) (by omega) (fun hb1 => ?_) (fun hb1 => by exfalso; omega)
    refine V_wd (w' := QW i ad (cN σ, cK σ, cDay σ, cIns σ, olderH v (cH σ) (cN σ), cS σ) (nI 0) ro lo ma ap o) (by rw [show k = cN σ by omega]) ?_
    refine V_aload_n C dX7_passDays_84 1 rfl ?_
    refine V_dup C dX7_passDays_85 rfl ?_
    refine V_get (ci := 6) (k := 3) C dX7_passDays_86 RX7 RX7 TX7 17 fw_X7 rfl (by decide) tw_671 rfl rfl (QW_o (σ := (cN σ, cK σ, cDay σ, cIns σ, olderH v (cH σ) (cN σ), cS σ))) rfl ?_
    refine V_iload_n C dX7_passDays_89 2 rfl ?_
    refine V_iadd C dX7_passDays_90 ?_
    refine V_put (ci := 6) (k := 3) C dX7_passDays_91 RX7 RX7 TX7 17 tyX7 tyX7_ok nmX7 fw_X7 rfl (by decide) tw_671 rfl (Or.inl rfl) rfl rfl rfl (QW_o (σ := (cN σ, cK σ, cDay σ, cIns σ, olderH v (cH σ) (cN σ), cS σ))) (Nat.le_of_ble_eq_true rfl) ?_
    refine V_wd (w' := wset (QW i ad (cN σ, cK σ, cDay σ, cIns σ, olderH v (cH σ) (cN σ), cS σ) (nI 0) ro lo ma ap o) ([i]) (.inr (6, [.int (nI 0), .int (nI (cN (cN σ, cK σ, cDay σ, cIns σ, olderH v (cH σ) (cN σ), cS σ))), .int (nI (cK (cN σ, cK σ, cDay σ, cIns σ, olderH v (cH σ) (cN σ), cS σ))), .int ((cDay (cN σ, cK σ, cDay σ, cIns σ, olderH v (cH σ) (cN σ), cS σ)) + (nI v)), .int (cIns (cN σ, cK σ, cDay σ, cIns σ, olderH v (cH σ) (cN σ), cS σ)), .ref (ad [i, 1]), .ref (ad [i, 2]), .ref (ad [i, 3]), .ref (ad [i, 4]), .ref (ad [i, 5]), .ref (ad [i, 6]), .ref (ad [i, 7]), .ref (ad [i, 8]), .ref (ad [i, 9]), .ref (ad [i, 10]), .ref (ad [i, 11]), .int ro]))) rfl ?_
    refine V_wd (w' := QW i ad (cN σ, cK σ, cDay σ + nI v, cIns σ, olderH v (cH σ) (cN σ), cS σ) (nI 0) ro lo ma ap o) (QW_o' (σ := (cN σ, cK σ, cDay σ, cIns σ, olderH v (cH σ) (cN σ), cS σ))) ?_
    refine V_aload_n C dX7_passDays_94 1 rfl ?_
    refine V_callV (r := (RX7, TX7, 17)) C [] dX7_passDays_95 m_X7_certified k_X7_certified tw_828 rfl rfl rfl (QW_o (σ := (cN σ, cK σ, cDay σ + nI v, cIns σ, olderH v (cH σ) (cN σ), cS σ))) rfl rfl (Nat.le_of_ble_eq_true rfl) ⟨by omega, by omega, by omega, by omega⟩ (m_cert (σ := (cN σ, cK σ, cDay σ + nI v, cIns σ, olderH v (cH σ) (cN σ), cS σ)) hl (by omega) (older_ok hσ)) (kr_some (x := .int (nI (certs (olderH v (cH σ) (cN σ)) (cN σ)))) ?_) kx_no
    exact V_iret C .int dX7_passDays_98 hr rfl (hq _ rfl) (by omega) (by omega)
  | succ n ih =>
    intro k hk
    have hσ1 := hσ.1
    have hcn : cN (cN σ, cK σ, cDay σ, cIns σ, olderH v (cH σ) k, cS σ) = cN σ := rfl
    have hO := older_ok (v := v) (day := cDay σ) (m := k) hσ
    have hks : k < cN σ := by omega
    have hok := hO.2.2.1 k hks
    have hok3 : hDu (olderH v (cH σ) k k) ≤ 100 := hok.2.2.1
    have hok4 : hDy (olderH v (cH σ) k k) ≤ 100 := hok.2.2.2.1
    refine V_iload_n C dX7_passDays_23 0 rfl ?_
    refine V_aload_n C dX7_passDays_24 1 rfl ?_
    refine V_get (ci := 6) (k := 1) C dX7_passDays_25 RX7 RX7 TX7 17 fw_X7 rfl (by decide) tw_669 rfl rfl (QW_o (σ := (cN σ, cK σ, cDay σ, cIns σ, olderH v (cH σ) k, cS σ))) rfl ?_
    refine V_icmpn_ge (tgt := 84) C dX7_passDays_28 (by decide) (by omega) (by omega) (fun hb1 => by exfalso; omega) (fun hb1 => ?_)
    refine V_wd (w' := QW i ad (setH (cN σ, cK σ, cDay σ, cIns σ, olderH v (cH σ) k, cS σ) k (hSc (olderH v (cH σ) k k), hDm (olderH v (cH σ) k k), hDu (olderH v (cH σ) k k), hCe (olderH v (cH σ) k k), hDy (olderH v (cH σ) k k), hSu (olderH v (cH σ) k k))) (nI 0) ro lo ma ap o) (by rw [show (hSc (olderH v (cH σ) k k), hDm (olderH v (cH σ) k k), hDu (olderH v (cH σ) k k), hCe (olderH v (cH σ) k k), hDy (olderH v (cH σ) k k), hSu (olderH v (cH σ) k k)) = cH (cN σ, cK σ, cDay σ, cIns σ, olderH v (cH σ) k, cS σ) k from rfl, setH_id]) ?_
    refine V_aload_n C dX7_passDays_31 1 rfl ?_
    refine V_get (ci := 6) (k := 7) C dX7_passDays_32 RX7 RX7 TX7 17 fw_X7 rfl (by decide) tw_675 rfl rfl (QW_o (σ := (setH (cN σ, cK σ, cDay σ, cIns σ, olderH v (cH σ) k, cS σ) k (hSc (olderH v (cH σ) k k), hDm (olderH v (cH σ) k k), hDu (olderH v (cH σ) k k), hCe (olderH v (cH σ) k k), hDy (olderH v (cH σ) k k), hSu (olderH v (cH σ) k k))))) rfl ?_
    refine V_iload_n C dX7_passDays_35 0 rfl ?_
    refine V_bipush (v := nI 100) C dX7_passDays_36 (by decide) ?_
    refine V_aload_n C dX7_passDays_38 1 rfl ?_
    refine V_get (ci := 6) (k := 7) C dX7_passDays_39 RX7 RX7 TX7 17 fw_X7 rfl (by decide) tw_675 rfl rfl (QW_o (σ := (setH (cN σ, cK σ, cDay σ, cIns σ, olderH v (cH σ) k, cS σ) k (hSc (olderH v (cH σ) k k), hDm (olderH v (cH σ) k k), hDu (olderH v (cH σ) k k), hCe (olderH v (cH σ) k k), hDy (olderH v (cH σ) k k), hSu (olderH v (cH σ) k k))))) rfl ?_
    refine V_iload_n C dX7_passDays_42 0 rfl ?_
    refine V_ialdn (v := (nI (hDu (olderH v (cH σ) k k)))) C dX7_passDays_43 rfl (QW_3 (σ := (setH (cN σ, cK σ, cDay σ, cIns σ, olderH v (cH σ) k, cS σ) k (hSc (olderH v (cH σ) k k), hDm (olderH v (cH σ) k k), hDu (olderH v (cH σ) k k), hCe (olderH v (cH σ) k k), hDy (olderH v (cH σ) k k), hSu (olderH v (cH σ) k k))))) (by omega) (by decide) (rdh_Du (σ := (cN σ, cK σ, cDay σ, cIns σ, olderH v (cH σ) k, cS σ)) hks) ?_
    refine V_iload_n C dX7_passDays_44 2 rfl ?_
    refine V_iaddn C dX7_passDays_45 ?_
    refine V_min C dX7_passDays_46 tw_827 tw_505 tw_15 tw_506 (by omega) (by simp [Value.category]; try omega) (by omega) (by omega) ?_
    rw [show (if (nI ((hDu (olderH v (cH σ) k k)) + v)) < (nI 100) then (nI ((hDu (olderH v (cH σ) k k)) + v)) else (nI 100)) = (nI (min 100 (hDu (olderH v (cH σ) k k) + v))) from nI_min (by omega) (by omega)]
    refine V_iastn C dX7_passDays_49 rfl (QW_3 (σ := (setH (cN σ, cK σ, cDay σ, cIns σ, olderH v (cH σ) k, cS σ) k (hSc (olderH v (cH σ) k k), hDm (olderH v (cH σ) k k), hDu (olderH v (cH σ) k k), hCe (olderH v (cH σ) k k), hDy (olderH v (cH σ) k k), hSu (olderH v (cH σ) k k))))) (by omega) (by decide) ?_
    refine V_wd (w' := wset (QW i ad (setH (cN σ, cK σ, cDay σ, cIns σ, olderH v (cH σ) k, cS σ) k (hSc (olderH v (cH σ) k k), hDm (olderH v (cH σ) k k), hDu (olderH v (cH σ) k k), hCe (olderH v (cH σ) k k), hDy (olderH v (cH σ) k k), hSu (olderH v (cH σ) k k))) (nI 0) ro lo ma ap o) ([i, 3]) (eI 8 (upd (aDu (setH (cN σ, cK σ, cDay σ, cIns σ, olderH v (cH σ) k, cS σ) k (hSc (olderH v (cH σ) k k), hDm (olderH v (cH σ) k k), hDu (olderH v (cH σ) k k), hCe (olderH v (cH σ) k k), hDy (olderH v (cH σ) k k), hSu (olderH v (cH σ) k k)))) k (nI (min 100 (hDu (olderH v (cH σ) k k) + v)))))) rfl ?_
    refine V_wd (w' := QW i ad (setH (cN σ, cK σ, cDay σ, cIns σ, olderH v (cH σ) k, cS σ) k (hSc (olderH v (cH σ) k k), hDm (olderH v (cH σ) k k), min 100 (hDu (olderH v (cH σ) k k) + v), hCe (olderH v (cH σ) k k), hDy (olderH v (cH σ) k k), hSu (olderH v (cH σ) k k))) (nI 0) ro lo ma ap o) (QW_h3 (σ := (cN σ, cK σ, cDay σ, cIns σ, olderH v (cH σ) k, cS σ)) (h := (hSc (olderH v (cH σ) k k), hDm (olderH v (cH σ) k k), hDu (olderH v (cH σ) k k), hCe (olderH v (cH σ) k k), hDy (olderH v (cH σ) k k), hSu (olderH v (cH σ) k k))) (h' := (hSc (olderH v (cH σ) k k), hDm (olderH v (cH σ) k k), min 100 (hDu (olderH v (cH σ) k k) + v), hCe (olderH v (cH σ) k k), hDy (olderH v (cH σ) k k), hSu (olderH v (cH σ) k k))) hks rfl) ?_
    refine V_aload_n C dX7_passDays_50 1 rfl ?_
    refine V_get (ci := 6) (k := 9) C dX7_passDays_51 RX7 RX7 TX7 17 fw_X7 rfl (by decide) tw_677 rfl rfl (QW_o (σ := (setH (cN σ, cK σ, cDay σ, cIns σ, olderH v (cH σ) k, cS σ) k (hSc (olderH v (cH σ) k k), hDm (olderH v (cH σ) k k), min 100 (hDu (olderH v (cH σ) k k) + v), hCe (olderH v (cH σ) k k), hDy (olderH v (cH σ) k k), hSu (olderH v (cH σ) k k))))) rfl ?_
    refine V_iload_n C dX7_passDays_54 0 rfl ?_
    refine V_ialdn (v := (nI (hDy (olderH v (cH σ) k k)))) C dX7_passDays_55 rfl (QW_5 (σ := (setH (cN σ, cK σ, cDay σ, cIns σ, olderH v (cH σ) k, cS σ) k (hSc (olderH v (cH σ) k k), hDm (olderH v (cH σ) k k), min 100 (hDu (olderH v (cH σ) k k) + v), hCe (olderH v (cH σ) k k), hDy (olderH v (cH σ) k k), hSu (olderH v (cH σ) k k))))) (by omega) (by decide) (rdh_Dy (σ := (cN σ, cK σ, cDay σ, cIns σ, olderH v (cH σ) k, cS σ)) hks) ?_
    refine V_iload_n C dX7_passDays_56 2 rfl ?_
    refine V_icmpn_gt (tgt := 68) C dX7_passDays_57 (by decide) (by omega) (by omega) (fun hb2 => ?_) (fun hb2 => ?_)
    · skip
      refine V_aload_n C dX7_passDays_68 1 rfl ?_
      refine V_get (ci := 6) (k := 9) C dX7_passDays_69 RX7 RX7 TX7 17 fw_X7 rfl (by decide) tw_677 rfl rfl (QW_o (σ := (setH (cN σ, cK σ, cDay σ, cIns σ, olderH v (cH σ) k, cS σ) k (hSc (olderH v (cH σ) k k), hDm (olderH v (cH σ) k k), min 100 (hDu (olderH v (cH σ) k k) + v), hCe (olderH v (cH σ) k k), hDy (olderH v (cH σ) k k), hSu (olderH v (cH σ) k k))))) rfl ?_
      refine V_iload_n C dX7_passDays_72 0 rfl ?_
      refine V_dup2 C dX7_passDays_73 rfl rfl ?_
      refine V_ialdn (v := (nI (hDy (olderH v (cH σ) k k)))) C dX7_passDays_74 rfl (QW_5 (σ := (setH (cN σ, cK σ, cDay σ, cIns σ, olderH v (cH σ) k, cS σ) k (hSc (olderH v (cH σ) k k), hDm (olderH v (cH σ) k k), min 100 (hDu (olderH v (cH σ) k k) + v), hCe (olderH v (cH σ) k k), hDy (olderH v (cH σ) k k), hSu (olderH v (cH σ) k k))))) (by omega) (by decide) (rdh_Dy (σ := (cN σ, cK σ, cDay σ, cIns σ, olderH v (cH σ) k, cS σ)) hks) ?_
      refine V_iload_n C dX7_passDays_75 2 rfl ?_
      refine V_isubn C dX7_passDays_76 (by omega) ?_
      refine V_iastn C dX7_passDays_77 rfl (QW_5 (σ := (setH (cN σ, cK σ, cDay σ, cIns σ, olderH v (cH σ) k, cS σ) k (hSc (olderH v (cH σ) k k), hDm (olderH v (cH σ) k k), min 100 (hDu (olderH v (cH σ) k k) + v), hCe (olderH v (cH σ) k k), hDy (olderH v (cH σ) k k), hSu (olderH v (cH σ) k k))))) (by omega) (by decide) ?_
      refine V_wd (w' := wset (QW i ad (setH (cN σ, cK σ, cDay σ, cIns σ, olderH v (cH σ) k, cS σ) k (hSc (olderH v (cH σ) k k), hDm (olderH v (cH σ) k k), min 100 (hDu (olderH v (cH σ) k k) + v), hCe (olderH v (cH σ) k k), hDy (olderH v (cH σ) k k), hSu (olderH v (cH σ) k k))) (nI 0) ro lo ma ap o) ([i, 5]) (eI 8 (upd (aDy (setH (cN σ, cK σ, cDay σ, cIns σ, olderH v (cH σ) k, cS σ) k (hSc (olderH v (cH σ) k k), hDm (olderH v (cH σ) k k), min 100 (hDu (olderH v (cH σ) k k) + v), hCe (olderH v (cH σ) k k), hDy (olderH v (cH σ) k k), hSu (olderH v (cH σ) k k)))) k (nI ((hDy (olderH v (cH σ) k k)) - v))))) rfl ?_
      refine V_wd (w' := QW i ad (setH (cN σ, cK σ, cDay σ, cIns σ, olderH v (cH σ) k, cS σ) k (hSc (olderH v (cH σ) k k), hDm (olderH v (cH σ) k k), min 100 (hDu (olderH v (cH σ) k k) + v), hCe (olderH v (cH σ) k k), hDy (olderH v (cH σ) k k) - v, hSu (olderH v (cH σ) k k))) (nI 0) ro lo ma ap o) (QW_h5 (σ := (cN σ, cK σ, cDay σ, cIns σ, olderH v (cH σ) k, cS σ)) (h := (hSc (olderH v (cH σ) k k), hDm (olderH v (cH σ) k k), min 100 (hDu (olderH v (cH σ) k k) + v), hCe (olderH v (cH σ) k k), hDy (olderH v (cH σ) k k), hSu (olderH v (cH σ) k k))) (h' := (hSc (olderH v (cH σ) k k), hDm (olderH v (cH σ) k k), min 100 (hDu (olderH v (cH σ) k k) + v), hCe (olderH v (cH σ) k k), hDy (olderH v (cH σ) k k) - v, hSu (olderH v (cH σ) k k))) hks rfl) ?_
      refine V_iincn C [(2, .int (nI (k + 1))), (0, .ref (ad [i])), (1, .int (nI v))] dX7_passDays_78 0 rfl (by decide) rfl ?_
      refine V_goto (tgt := 23) C dX7_passDays_81 (by decide) ?_
      refine V_wd (w' := QW i ad (cN σ, cK σ, cDay σ, cIns σ, olderH v (cH σ) (k + 1), cS σ) (nI 0) ro lo ma ap o) (by rw [show (setH (cN σ, cK σ, cDay σ, cIns σ, olderH v (cH σ) k, cS σ) k (hSc (olderH v (cH σ) k k), hDm (olderH v (cH σ) k k), min 100 (hDu (olderH v (cH σ) k k) + v), hCe (olderH v (cH σ) k k), hDy (olderH v (cH σ) k k) - v, hSu (olderH v (cH σ) k k))) = (cN σ, cK σ, cDay σ, cIns σ, olderH v (cH σ) (k + 1), cS σ) from (older_step (by show _ = (_, _, _, _, _, _); rw [if_pos (by omega)]))]) ?_
      refine V_lv [0, 1, 2] rfl ?_
      exact ih (k + 1) (by omega)
    · skip
      refine V_aload_n C dX7_passDays_60 1 rfl ?_
      refine V_iload_n C dX7_passDays_61 0 rfl ?_
      refine V_callV (r := (RX7, TX7, 17)) C [.int (nI k)] dX7_passDays_62 m_X7_strike k_X7_strike tw_743 rfl rfl rfl (QW_o (σ := (setH (cN σ, cK σ, cDay σ, cIns σ, olderH v (cH σ) k, cS σ) k (hSc (olderH v (cH σ) k k), hDm (olderH v (cH σ) k k), min 100 (hDu (olderH v (cH σ) k k) + v), hCe (olderH v (cH σ) k k), hDy (olderH v (cH σ) k k), hSu (olderH v (cH σ) k k))))) rfl rfl (Nat.le_of_ble_eq_true rfl) ⟨by omega, by omega, by omega, by omega⟩ (m_strike (σ := (cN σ, cK σ, cDay σ, cIns σ, olderH v (cH σ) k, cS σ)) hl (by omega) hO hks) (kr_none ?_) kx_no
      refine V_goto (tgt := 78) C dX7_passDays_65 (by decide) ?_
      refine V_iincn C [(2, .int (nI (k + 1))), (0, .ref (ad [i])), (1, .int (nI v))] dX7_passDays_78 0 rfl (by decide) rfl ?_
      refine V_goto (tgt := 23) C dX7_passDays_81 (by decide) ?_
      refine V_wd (w' := QW i ad (cN σ, cK σ, cDay σ, cIns σ, olderH v (cH σ) (k + 1), cS σ) (nI 0) ro lo ma ap o) (by rw [show (setH (cN σ, cK σ, cDay σ, cIns σ, olderH v (cH σ) k, cS σ) k (hSc (olderH v (cH σ) k k), hDm (olderH v (cH σ) k k), min 100 (hDu (olderH v (cH σ) k k) + v), -1, 0, hSu (olderH v (cH σ) k k))) = (cN σ, cK σ, cDay σ, cIns σ, olderH v (cH σ) (k + 1), cS σ) from (older_step (by show _ = (_, _, _, _, _, _); rw [if_neg (by omega), show hDy (olderH v (cH σ) k k) - v = 0 by omega]))]) ?_
      refine V_lv [0, 1, 2] rfl ?_
      exact ih (k + 1) (by omega)
set_option maxHeartbeats 4000000 in
theorem m_pass {l : Launch} {D : va_G} {ba d : Nat} {ad : Adr} (hl : l.stackTraces = false) (hd : 4 ≤ d) {i : Nat} {σ : CS} {th ro : Int32} {lo ma ap : Nat → Int32} {o : Wd} (hσ : cOK σ) {v : Nat} (hv : v ≤ 100) (hin : ¬ inR (nI v) (nI 1) (nI 100) = 0)  : CT l yX7_passDays (wsO yX7_passDays cX7_passDays 3 (some .int)) d 8 64 D ba [.ref (ad [i]), .int (nI v)] ad (QW i ad σ th ro lo ma ap o) (RQ i ad (cN σ, cK σ, cDay σ + nI v, cIns σ, olderH v (cH σ) (cN σ), cS σ) o (nI 0) (some (.int (nI (certs (olderH v (cH σ) (cN σ)) (cN σ)))))) noX := by
  refine CT_of RX7 rfl (by decide +kernel) hl (Nat.le_of_ble_eq_true rfl) ?_
  intro p e s m args below meth c C hr hnm
  refine V_lvE (lv' := [(0, .ref (ad [i])), (1, .int (nI v))]) rfl ?_
  have hσ1 := hσ.1
  have hσ2 := hσ.2.1
  refine V_aload_n C dX7_passDays_0 0 rfl ?_
  refine V_iconst (v := nI 0) C dX7_passDays_1 (by decide) ?_
  refine V_put (ci := 6) (k := 0) C dX7_passDays_2 RX7 RX7 TX7 17 tyX7 tyX7_ok nmX7 fw_X7 rfl (by decide) tw_668 rfl (Or.inl rfl) rfl rfl rfl QW_o (Nat.le_of_ble_eq_true rfl) ?_
  refine V_wd (w' := wset (QW i ad σ th ro lo ma ap o) ([i]) (.inr (6, [.int (nI 0), .int (nI (cN σ)), .int (nI (cK σ)), .int (cDay σ), .int (cIns σ), .ref (ad [i, 1]), .ref (ad [i, 2]), .ref (ad [i, 3]), .ref (ad [i, 4]), .ref (ad [i, 5]), .ref (ad [i, 6]), .ref (ad [i, 7]), .ref (ad [i, 8]), .ref (ad [i, 9]), .ref (ad [i, 10]), .ref (ad [i, 11]), .int ro]))) rfl ?_
  refine V_wd (w' := QW i ad σ (nI 0) ro lo ma ap o) QW_th ?_
  refine V_iload_n C dX7_passDays_5 1 rfl ?_
  refine V_iconst (v := nI 1) C dX7_passDays_6 (by decide) ?_
  refine V_bipush (v := nI 100) C dX7_passDays_7 (by decide) ?_
  have hin9 := inR_le (nI v) (nI 1) (nI 100)
  refine V_callS C [.int (nI v), .int (nI 1), .int (nI 100)] dX7_passDays_9 m_X7_isIn k_X7_isIn tw_728 rfl rfl (Nat.le_of_ble_eq_true rfl) ⟨by omega, by omega, by omega, by omega⟩ (m_isIn hl (by omega) (nI v) (nI 1) (nI 100)) (kr_some (x := .int (nI (inR (nI v) (nI 1) (nI 100)))) ?_) kx_no
  refine V_ifn_ne (tgt := 21) C dX7_passDays_12 (by decide) (by omega) (fun hb1 => ?_) (fun hb1 => by exfalso; exact hin hb1)
  refine V_iconst (v := nI 0) C dX7_passDays_21 (by decide) ?_
  refine V_istore_n C [(2, .int (nI 0)), (0, .ref (ad [i])), (1, .int (nI v))] dX7_passDays_22 (by decide) rfl ?_
  refine V_wd (w' := QW i ad (cN σ, cK σ, cDay σ, cIns σ, olderH v (cH σ) 0, cS σ) (nI 0) ro lo ma ap o) (by rw [olderH_0]) ?_
  refine V_lv [0, 1, 2] rfl ?_
  exact lp_mpass (th := th) C hl hr (by omega) hσ hv (fun _ z => ⟨rfl, rfl, _, _, _, _, z⟩) (cN σ) 0 (by omega)
set_option maxHeartbeats 4000000 in
theorem m_pass_bad {l : Launch} {D : va_G} {ba d : Nat} {ad : Adr} (hl : l.stackTraces = false) (hd : 4 ≤ d) {i : Nat} {σ : CS} {th ro : Int32} {lo ma ap : Nat → Int32} {o : Wd} (hσ : cOK σ) {x : Int32} (hin : inR x (nI 1) (nI 100) = 0)  : CT l yX7_passDays (wsO yX7_passDays cX7_passDays 3 (some .int)) d 8 64 D ba [.ref (ad [i]), .int x] ad (QW i ad σ th ro lo ma ap o) (RQ i ad σ o (nI 1) (some (.int (nI 0)))) noX := by
  refine CT_of RX7 rfl (by decide +kernel) hl (Nat.le_of_ble_eq_true rfl) ?_
  intro p e s m args below meth c C hr hnm
  refine V_lvE (lv' := [(0, .ref (ad [i])), (1, .int x)]) rfl ?_
  have hσ1 := hσ.1
  have hσ2 := hσ.2.1
  refine V_aload_n C dX7_passDays_0 0 rfl ?_
  refine V_iconst (v := nI 0) C dX7_passDays_1 (by decide) ?_
  refine V_put (ci := 6) (k := 0) C dX7_passDays_2 RX7 RX7 TX7 17 tyX7 tyX7_ok nmX7 fw_X7 rfl (by decide) tw_668 rfl (Or.inl rfl) rfl rfl rfl QW_o (Nat.le_of_ble_eq_true rfl) ?_
  refine V_wd (w' := wset (QW i ad σ th ro lo ma ap o) ([i]) (.inr (6, [.int (nI 0), .int (nI (cN σ)), .int (nI (cK σ)), .int (cDay σ), .int (cIns σ), .ref (ad [i, 1]), .ref (ad [i, 2]), .ref (ad [i, 3]), .ref (ad [i, 4]), .ref (ad [i, 5]), .ref (ad [i, 6]), .ref (ad [i, 7]), .ref (ad [i, 8]), .ref (ad [i, 9]), .ref (ad [i, 10]), .ref (ad [i, 11]), .int ro]))) rfl ?_
  refine V_wd (w' := QW i ad σ (nI 0) ro lo ma ap o) QW_th ?_
  refine V_iload_n C dX7_passDays_5 1 rfl ?_
  refine V_iconst (v := nI 1) C dX7_passDays_6 (by decide) ?_
  refine V_bipush (v := nI 100) C dX7_passDays_7 (by decide) ?_
  have hin9 := inR_le x (nI 1) (nI 100)
  refine V_callS C [.int x, .int (nI 1), .int (nI 100)] dX7_passDays_9 m_X7_isIn k_X7_isIn tw_728 rfl rfl (Nat.le_of_ble_eq_true rfl) ⟨by omega, by omega, by omega, by omega⟩ (m_isIn hl (by omega) x (nI 1) (nI 100)) (kr_some (x := .int (nI (inR x (nI 1) (nI 100)))) ?_) kx_no
  rw [show inR x (nI 1) (nI 100) = 0 from hin]
  refine V_ifn_ne (tgt := 21) C dX7_passDays_12 (by decide) (by decide) (fun hb1 => by exfalso; omega) (fun hb1 => ?_)
  refine V_aload_n C dX7_passDays_15 0 rfl ?_
  refine V_iconst (v := nI 1) C dX7_passDays_16 (by decide) ?_
  refine V_callV (r := (RX7, TX7, 17)) C [.int (nI 1)] dX7_passDays_17 m_X7_fail k_X7_fail tw_731 rfl rfl rfl QW_o rfl rfl (Nat.le_of_ble_eq_true rfl) ⟨by omega, by omega, by omega, by omega⟩ (m_fail hl (by omega) (nI 1)) (kr_some (x := .int (nI 0)) ?_) kx_no
  exact V_iret C .int dX7_passDays_20 hr rfl ⟨rfl, rfl, _, _, _, _, rfl⟩ (by omega) (by omega)
set_option maxHeartbeats 4000000 in
theorem m_isPair {l : Launch} {D : va_G} {ba d : Nat} {ad : Adr} (hl : l.stackTraces = false) (hd : 3 ≤ d) {i : Nat} {σ : CS} {th ro : Int32} {lo ma ap : Nat → Int32} {o : Wd} (hσ : cOK σ) {j : Nat} (hj : j < cN σ) {q : Nat} (hq : q < cK σ)  : CT l yX7_isPair (wsO yX7_isPair cX7_isPair 3 (some .boolean)) d 0 0 D ba [.ref (ad [i]), .int (nI j), .int (nI q)] ad (QW i ad σ th ro lo ma ap o) (isR (some (.int (nI 1))) ad (QW i ad σ (nI 0) ro lo ma ap o)) noX := by
  refine CT_of RX7 rfl (by decide +kernel) hl (Nat.le_of_ble_eq_true rfl) ?_
  intro p e s m args below meth c C hr hnm
  refine V_lvE (lv' := [(0, .ref (ad [i])), (1, .int (nI j)), (2, .int (nI q))]) rfl ?_
  have hσ1 := hσ.1
  have hσ2 := hσ.2.1
  refine V_aload_n C dX7_isPair_0 0 rfl ?_
  refine V_aload_n C dX7_isPair_1 0 rfl ?_
  refine V_iload_n C dX7_isPair_2 1 rfl ?_
  refine V_callV (r := (RX7, TX7, 17)) C [.int (nI j)] dX7_isPair_3 m_X7_isHall k_X7_isHall tw_739 rfl rfl rfl QW_o rfl rfl (Nat.le_of_ble_eq_true rfl) ⟨by omega, by omega, by omega, by omega⟩ (m_isHall hl (by omega) hσ hj) (kr_some (x := .int (nI 1)) ?_) kx_no
  refine V_ifn_eq (tgt := 21) C dX7_isPair_6 (by decide) (by decide) (fun hb1 => by exfalso; omega) (fun hb1 => ?_)
  refine V_aload_n C dX7_isPair_9 0 rfl ?_
  refine V_iload_n C dX7_isPair_10 2 rfl ?_
  refine V_callV (r := (RX7, TX7, 17)) C [.int (nI q)] dX7_isPair_11 m_X7_isStandard k_X7_isStandard tw_778 rfl rfl rfl QW_o rfl rfl (Nat.le_of_ble_eq_true rfl) ⟨by omega, by omega, by omega, by omega⟩ (m_isStd hl (by omega) hσ hq) (kr_some (x := .int (nI 1)) ?_) kx_no
  refine V_ifn_eq (tgt := 21) C dX7_isPair_14 (by decide) (by decide) (fun hb2 => by exfalso; omega) (fun hb2 => ?_)
  refine V_iconst (v := nI 0) C dX7_isPair_17 (by decide) ?_
  refine V_goto (tgt := 22) C dX7_isPair_18 (by decide) ?_
  refine V_put (ci := 6) (k := 0) C dX7_isPair_22 RX7 RX7 TX7 17 tyX7 tyX7_ok nmX7 fw_X7 rfl (by decide) tw_668 rfl (Or.inl rfl) rfl rfl rfl QW_o (Nat.le_of_ble_eq_true rfl) ?_
  refine V_wd (w' := wset (QW i ad σ th ro lo ma ap o) ([i]) (.inr (6, [.int (nI 0), .int (nI (cN σ)), .int (nI (cK σ)), .int (cDay σ), .int (cIns σ), .ref (ad [i, 1]), .ref (ad [i, 2]), .ref (ad [i, 3]), .ref (ad [i, 4]), .ref (ad [i, 5]), .ref (ad [i, 6]), .ref (ad [i, 7]), .ref (ad [i, 8]), .ref (ad [i, 9]), .ref (ad [i, 10]), .ref (ad [i, 11]), .int ro]))) rfl ?_
  refine V_wd (w' := QW i ad σ (nI 0) ro lo ma ap o) QW_th ?_
  refine V_aload_n C dX7_isPair_25 0 rfl ?_
  refine V_get (ci := 6) (k := 0) C dX7_isPair_26 RX7 RX7 TX7 17 fw_X7 rfl (by decide) tw_668 rfl rfl QW_o rfl ?_
  refine V_ifn_ne (tgt := 36) C dX7_isPair_29 (by decide) (by decide) (fun hb3 => by exfalso; omega) (fun hb3 => ?_)
  refine V_iconst (v := nI 1) C dX7_isPair_32 (by decide) ?_
  refine V_goto (tgt := 37) C dX7_isPair_33 (by decide) ?_
  exact V_iret C .boolean dX7_isPair_37 hr rfl ⟨rfl, rfl, rfl⟩ (by omega) (by omega)
set_option maxHeartbeats 4000000 in
theorem m_isPair_no {l : Launch} {D : va_G} {ba d : Nat} {ad : Adr} (hl : l.stackTraces = false) (hd : 3 ≤ d) {i : Nat} {σ : CS} {th ro : Int32} {lo ma ap : Nat → Int32} {o : Wd} (hσ : cOK σ) {x : Int32} (hx : ∀ j, j < cN σ → x ≠ nI j) (y : Int32)  : CT l yX7_isPair (wsO yX7_isPair cX7_isPair 3 (some .boolean)) d 0 0 D ba [.ref (ad [i]), .int x, .int y] ad (QW i ad σ th ro lo ma ap o) (isR (some (.int (nI 0))) ad (QW i ad σ (nI 1) ro lo ma ap o)) noX := by
  refine CT_of RX7 rfl (by decide +kernel) hl (Nat.le_of_ble_eq_true rfl) ?_
  intro p e s m args below meth c C hr hnm
  refine V_lvE (lv' := [(0, .ref (ad [i])), (1, .int x), (2, .int y)]) rfl ?_
  have hσ1 := hσ.1
  have hσ2 := hσ.2.1
  refine V_aload_n C dX7_isPair_0 0 rfl ?_
  refine V_aload_n C dX7_isPair_1 0 rfl ?_
  refine V_iload_n C dX7_isPair_2 1 rfl ?_
  refine V_callV (r := (RX7, TX7, 17)) C [.int x] dX7_isPair_3 m_X7_isHall k_X7_isHall tw_739 rfl rfl rfl QW_o rfl rfl (Nat.le_of_ble_eq_true rfl) ⟨by omega, by omega, by omega, by omega⟩ (m_isHall_no hl (by omega) hσ hx) (kr_some (x := .int (nI 0)) ?_) kx_no
  refine V_ifn_eq (tgt := 21) C dX7_isPair_6 (by decide) (by decide) (fun hb1 => ?_) (fun hb1 => by exfalso; omega)
  refine V_iconst (v := nI 1) C dX7_isPair_21 (by decide) ?_
  refine V_put (ci := 6) (k := 0) C dX7_isPair_22 RX7 RX7 TX7 17 tyX7 tyX7_ok nmX7 fw_X7 rfl (by decide) tw_668 rfl (Or.inl rfl) rfl rfl rfl QW_o (Nat.le_of_ble_eq_true rfl) ?_
  refine V_wd (w' := wset (QW i ad σ th ro lo ma ap o) ([i]) (.inr (6, [.int (nI 1), .int (nI (cN σ)), .int (nI (cK σ)), .int (cDay σ), .int (cIns σ), .ref (ad [i, 1]), .ref (ad [i, 2]), .ref (ad [i, 3]), .ref (ad [i, 4]), .ref (ad [i, 5]), .ref (ad [i, 6]), .ref (ad [i, 7]), .ref (ad [i, 8]), .ref (ad [i, 9]), .ref (ad [i, 10]), .ref (ad [i, 11]), .int ro]))) rfl ?_
  refine V_wd (w' := QW i ad σ (nI 1) ro lo ma ap o) QW_th ?_
  refine V_aload_n C dX7_isPair_25 0 rfl ?_
  refine V_get (ci := 6) (k := 0) C dX7_isPair_26 RX7 RX7 TX7 17 fw_X7 rfl (by decide) tw_668 rfl rfl QW_o rfl ?_
  refine V_ifn_ne (tgt := 36) C dX7_isPair_29 (by decide) (by decide) (fun hb2 => ?_) (fun hb2 => by exfalso; omega)
  refine V_iconst (v := nI 0) C dX7_isPair_36 (by decide) ?_
  exact V_iret C .boolean dX7_isPair_37 hr rfl ⟨rfl, rfl, rfl⟩ (by omega) (by omega)
set_option maxHeartbeats 4000000 in
theorem m_isPair_no2 {l : Launch} {D : va_G} {ba d : Nat} {ad : Adr} (hl : l.stackTraces = false) (hd : 3 ≤ d) {i : Nat} {σ : CS} {th ro : Int32} {lo ma ap : Nat → Int32} {o : Wd} (hσ : cOK σ) {j : Nat} (hj : j < cN σ) {x2 : Int32} (hx2 : ∀ j, j < cK σ → x2 ≠ nI j)  : CT l yX7_isPair (wsO yX7_isPair cX7_isPair 3 (some .boolean)) d 0 0 D ba [.ref (ad [i]), .int (nI j), .int x2] ad (QW i ad σ th ro lo ma ap o) (isR (some (.int (nI 0))) ad (QW i ad σ (nI 1) ro lo ma ap o)) noX := by
  refine CT_of RX7 rfl (by decide +kernel) hl (Nat.le_of_ble_eq_true rfl) ?_
  intro p e s m args below meth c C hr hnm
  refine V_lvE (lv' := [(0, .ref (ad [i])), (1, .int (nI j)), (2, .int x2)]) rfl ?_
  have hσ1 := hσ.1
  have hσ2 := hσ.2.1
  refine V_aload_n C dX7_isPair_0 0 rfl ?_
  refine V_aload_n C dX7_isPair_1 0 rfl ?_
  refine V_iload_n C dX7_isPair_2 1 rfl ?_
  refine V_callV (r := (RX7, TX7, 17)) C [.int (nI j)] dX7_isPair_3 m_X7_isHall k_X7_isHall tw_739 rfl rfl rfl QW_o rfl rfl (Nat.le_of_ble_eq_true rfl) ⟨by omega, by omega, by omega, by omega⟩ (m_isHall hl (by omega) hσ hj) (kr_some (x := .int (nI 1)) ?_) kx_no
  refine V_ifn_eq (tgt := 21) C dX7_isPair_6 (by decide) (by decide) (fun hb1 => by exfalso; omega) (fun hb1 => ?_)
  refine V_aload_n C dX7_isPair_9 0 rfl ?_
  refine V_iload_n C dX7_isPair_10 2 rfl ?_
  refine V_callV (r := (RX7, TX7, 17)) C [.int x2] dX7_isPair_11 m_X7_isStandard k_X7_isStandard tw_778 rfl rfl rfl QW_o rfl rfl (Nat.le_of_ble_eq_true rfl) ⟨by omega, by omega, by omega, by omega⟩ (m_isStd_no hl (by omega) hσ hx2) (kr_some (x := .int (nI 0)) ?_) kx_no
  refine V_ifn_eq (tgt := 21) C dX7_isPair_14 (by decide) (by decide) (fun hb2 => ?_) (fun hb2 => by exfalso; omega)
  refine V_iconst (v := nI 1) C dX7_isPair_21 (by decide) ?_
  refine V_put (ci := 6) (k := 0) C dX7_isPair_22 RX7 RX7 TX7 17 tyX7 tyX7_ok nmX7 fw_X7 rfl (by decide) tw_668 rfl (Or.inl rfl) rfl rfl rfl QW_o (Nat.le_of_ble_eq_true rfl) ?_
  refine V_wd (w' := wset (QW i ad σ th ro lo ma ap o) ([i]) (.inr (6, [.int (nI 1), .int (nI (cN σ)), .int (nI (cK σ)), .int (cDay σ), .int (cIns σ), .ref (ad [i, 1]), .ref (ad [i, 2]), .ref (ad [i, 3]), .ref (ad [i, 4]), .ref (ad [i, 5]), .ref (ad [i, 6]), .ref (ad [i, 7]), .ref (ad [i, 8]), .ref (ad [i, 9]), .ref (ad [i, 10]), .ref (ad [i, 11]), .int ro]))) rfl ?_
  refine V_wd (w' := QW i ad σ (nI 1) ro lo ma ap o) QW_th ?_
  refine V_aload_n C dX7_isPair_25 0 rfl ?_
  refine V_get (ci := 6) (k := 0) C dX7_isPair_26 RX7 RX7 TX7 17 fw_X7 rfl (by decide) tw_668 rfl rfl QW_o rfl ?_
  refine V_ifn_ne (tgt := 36) C dX7_isPair_29 (by decide) (by decide) (fun hb3 => ?_) (fun hb3 => by exfalso; omega)
  refine V_iconst (v := nI 0) C dX7_isPair_36 (by decide) ?_
  exact V_iret C .boolean dX7_isPair_37 hr rfl ⟨rfl, rfl, rfl⟩ (by omega) (by omega)
