/-- the first n of a row, 0 behind them -/
def row0 (n : Nat) (g : Nat → Int32) : Nat → Int32 := fun j => if j < n then g j else 0
abbrev aSc (σ : CS) : Nat → Int32 := row0 (cN σ) (fun j => nI (hSc (cH σ j)))
abbrev aDm (σ : CS) : Nat → Int32 := row0 (cN σ) (fun j => nI (hDm (cH σ j)))
abbrev aDu (σ : CS) : Nat → Int32 := row0 (cN σ) (fun j => nI (hDu (cH σ j)))
abbrev aCe (σ : CS) : Nat → Int32 := row0 (cN σ) (fun j => hCe (cH σ j))
abbrev aDy (σ : CS) : Nat → Int32 := row0 (cN σ) (fun j => nI (hDy (cH σ j)))
def aDs (σ : CS) : Nat → Int32 := fun x => if x / 6 < cN σ ∧ x % 6 < hSc (cH σ (x / 6)) then nI (hSu (cH σ (x / 6)) (x % 6)).2 else 0
def aHb (σ : CS) : Nat → Int32 := fun x => if x / 6 < cN σ ∧ x % 6 < hSc (cH σ (x / 6)) then nI (hSu (cH σ (x / 6)) (x % 6)).1 else 0
def stF (s : StdS) : Nat → Nat
  | 0 => s.1
  | 1 => s.2.1
  | 2 => s.2.2.1
  | 3 => s.2.2.2.1
  | _ => s.2.2.2.2
def aRu (σ : CS) : Nat → Int32 := fun x => if x / 5 < cK σ then nI (stF (cS σ (x / 5)) (x % 5)) else 0
abbrev eMod (i : Nat) (ad : Adr) (th : Int32) (n k : Nat) (day ins ro : Int32) : Ent := .inr (6, [.int th, .int (nI n), .int (nI k), .int day, .int ins, .ref (ad [i, 1]), .ref (ad [i, 2]), .ref (ad [i, 3]), .ref (ad [i, 4]), .ref (ad [i, 5]), .ref (ad [i, 6]), .ref (ad [i, 7]), .ref (ad [i, 8]), .ref (ad [i, 9]), .ref (ad [i, 10]), .ref (ad [i, 11]), .int ro])
def MC (i : Nat) (ad : Adr) (σ : CS) (th ro : Int32) (lo ma ap : Nat → Int32) : Wd := fun L => match L with
  | [] => some (eMod i ad th (cN σ) (cK σ) (cDay σ) (cIns σ) ro)
  | [c] => if c = 1 then some (eI 8 (aSc σ)) else if c = 2 then some (eI 8 (aDm σ)) else if c = 3 then some (eI 8 (aDu σ)) else if c = 4 then some (eI 8 (aCe σ)) else if c = 5 then some (eI 8 (aDy σ)) else if c = 6 then some (eI 48 (aDs σ)) else if c = 7 then some (eI 48 (aHb σ)) else if c = 8 then some (eI 25 (aRu σ)) else if c = 9 then some (eI 3000 lo) else if c = 10 then some (eI 6 ma) else if c = 11 then some (eI 6 ap) else none
  | _ :: _ :: _ => none
abbrev QW (i : Nat) (ad : Adr) (σ : CS) (th ro : Int32) (lo ma ap : Nat → Int32) (o : Wd) : Wd := put i (MC i ad σ th ro lo ma ap) o
section QWL
variable {i : Nat} {ad : Adr} {σ : CS} {th ro : Int32} {lo ma ap : Nat → Int32} {o : Wd}
theorem QW_o : QW i ad σ th ro lo ma ap o [i] = some (eMod i ad th (cN σ) (cK σ) (cDay σ) (cIns σ) ro) := put_s
theorem QW_1 : QW i ad σ th ro lo ma ap o [i, 1] = some (eI 8 (aSc σ)) := put_s
theorem QW_2 : QW i ad σ th ro lo ma ap o [i, 2] = some (eI 8 (aDm σ)) := put_s
theorem QW_3 : QW i ad σ th ro lo ma ap o [i, 3] = some (eI 8 (aDu σ)) := put_s
theorem QW_4 : QW i ad σ th ro lo ma ap o [i, 4] = some (eI 8 (aCe σ)) := put_s
theorem QW_5 : QW i ad σ th ro lo ma ap o [i, 5] = some (eI 8 (aDy σ)) := put_s
theorem QW_6 : QW i ad σ th ro lo ma ap o [i, 6] = some (eI 48 (aDs σ)) := put_s
theorem QW_7 : QW i ad σ th ro lo ma ap o [i, 7] = some (eI 48 (aHb σ)) := put_s
theorem QW_8 : QW i ad σ th ro lo ma ap o [i, 8] = some (eI 25 (aRu σ)) := put_s
theorem QW_9 : QW i ad σ th ro lo ma ap o [i, 9] = some (eI 3000 lo) := put_s
theorem QW_10 : QW i ad σ th ro lo ma ap o [i, 10] = some (eI 6 ma) := put_s
theorem QW_11 : QW i ad σ th ro lo ma ap o [i, 11] = some (eI 6 ap) := put_s
theorem QW_o' {th' day' ins' ro' : Int32} : wset (QW i ad σ th ro lo ma ap o) [i] (eMod i ad th' (cN σ) (cK σ) day' ins' ro') = QW i ad (cN σ, cK σ, day', ins', cH σ, cS σ) th' ro' lo ma ap o := by
  refine PW_ext (r := []) rfl (fun q hq => ?_)
  rcases q with _ | ⟨c, _ | ⟨j, x⟩⟩ <;> first | rfl | skip
  exact absurd rfl hq
theorem QW_th {th' : Int32} : wset (QW i ad σ th ro lo ma ap o) [i] (eMod i ad th' (cN σ) (cK σ) (cDay σ) (cIns σ) ro) = QW i ad σ th' ro lo ma ap o := QW_o'
theorem QW_ro {ro' : Int32} : wset (QW i ad σ th ro lo ma ap o) [i] (eMod i ad th (cN σ) (cK σ) (cDay σ) (cIns σ) ro') = QW i ad σ th ro' lo ma ap o := QW_o'
/-- one array is another's, the rest stays -/
theorem QW_ar {σ' : CS} {lo' ma' ap' : Nat → Int32} {c n : Nat} {f : Nat → Int32} (h0 : cN σ' = cN σ ∧ cK σ' = cK σ ∧ cDay σ' = cDay σ ∧ cIns σ' = cIns σ) (hc : MC i ad σ' th ro lo' ma' ap' [c] = some (eI n f)) (hs : ∀ b, b ≠ c → MC i ad σ' th ro lo' ma' ap' [b] = MC i ad σ th ro lo ma ap [b]) : wset (QW i ad σ th ro lo ma ap o) [i, c] (eI n f) = QW i ad σ' th ro lo' ma' ap' o := by
  refine PW_ext (r := [c]) hc (fun q hq => ?_)
  obtain ⟨h1, h2, h3, h4⟩ := h0
  rcases q with _ | ⟨b, _ | ⟨j, x⟩⟩ <;> first | rfl | skip
  · show some (eMod i ad th (cN σ') (cK σ') (cDay σ') (cIns σ') ro) = _
    rw [h1, h2, h3, h4]; rfl
  · exact hs b (fun z => hq (by rw [z]))
theorem QW_lo {lo' : Nat → Int32} : wset (QW i ad σ th ro lo ma ap o) [i, 9] (eI 3000 lo') = QW i ad σ th ro lo' ma ap o := QW_ar ⟨rfl, rfl, rfl, rfl⟩ rfl (fun b hb => by simp only [MC]; simp [hb])
theorem QW_ma {ma' : Nat → Int32} : wset (QW i ad σ th ro lo ma ap o) [i, 10] (eI 6 ma') = QW i ad σ th ro lo ma' ap o := QW_ar ⟨rfl, rfl, rfl, rfl⟩ rfl (fun b hb => by simp only [MC]; simp [hb])
theorem QW_ap {ap' : Nat → Int32} : wset (QW i ad σ th ro lo ma ap o) [i, 11] (eI 6 ap') = QW i ad σ th ro lo ma ap' o := QW_ar ⟨rfl, rfl, rfl, rfl⟩ rfl (fun b hb => by simp only [MC]; simp [hb])
theorem row0_in {n j : Nat} {g : Nat → Int32} (h : j < n) : row0 n g j = g j := if_pos h
theorem row0_up {n j : Nat} {g g' : Nat → Int32} {x : Int32} (h : j < n) (h1 : g' j = x) (h2 : ∀ k, k ≠ j → g' k = g k) : row0 n g' = upd (row0 n g) j x := by
  funext k
  by_cases hk : k = j
  · subst hk; simp [row0, upd, h, h1]
  · simp [row0, upd, hk, h2 k hk]
theorem row0_eq {n : Nat} {g g' : Nat → Int32} (h : ∀ k, g' k = g k) : row0 n g' = row0 n g := by
  have : g' = g := funext h
  rw [this]
theorem fup_c {α β : Type} {f : Nat → α} {j k : Nat} {x : α} {g : α → β} (h : g x = g (f j)) : g (fup f j x k) = g (f k) := by
  by_cases hk : k = j
  · subst hk; rw [fup_s, h]
  · rw [fup_n hk]
/-- a hall's place in the rows of the reference: what of it is the same -/
theorem aDs_eq {j : Nat} {h : HallS} (h1 : hSc h = hSc (cH σ j)) (h2 : hSu h = hSu (cH σ j)) : aDs (setH σ j h) = aDs σ := by
  funext x
  show (if x / 6 < cN σ ∧ x % 6 < hSc (fup (cH σ) j h (x / 6)) then nI (hSu (fup (cH σ) j h (x / 6)) (x % 6)).2 else 0) = _
  rw [fup_c (g := hSc) h1, fup_c (g := hSu) h2]; rfl
theorem aHb_eq {j : Nat} {h : HallS} (h1 : hSc h = hSc (cH σ j)) (h2 : hSu h = hSu (cH σ j)) : aHb (setH σ j h) = aHb σ := by
  funext x
  show (if x / 6 < cN σ ∧ x % 6 < hSc (fup (cH σ) j h (x / 6)) then nI (hSu (fup (cH σ) j h (x / 6)) (x % 6)).1 else 0) = _
  rw [fup_c (g := hSc) h1, fup_c (g := hSu) h2]; rfl
theorem setH_id {j : Nat} : setH σ j (cH σ j) = σ := by
  obtain ⟨n, K, day, ins, H, S⟩ := σ
  have : fup H j (H j) = H := by funext k; by_cases h : k = j <;> simp [fup, h]
  simp only [setH, cN, cK, cDay, cIns, cH, cS, this]
theorem setH_at {j : Nat} {h : HallS} : cH (setH σ j h) j = h := fup_s
theorem aSc_eq {j : Nat} {h h' : HallS} (e : hSc h' = hSc h) : aSc (setH σ j h') = aSc (setH σ j h) := row0_eq (fun k => by show nI (hSc (fup _ _ _ _)) = nI (hSc (fup _ _ _ _)); unfold fup; split <;> simp [e])
theorem aDm_eq {j : Nat} {h h' : HallS} (e : hDm h' = hDm h) : aDm (setH σ j h') = aDm (setH σ j h) := row0_eq (fun k => by show nI (hDm (fup _ _ _ _)) = nI (hDm (fup _ _ _ _)); unfold fup; split <;> simp [e])
theorem aDu_eq {j : Nat} {h h' : HallS} (e : hDu h' = hDu h) : aDu (setH σ j h') = aDu (setH σ j h) := row0_eq (fun k => by show nI (hDu (fup _ _ _ _)) = nI (hDu (fup _ _ _ _)); unfold fup; split <;> simp [e])
theorem aCe_eq {j : Nat} {h h' : HallS} (e : hCe h' = hCe h) : aCe (setH σ j h') = aCe (setH σ j h) := row0_eq (fun k => by show hCe (fup _ _ _ _) = hCe (fup _ _ _ _); unfold fup; split <;> simp [e])
theorem aDy_eq {j : Nat} {h h' : HallS} (e : hDy h' = hDy h) : aDy (setH σ j h') = aDy (setH σ j h) := row0_eq (fun k => by show nI (hDy (fup _ _ _ _)) = nI (hDy (fup _ _ _ _)); unfold fup; split <;> simp [e])
theorem aDsh {j : Nat} {h h' : HallS} (e1 : hSc h' = hSc h) (e2 : hSu h' = hSu h) : aDs (setH σ j h') = aDs (setH σ j h) := by
  funext x
  show (if x / 6 < cN σ ∧ x % 6 < hSc (fup (cH σ) j h' (x / 6)) then nI (hSu (fup (cH σ) j h' (x / 6)) (x % 6)).2 else 0) = (if x / 6 < cN σ ∧ x % 6 < hSc (fup (cH σ) j h (x / 6)) then nI (hSu (fup (cH σ) j h (x / 6)) (x % 6)).2 else 0)
  by_cases hx : x / 6 = j
  · rw [hx, fup_s, fup_s, e1, e2]
  · rw [fup_n hx, fup_n hx]
theorem aHbh {j : Nat} {h h' : HallS} (e1 : hSc h' = hSc h) (e2 : hSu h' = hSu h) : aHb (setH σ j h') = aHb (setH σ j h) := by
  funext x
  show (if x / 6 < cN σ ∧ x % 6 < hSc (fup (cH σ) j h' (x / 6)) then nI (hSu (fup (cH σ) j h' (x / 6)) (x % 6)).1 else 0) = (if x / 6 < cN σ ∧ x % 6 < hSc (fup (cH σ) j h (x / 6)) then nI (hSu (fup (cH σ) j h (x / 6)) (x % 6)).1 else 0)
  by_cases hx : x / 6 = j
  · rw [hx, fup_s, fup_s, e1, e2]
  · rw [fup_n hx, fup_n hx]
theorem aSc_up {j : Nat} {h h' : HallS} (hj : j < cN σ) : aSc (setH σ j h') = upd (aSc (setH σ j h)) j (nI (hSc h')) := row0_up hj (by show nI (hSc (fup _ _ _ _)) = _; rw [fup_s]) (fun k hk => by show nI (hSc (fup _ _ _ _)) = nI (hSc (fup _ _ _ _)); rw [fup_n hk, fup_n hk])
theorem aDm_up {j : Nat} {h h' : HallS} (hj : j < cN σ) : aDm (setH σ j h') = upd (aDm (setH σ j h)) j (nI (hDm h')) := row0_up hj (by show nI (hDm (fup _ _ _ _)) = _; rw [fup_s]) (fun k hk => by show nI (hDm (fup _ _ _ _)) = nI (hDm (fup _ _ _ _)); rw [fup_n hk, fup_n hk])
theorem aDu_up {j : Nat} {h h' : HallS} (hj : j < cN σ) : aDu (setH σ j h') = upd (aDu (setH σ j h)) j (nI (hDu h')) := row0_up hj (by show nI (hDu (fup _ _ _ _)) = _; rw [fup_s]) (fun k hk => by show nI (hDu (fup _ _ _ _)) = nI (hDu (fup _ _ _ _)); rw [fup_n hk, fup_n hk])
theorem aCe_up {j : Nat} {h h' : HallS} (hj : j < cN σ) : aCe (setH σ j h') = upd (aCe (setH σ j h)) j (hCe h') := row0_up hj (by show hCe (fup _ _ _ _) = _; rw [fup_s]) (fun k hk => by show hCe (fup _ _ _ _) = hCe (fup _ _ _ _); rw [fup_n hk, fup_n hk])
theorem aDy_up {j : Nat} {h h' : HallS} (hj : j < cN σ) : aDy (setH σ j h') = upd (aDy (setH σ j h)) j (nI (hDy h')) := row0_up hj (by show nI (hDy (fup _ _ _ _)) = _; rw [fup_s]) (fun k hk => by show nI (hDy (fup _ _ _ _)) = nI (hDy (fup _ _ _ _)); rw [fup_n hk, fup_n hk])
/-- the rows of the reference that a change of a hall leaves -/
theorem MC_h {j c : Nat} {h h' : HallS} (e1 : c = 1 ∨ hSc h' = hSc h) (e2 : c = 2 ∨ hDm h' = hDm h) (e3 : c = 3 ∨ hDu h' = hDu h) (e4 : c = 4 ∨ hCe h' = hCe h) (e5 : c = 5 ∨ hDy h' = hDy h) (e6 : c = 6 ∨ aDs (setH σ j h') = aDs (setH σ j h)) (e7 : c = 7 ∨ aHb (setH σ j h') = aHb (setH σ j h)) (b : Nat) (hb : b ≠ c) : MC i ad (setH σ j h') th ro lo ma ap [b] = MC i ad (setH σ j h) th ro lo ma ap [b] := by
  by_cases h1 : b = 1
  · subst h1; show some (eI 8 (aSc _)) = some (eI 8 (aSc _)); rw [aSc_eq (e1.resolve_left (Ne.symm hb))]
  by_cases h2 : b = 2
  · subst h2; show some (eI 8 (aDm _)) = some (eI 8 (aDm _)); rw [aDm_eq (e2.resolve_left (Ne.symm hb))]
  by_cases h3 : b = 3
  · subst h3; show some (eI 8 (aDu _)) = some (eI 8 (aDu _)); rw [aDu_eq (e3.resolve_left (Ne.symm hb))]
  by_cases h4 : b = 4
  · subst h4; show some (eI 8 (aCe _)) = some (eI 8 (aCe _)); rw [aCe_eq (e4.resolve_left (Ne.symm hb))]
  by_cases h5 : b = 5
  · subst h5; show some (eI 8 (aDy _)) = some (eI 8 (aDy _)); rw [aDy_eq (e5.resolve_left (Ne.symm hb))]
  by_cases h6 : b = 6
  · subst h6; show some (eI 48 (aDs _)) = some (eI 48 (aDs _)); rw [e6.resolve_left (Ne.symm hb)]
  by_cases h7 : b = 7
  · subst h7; show some (eI 48 (aHb _)) = some (eI 48 (aHb _)); rw [e7.resolve_left (Ne.symm hb)]
  simp only [MC, if_neg h1, if_neg h2, if_neg h3, if_neg h4, if_neg h5, if_neg h6, if_neg h7]
  rfl
theorem QW_h1 {j : Nat} {h h' : HallS} (hj : j < cN σ) (e : (hDm h', hDu h', hCe h', hDy h') = (hDm h, hDu h, hCe h, hDy h)) (e6 : aDs (setH σ j h') = aDs (setH σ j h)) (e7 : aHb (setH σ j h') = aHb (setH σ j h)) : wset (QW i ad (setH σ j h) th ro lo ma ap o) [i, 1] (eI 8 (upd (aSc (setH σ j h)) j (nI (hSc h')))) = QW i ad (setH σ j h') th ro lo ma ap o := by
  simp only [Prod.mk.injEq] at e
  exact QW_ar ⟨rfl, rfl, rfl, rfl⟩ (by show some (eI 8 (aSc _)) = _; rw [aSc_up hj]) (MC_h (Or.inl rfl) (Or.inr e.1) (Or.inr e.2.1) (Or.inr e.2.2.1) (Or.inr e.2.2.2) (Or.inr e6) (Or.inr e7))
theorem QW_h2 {j : Nat} {h h' : HallS} (hj : j < cN σ) (e : (hSc h', hDu h', hCe h', hDy h', hSu h') = (hSc h, hDu h, hCe h, hDy h, hSu h)) : wset (QW i ad (setH σ j h) th ro lo ma ap o) [i, 2] (eI 8 (upd (aDm (setH σ j h)) j (nI (hDm h')))) = QW i ad (setH σ j h') th ro lo ma ap o := by
  simp only [Prod.mk.injEq] at e
  exact QW_ar ⟨rfl, rfl, rfl, rfl⟩ (by show some (eI 8 (aDm _)) = _; rw [aDm_up hj]) (MC_h (Or.inr e.1) (Or.inl rfl) (Or.inr e.2.1) (Or.inr e.2.2.1) (Or.inr e.2.2.2.1) (Or.inr (aDsh e.1 e.2.2.2.2)) (Or.inr (aHbh e.1 e.2.2.2.2)))
theorem QW_h3 {j : Nat} {h h' : HallS} (hj : j < cN σ) (e : (hSc h', hDm h', hCe h', hDy h', hSu h') = (hSc h, hDm h, hCe h, hDy h, hSu h)) : wset (QW i ad (setH σ j h) th ro lo ma ap o) [i, 3] (eI 8 (upd (aDu (setH σ j h)) j (nI (hDu h')))) = QW i ad (setH σ j h') th ro lo ma ap o := by
  simp only [Prod.mk.injEq] at e
  exact QW_ar ⟨rfl, rfl, rfl, rfl⟩ (by show some (eI 8 (aDu _)) = _; rw [aDu_up hj]) (MC_h (Or.inr e.1) (Or.inr e.2.1) (Or.inl rfl) (Or.inr e.2.2.1) (Or.inr e.2.2.2.1) (Or.inr (aDsh e.1 e.2.2.2.2)) (Or.inr (aHbh e.1 e.2.2.2.2)))
theorem QW_h4 {j : Nat} {h h' : HallS} (hj : j < cN σ) (e : (hSc h', hDm h', hDu h', hDy h', hSu h') = (hSc h, hDm h, hDu h, hDy h, hSu h)) : wset (QW i ad (setH σ j h) th ro lo ma ap o) [i, 4] (eI 8 (upd (aCe (setH σ j h)) j (hCe h'))) = QW i ad (setH σ j h') th ro lo ma ap o := by
  simp only [Prod.mk.injEq] at e
  exact QW_ar ⟨rfl, rfl, rfl, rfl⟩ (by show some (eI 8 (aCe _)) = _; rw [aCe_up hj]) (MC_h (Or.inr e.1) (Or.inr e.2.1) (Or.inr e.2.2.1) (Or.inl rfl) (Or.inr e.2.2.2.1) (Or.inr (aDsh e.1 e.2.2.2.2)) (Or.inr (aHbh e.1 e.2.2.2.2)))
theorem QW_h5 {j : Nat} {h h' : HallS} (hj : j < cN σ) (e : (hSc h', hDm h', hDu h', hCe h', hSu h') = (hSc h, hDm h, hDu h, hCe h, hSu h)) : wset (QW i ad (setH σ j h) th ro lo ma ap o) [i, 5] (eI 8 (upd (aDy (setH σ j h)) j (nI (hDy h')))) = QW i ad (setH σ j h') th ro lo ma ap o := by
  simp only [Prod.mk.injEq] at e
  exact QW_ar ⟨rfl, rfl, rfl, rfl⟩ (by show some (eI 8 (aDy _)) = _; rw [aDy_up hj]) (MC_h (Or.inr e.1) (Or.inr e.2.1) (Or.inr e.2.2.1) (Or.inr e.2.2.2.1) (Or.inl rfl) (Or.inr (aDsh e.1 e.2.2.2.2)) (Or.inr (aHbh e.1 e.2.2.2.2)))
theorem dv6 {j k : Nat} (hk : k < 6) : (6 * j + k) / 6 = j ∧ (6 * j + k) % 6 = k := by omega
theorem dv5 {j k : Nat} (hk : k < 5) : (5 * j + k) / 5 = j ∧ (5 * j + k) % 5 = k := by omega
theorem aDs_at {j k : Nat} (hj : j < cN σ) (hk : k < hSc (cH σ j)) (h6 : k < 6) : aDs σ (6 * j + k) = nI (hSu (cH σ j) k).2 := by
  unfold aDs
  rw [(dv6 h6).1, (dv6 h6).2]
  exact if_pos ⟨hj, hk⟩
theorem aHb_at {j k : Nat} (hj : j < cN σ) (hk : k < hSc (cH σ j)) (h6 : k < 6) : aHb σ (6 * j + k) = nI (hSu (cH σ j) k).1 := by
  unfold aHb
  rw [(dv6 h6).1, (dv6 h6).2]
  exact if_pos ⟨hj, hk⟩
theorem aRu_at {q k : Nat} (hq : q < cK σ) (h5 : k < 5) : aRu σ (5 * q + k) = nI (stF (cS σ q) k) := by
  unfold aRu
  rw [(dv5 h5).1, (dv5 h5).2]
  exact if_pos hq
/-- a surface's numbers change, in the rows of the reference -/
theorem aDs_up {j k sc : Nat} {h h' : HallS} (hj : j < cN σ) (h6 : k < 6) (hsc : hSc h' = sc) (hk : k < sc) (hold : ∀ a, a < 6 → a ≠ k → (a < sc ↔ a < hSc h)) (hsu : ∀ a, a ≠ k → (hSu h' a).2 = (hSu h a).2) : aDs (setH σ j h') = upd (aDs (setH σ j h)) (6 * j + k) (nI (hSu h' k).2) := by
  funext x
  show (if x / 6 < cN σ ∧ x % 6 < hSc (fup (cH σ) j h' (x / 6)) then nI (hSu (fup (cH σ) j h' (x / 6)) (x % 6)).2 else 0) = (if x = 6 * j + k then nI (hSu h' k).2 else if x / 6 < cN σ ∧ x % 6 < hSc (fup (cH σ) j h (x / 6)) then nI (hSu (fup (cH σ) j h (x / 6)) (x % 6)).2 else 0)
  by_cases hx : x = 6 * j + k
  · rw [if_pos hx, hx, (dv6 h6).1, (dv6 h6).2, fup_s, if_pos ⟨hj, by rw [hsc]; exact hk⟩]
  · rw [if_neg hx]
    by_cases hj2 : x / 6 = j
    · have ha : x % 6 ≠ k := fun z => hx (by omega)
      rw [hj2, fup_s, fup_s, hsu _ ha, hsc]
      have := hold (x % 6) (by omega) ha
      by_cases hz : x % 6 < sc
      · rw [if_pos ⟨hj, hz⟩, if_pos ⟨hj, this.mp hz⟩]
      · rw [if_neg (fun z => hz z.2), if_neg (fun z => hz (this.mpr z.2))]
    · rw [fup_n hj2, fup_n hj2]
theorem aHb_up {j k sc : Nat} {h h' : HallS} (hj : j < cN σ) (h6 : k < 6) (hsc : hSc h' = sc) (hk : k < sc) (hold : ∀ a, a < 6 → a ≠ k → (a < sc ↔ a < hSc h)) (hsu : ∀ a, a ≠ k → (hSu h' a).1 = (hSu h a).1) : aHb (setH σ j h') = upd (aHb (setH σ j h)) (6 * j + k) (nI (hSu h' k).1) := by
  funext x
  show (if x / 6 < cN σ ∧ x % 6 < hSc (fup (cH σ) j h' (x / 6)) then nI (hSu (fup (cH σ) j h' (x / 6)) (x % 6)).1 else 0) = (if x = 6 * j + k then nI (hSu h' k).1 else if x / 6 < cN σ ∧ x % 6 < hSc (fup (cH σ) j h (x / 6)) then nI (hSu (fup (cH σ) j h (x / 6)) (x % 6)).1 else 0)
  by_cases hx : x = 6 * j + k
  · rw [if_pos hx, hx, (dv6 h6).1, (dv6 h6).2, fup_s, if_pos ⟨hj, by rw [hsc]; exact hk⟩]
  · rw [if_neg hx]
    by_cases hj2 : x / 6 = j
    · have ha : x % 6 ≠ k := fun z => hx (by omega)
      rw [hj2, fup_s, fup_s, hsu _ ha, hsc]
      have := hold (x % 6) (by omega) ha
      by_cases hz : x % 6 < sc
      · rw [if_pos ⟨hj, hz⟩, if_pos ⟨hj, this.mp hz⟩]
      · rw [if_neg (fun z => hz z.2), if_neg (fun z => hz (this.mpr z.2))]
    · rw [fup_n hj2, fup_n hj2]
end QWL
/-- is x one of 0 .. n - 1, as the reference asks -/
theorem inR_no0 {x : Int32} {n : Nat} (hn : n ≤ 8) (hx : ∀ j, j < n → x ≠ nI j) : inR x (nI 0) (nI n - nI 1) = 0 := by
  unfold inR
  by_cases h : x < nI 0
  · rw [if_pos h]
  · rw [if_neg h]
    by_cases h2 : nI n - nI 1 < x
    · rw [if_pos h2]
    · exfalso
      rcases pk_ix x (n := n) (by omega) with h3 | h3 | ⟨j, h1, rfl⟩
      · exact h h3
      · apply h2
        rw [Int32.lt_iff_toInt_lt]
        rw [Int32.le_iff_toInt_le] at h3
        have h4 : (nI n - nI 1).toInt = (n : Int) - 1 := by
          have : n = 0 ∨ n = 1 ∨ n = 2 ∨ n = 3 ∨ n = 4 ∨ n = 5 ∨ n = 6 ∨ n = 7 ∨ n = 8 := by omega
          rcases this with h | h | h | h | h | h | h | h | h <;> subst h <;> decide
        have h5 : (nI n).toInt = (n : Int) := by
          have : n = 0 ∨ n = 1 ∨ n = 2 ∨ n = 3 ∨ n = 4 ∨ n = 5 ∨ n = 6 ∨ n = 7 ∨ n = 8 := by omega
          rcases this with h | h | h | h | h | h | h | h | h <;> subst h <;> decide
        rw [h4]; rw [h5] at h3; omega
      · exact hx j h1 rfl
theorem inR_yes {j n : Nat} (hn : n ≤ 8) (hj : j < n) : inR (nI j) (nI 0) (nI n - nI 1) = 1 := by
  have : n = 0 ∨ n = 1 ∨ n = 2 ∨ n = 3 ∨ n = 4 ∨ n = 5 ∨ n = 6 ∨ n = 7 ∨ n = 8 := by omega
  have h2 : j = 0 ∨ j = 1 ∨ j = 2 ∨ j = 3 ∨ j = 4 ∨ j = 5 ∨ j = 6 ∨ j = 7 := by omega
  rcases this with h | h | h | h | h | h | h | h | h <;> subst h <;> rcases h2 with h | h | h | h | h | h | h | h <;> subst h <;> first | omega | decide

