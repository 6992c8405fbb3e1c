/-! ===== the law's own bureau (Sim), a function of the same value ===== -/
/-- a surface's row; a standard's row -/
def suF (q : Nat × Nat) : Nat → Int32 := upd (upd (fun _ => 0) 0 (nI q.2)) 1 (nI q.1)
def stF (q : StdS) : Nat → Int32 := upd (upd (upd (upd (upd (fun _ => 0) 0 (nI q.1)) 1 (nI q.2.1)) 2 (nI q.2.2.1)) 3 (nI q.2.2.2.1)) 4 (nI q.2.2.2.2)
theorem suF_0 {q : Nat × Nat} : suF q 0 = nI q.2 := rfl
theorem suF_1 {q : Nat × Nat} : suF q 1 = nI q.1 := rfl
theorem suF_up {q : Nat × Nat} {x : Nat} : upd (suF q) 0 (nI x) = suF (q.1, x) := by
  funext j
  unfold suF upd
  by_cases h0 : j = 0
  · subst h0; rfl
  · by_cases h1 : j = 1
    · subst h1; rfl
    · simp [h0, h1]
abbrev eLH (sa dm du : Nat) (ce : Int32) (dy : Nat) : Ent := .inr (6, [.ref sa, .int (nI dm), .int (nI du), .int ce, .int (nI dy)])
abbrev eLS (day ins : Int32) (a1 a2 : Nat) : Ent := .inr (7, [.int day, .int ins, .ref a1, .ref a2])
def SC (i : Nat) (ad : Adr) (σ : CS) : Wd := fun L => match L with
  | [] => some (eLS (cDay σ) (cIns σ) (ad [i, 1]) (ad [i, 2]))
  | [c] => if c = 1 then some (eQ RX7 (cN σ) (adN (cN σ) (fun j => ad [i, 3, j]))) else if c = 2 then some (eA (cK σ) (adN (cK σ) (fun j => ad [i, 4, j]))) else none
  | [c, j] => if c = 3 then (if j < cN σ then some (eLH (ad [i, 5, j]) (hDm (cH σ j)) (hDu (cH σ j)) (hCe (cH σ j)) (hDy (cH σ j))) else none) else if c = 4 then (if j < cK σ then some (eI 5 (stF (cS σ j))) else none) else if c = 5 then (if j < cN σ then some (eA (hSc (cH σ j)) (adN (hSc (cH σ j)) (fun k => ad [i, 6, j, k]))) else none) else none
  | [c, j, k] => if c = 6 then (if j < cN σ ∧ k < hSc (cH σ j) then some (eI 2 (suF (hSu (cH σ j) k))) else none) else none
  | _ :: _ :: _ :: _ :: _ => none
abbrev SW (i : Nat) (ad : Adr) (σ : CS) (o : Wd) : Wd := put i (SC i ad σ) o
section SWL
variable {i : Nat} {ad : Adr} {σ : CS} {o : Wd}
theorem SW_b : SW i ad σ o [i] = some (eLS (cDay σ) (cIns σ) (ad [i, 1]) (ad [i, 2])) := put_s
theorem SW_hr : SW i ad σ o [i, 1] = some (eQ RX7 (cN σ) (adN (cN σ) (fun j => ad [i, 3, j]))) := put_s
theorem SW_rr : SW i ad σ o [i, 2] = some (eA (cK σ) (adN (cK σ) (fun j => ad [i, 4, j]))) := put_s
theorem SW_9 : SW i ad σ o [i, 9] = none := put_s
theorem SW_h {j : Nat} (h : j < cN σ) : SW i ad σ o [i, 3, j] = some (eLH (ad [i, 5, j]) (hDm (cH σ j)) (hDu (cH σ j)) (hCe (cH σ j)) (hDy (cH σ j))) := put_s.trans (by simp [SC, h])
theorem SW_d {j : Nat} (h : j < cK σ) : SW i ad σ o [i, 4, j] = some (eI 5 (stF (cS σ j))) := put_s.trans (by simp [SC, h])
theorem SW_s {j : Nat} (h : j < cN σ) : SW i ad σ o [i, 5, j] = some (eA (hSc (cH σ j)) (adN (hSc (cH σ j)) (fun k => ad [i, 6, j, k]))) := put_s.trans (by simp [SC, h])
theorem SW_u {j k : Nat} (h : j < cN σ) (hk : k < hSc (cH σ j)) : SW i ad σ o [i, 6, j, k] = some (eI 2 (suF (hSu (cH σ j) k))) := put_s.trans (by simp [SC, h, hk])
theorem SW_hf {j : Nat} (h : cN σ ≤ j) : SW i ad σ o [i, 3, j] = none := put_s.trans (by simp [SC, Nat.not_lt.mpr h])
theorem SW_sf {j : Nat} (h : cN σ ≤ j) : SW i ad σ o [i, 5, j] = none := put_s.trans (by simp [SC, Nat.not_lt.mpr h])
theorem SW_df {j : Nat} (h : cK σ ≤ j) : SW i ad σ o [i, 4, j] = none := put_s.trans (by simp [SC, Nat.not_lt.mpr h])
theorem SW_uf {j k : Nat} (h : hSc (cH σ j) ≤ k) : SW i ad σ o [i, 6, j, k] = none := put_s.trans (by simp [SC, Nat.not_lt.mpr h])
theorem SW_b' {day ins : Int32} : wset (SW i ad σ o) [i] (eLS day ins (ad [i, 1]) (ad [i, 2])) = SW i ad (cN σ, cK σ, day, ins, cH σ, cS σ) o := by
  refine PW_ext (r := []) rfl (fun q hq => ?_)
  rcases q with _ | ⟨c, _ | ⟨j, _ | ⟨k, _ | ⟨x, y⟩⟩⟩⟩ <;> first | rfl | skip
  exact absurd rfl hq
/-- a hall's numbers change, not its surfaces -/
theorem SW_h' {j dm du dy : Nat} {ce : Int32} (hj : j < cN σ) : wset (SW i ad σ o) [i, 3, j] (eLH (ad [i, 5, j]) dm du ce dy) = SW i ad (setH σ j (hSc (cH σ j), dm, du, ce, dy, hSu (cH σ j))) o := by
  refine PW_ext (r := [3, j]) (by simp [SC, hj, fup, setH, cN, cK, cH, cS, hSc, hDm, hDu, hCe, hDy, hSu]) (fun q hq => ?_)
  rcases q with _ | ⟨c, _ | ⟨a, _ | ⟨k, _ | ⟨x, y⟩⟩⟩⟩ <;> first | rfl | skip
  · by_cases ha : a = j
    · subst ha
      have hc : c ≠ 3 := fun z => hq (by rw [z])
      simp [SC, hc, fup, setH, cN, cK, cH, cS, hSc, hDm, hDu, hCe, hDy, hSu]
    · simp [SC, fup, ha, setH, cN, cK, cH, cS, hSc, hDm, hDu, hCe, hDy, hSu]
  · by_cases ha : a = j
    · subst ha
      simp [SC, fup, setH, cN, cK, cH, cS, hSc, hDm, hDu, hCe, hDy, hSu]
    · simp [SC, fup, ha, setH, cN, cK, cH, cS, hSc, hDm, hDu, hCe, hDy, hSu]
/-- a surface's numbers change -/
theorem SW_u' {j k : Nat} {q0 : Nat × Nat} (hj : j < cN σ) (hk : k < hSc (cH σ j)) : wset (SW i ad σ o) [i, 6, j, k] (eI 2 (suF q0)) = SW i ad (setH σ j (hSc (cH σ j), hDm (cH σ j), hDu (cH σ j), hCe (cH σ j), hDy (cH σ j), fup (hSu (cH σ j)) k q0)) o := by
  refine PW_ext (r := [6, j, k]) (by simp [SC, hj, hk, fup, setH, cN, cK, cH, cS, hSc, hDm, hDu, hCe, hDy, hSu]) (fun q hq => ?_)
  rcases q with _ | ⟨c, _ | ⟨a, _ | ⟨b, _ | ⟨x, y⟩⟩⟩⟩ <;> first | rfl | skip
  · by_cases ha : a = j
    · subst ha
      simp [SC, fup, setH, cN, cK, cH, cS, hSc, hDm, hDu, hCe, hDy, hSu]
    · simp [SC, fup, ha, setH, cN, cK, cH, cS, hSc, hDm, hDu, hCe, hDy, hSu]
  · by_cases ha : a = j
    · subst ha
      by_cases hb2 : b = k
      · subst hb2
        have hc : c ≠ 6 := fun z => hq (by rw [z])
        simp [SC, hc, setH, cN, cK, cH, cS, hSc, hDm, hDu, hCe, hDy, hSu]
      · simp [SC, fup, hb2, setH, cN, cK, cH, cS, hSc, hDm, hDu, hCe, hDy, hSu]
    · simp [SC, fup, ha, setH, cN, cK, cH, cS, hSc, hDm, hDu, hCe, hDy, hSu]
theorem SW_ad {ad2 : Adr} (h : ∀ r, ad2 (i :: r) = ad (i :: r)) : SW i ad2 σ o = SW i ad σ o := by
  show put i (SC i ad2 σ) o = put i (SC i ad σ) o
  congr 1
  funext L
  rcases L with _ | ⟨c, _ | ⟨j, _ | ⟨k, _ | ⟨x, y⟩⟩⟩⟩
  · simp only [SC, h]
  · simp only [SC, h]
  · simp only [SC, h]
  · simp only [SC]
  · rfl
/-- .. all that it says of ad -/
theorem SW_ad9 {q : Nat} : SW i (aset ad [i, 9] q) σ o = SW i ad σ o := by
  show put i (SC i (aset ad [i, 9] q) σ) o = put i (SC i ad σ) o
  congr 1
  funext L
  rcases L with _ | ⟨c, _ | ⟨j, _ | ⟨k, _ | ⟨x, y⟩⟩⟩⟩
  · simp [SC, aset]
  · simp [SC, aset]
  · simp [SC, aset]
  · simp only [SC]
  · rfl
end SWL
theorem setH_setH {σ : CS} {j : Nat} {x y : HallS} : setH (setH σ j x) j y = setH σ j y := by
  show (cN σ, cK σ, cDay σ, cIns σ, fup (fup (cH σ) j x) j y, cS σ) = _
  rw [fup_fup]
theorem setH_self {σ : CS} {j : Nat} : setH σ j (cH σ j) = σ := by
  show (cN σ, cK σ, cDay σ, cIns σ, fup (cH σ) j (cH σ j), cS σ) = σ
  rw [show fup (cH σ) j (cH σ j) = cH σ from by funext k; by_cases h : k = j <;> simp [fup, h]]
/-- the law's array of four: how many, how many loud, first, last -/
def tF (t : TT) : Nat → Int32 := upd (upd (upd (upd (fun _ => 0) 0 t.1) 1 t.2.1) 2 t.2.2.1) 3 t.2.2.2
theorem tF_up {t : TT} {a b x y : Int32} : upd (upd (upd (upd (tF t) 0 a) 1 b) 2 x) 3 y = tF (a, b, x, y) := by
  funext j
  unfold tF upd
  by_cases h3 : j = 3
  · simp [h3]
  · by_cases h2 : j = 2
    · simp [h2]
    · by_cases h1 : j = 1
      · simp [h1]
      · by_cases h0 : j = 0
        · simp [h0]
        · simp [h0, h1, h2, h3]
/-- a tally's first moment is -1, or is a moment -/
def tG (t : TT) : Prop := t.2.2.1 = -1 ∨ ¬ t.2.2.1 < 0
theorem tG_hear {th : Int32} {t : TT} {q : Nat × Nat} (h : tG t) (hq : q.1 < 2 ^ 31) : tG (hearT th t q) := by
  show tFi (nI q.1) t.2.2.1 = -1 ∨ ¬ tFi (nI q.1) t.2.2.1 < 0
  unfold tFi
  by_cases c1 : t.2.2.1 = -1
  · rw [if_pos c1]; exact Or.inr (nI_pos hq)
  · rw [if_neg c1]
    by_cases c2 : t.2.2.1 ≤ nI q.1
    · rw [if_pos c2]; exact h
    · rw [if_neg c2]; exact Or.inr (nI_pos hq)
/-- what the law does to one echo -/
theorem law_lo {l1 th x : Int32} (h : ¬ l1 < th) : x + nI 1 = tLo l1 th x := by unfold tLo; rw [if_neg h]
theorem law_lo0 {l1 th x : Int32} (h : l1 < th) : x + nI 0 = tLo l1 th x := by unfold tLo; rw [if_pos h, nI_0, Int32.add_zero]
theorem law_fi0 {mo x : Int32} (hg : x = -1 ∨ ¬ x < 0) (h : x < 0) : mo = tFi mo x := by
  unfold tFi
  rcases hg with z | z
  · rw [if_pos z]
  · exact absurd h z
theorem law_fi {mo x : Int32} (h : ¬ x < 0) : (if mo < x then mo else x) = tFi mo x := by
  unfold tFi
  have hx : ¬ x = -1 := fun z => h (by rw [z]; decide)
  rw [if_neg hx]
  by_cases c : mo < x
  · rw [if_pos c, if_neg (fun z => absurd c (Int32.not_lt.mpr z))]
  · rw [if_neg c, if_pos (Int32.not_lt.mp c)]
theorem law_la {mo x : Int32} : (if x < mo then mo else x) = tLa mo x := by
  unfold tLa
  by_cases c : x < mo
  · rw [if_pos c, if_neg (fun z => absurd c (Int32.not_lt.mpr z))]
  · rw [if_neg c, if_pos (Int32.not_lt.mp c)]
theorem nI_sub0' {a b : Nat} (ha : a < 2 ^ 30) (hb : b < 2 ^ 30) : (if nI a - nI b < nI 0 then nI 0 else nI a - nI b) = nI (a - b) := by
  by_cases h : b ≤ a
  · rw [pk_sub h, if_neg (nI_nlt (Nat.zero_le _) (by omega))]
  · rw [if_pos (by rw [nI_0]; exact pk_sneg hb (by omega)), show a - b = 0 by omega]
