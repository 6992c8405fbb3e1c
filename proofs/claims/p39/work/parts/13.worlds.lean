/-! ===== the class's world ===== -/
def put (i : Nat) (f o : Wd) : Wd := fun L => match L with
  | [] => o []
  | j :: r => if j = i then f r else o (j :: r)
theorem put_s {i : Nat} {f o : Wd} {r : Lab} : put i f o (i :: r) = f r := if_pos rfl
theorem put_n {i j : Nat} {f o : Wd} {r : Lab} (h : j ≠ i) : put i f o (j :: r) = o (j :: r) := if_neg h
theorem put_wset {i : Nat} {f o : Wd} {r : Lab} {e : Ent} : wset (put i f o) (i :: r) e = put i (wset f r e) o := by
  funext L
  cases L with
  | nil => simp [wset, put]
  | cons j q =>
    by_cases hj : j = i
    · subst hj
      by_cases hq : q = r
      · subst hq; simp [wset, put]
      · simp [wset, put, hq]
    · simp [wset, put, hj]
theorem put_comm {i j : Nat} {f g o : Wd} (h : i ≠ j) : put i f (put j g o) = put j g (put i f o) := by
  funext L
  cases L with
  | nil => rfl
  | cons k q =>
    by_cases h1 : k = i
    · subst h1; simp [put, h]
    · by_cases h2 : k = j
      · subst h2; simp [put, h1]
      · simp [put, h1, h2]
/-- a hall: how many surfaces, damping, dust, certificate (-1: none), its days, its surfaces (hardness as built, distance) -/
abbrev HallS : Type := Nat × Nat × Nat × Int32 × Nat × (Nat → Nat × Nat)
abbrev hSc (h : HallS) : Nat := h.1
abbrev hDm (h : HallS) : Nat := h.2.1
abbrev hDu (h : HallS) : Nat := h.2.2.1
abbrev hCe (h : HallS) : Int32 := h.2.2.2.1
abbrev hDy (h : HallS) : Nat := h.2.2.2.2.1
abbrev hSu (h : HallS) : Nat → Nat × Nat := h.2.2.2.2.2
/-- a standard: earliest, limit, most, latest, days -/
abbrev StdS : Type := Nat × Nat × Nat × Nat × Nat
/-- a bureau: how many halls, how many standards, day, inspections, halls, standards -/
abbrev CS : Type := Nat × Nat × Int32 × Int32 × (Nat → HallS) × (Nat → StdS)
abbrev cN (σ : CS) : Nat := σ.1
abbrev cK (σ : CS) : Nat := σ.2.1
abbrev cDay (σ : CS) : Int32 := σ.2.2.1
abbrev cIns (σ : CS) : Int32 := σ.2.2.2.1
abbrev cH (σ : CS) : Nat → HallS := σ.2.2.2.2.1
abbrev cS (σ : CS) : Nat → StdS := σ.2.2.2.2.2
abbrev eHall (sa : Nat) (sc dm du : Nat) (ce : Int32) (dy : Nat) : Ent := .inr (0, [.ref sa, .int (nI sc), .int (nI dm), .int (nI du), .int ce, .int (nI dy)])
abbrev eSurf (hb ds : Nat) : Ent := .inr (3, [.int (nI hb), .int (nI ds)])
abbrev eStd (ea li mo lt dy : Nat) : Ent := .inr (2, [.int (nI ea), .int (nI li), .int (nI mo), .int (nI lt), .int (nI dy)])
abbrev eBur (a1 a2 : Nat) (n k : Nat) (day ins : Int32) (a3 a4 : Nat) : Ent := .inr (5, [.ref a1, .ref a2, .int (nI n), .int (nI k), .int day, .int ins, .ref a3, .ref a4])
def adN (n : Nat) (f : Nat → Nat) : Nat → Option Nat := fun j => if j < n then some (f j) else none
theorem adN_lt {n : Nat} {f : Nat → Nat} {j : Nat} (h : j < n) : adN n f j = some (f j) := if_pos h
theorem adN_ge {n : Nat} {f : Nat → Nat} {j : Nat} (h : ¬ j < n) : adN n f j = none := if_neg h
theorem adN_up {n : Nat} {f : Nat → Nat} {a : Nat} (h : a = f n) : va_up (adN n f) n (some a) = adN (n + 1) f := by
  funext j
  by_cases hj : j = n
  · subst hj; simp [va_up, adN, h]
  · by_cases h2 : j < n
    · simp [va_up, adN, hj, h2, Nat.lt_succ_of_lt h2]
    · have h3 : ¬ j < n + 1 := by omega
      simp [va_up, adN, hj, h2, h3]
theorem adN_congr {n : Nat} {f g : Nat → Nat} (h : ∀ j, j < n → f j = g j) : adN n f = adN n g := by
  funext j
  by_cases hj : j < n
  · simp [adN, hj, h j hj]
  · simp [adN, hj]
def WC (i : Nat) (ad : Adr) (σ : CS) (tl : Int32) (t : TT) (lo : Nat → Int32) : Wd := fun L => match L with
  | [] => some (eBur (ad [i, 1]) (ad [i, 2]) (cN σ) (cK σ) (cDay σ) (cIns σ) (ad [i, 3]) (ad [i, 4]))
  | [c] => if c = 1 then some (eQ RX0 8 (adN (cN σ) (fun j => ad [i, 6, j]))) else if c = 2 then some (eQ RX3 5 (adN (cK σ) (fun j => ad [i, 9, j]))) else if c = 3 then some (ET tl t) else if c = 4 then some (.inr (1, [.ref (ad [i, 5])])) else if c = 5 then some (eI 501 lo) else none
  | [c, j] => if c = 6 then (if j < cN σ then some (eHall (ad [i, 7, j]) (hSc (cH σ j)) (hDm (cH σ j)) (hDu (cH σ j)) (hCe (cH σ j)) (hDy (cH σ j))) else none) else if c = 7 then (if j < cN σ then some (eQ RX4 6 (adN (hSc (cH σ j)) (fun k => ad [i, 8, j, k]))) else none) else if c = 9 then (if j < cK σ then some (eStd (cS σ j).1 (cS σ j).2.1 (cS σ j).2.2.1 (cS σ j).2.2.2.1 (cS σ j).2.2.2.2) else none) else none
  | [c, j, k] => if c = 8 then (if j < cN σ ∧ k < hSc (cH σ j) then some (eSurf (hSu (cH σ j) k).1 (hSu (cH σ j) k).2) else none) else none
  | _ :: _ :: _ :: _ :: _ => none
abbrev PW (i : Nat) (ad : Adr) (σ : CS) (tl : Int32) (t : TT) (lo : Nat → Int32) (o : Wd) : Wd := put i (WC i ad σ tl t lo) o
section PWL
variable {i : Nat} {ad : Adr} {σ : CS} {tl : Int32} {t : TT} {lo : Nat → Int32} {o : Wd}
theorem PW_b : PW i ad σ tl t lo o [i] = some (eBur (ad [i, 1]) (ad [i, 2]) (cN σ) (cK σ) (cDay σ) (cIns σ) (ad [i, 3]) (ad [i, 4])) := put_s
theorem PW_hr : PW i ad σ tl t lo o [i, 1] = some (eQ RX0 8 (adN (cN σ) (fun j => ad [i, 6, j]))) := put_s
theorem PW_sr : PW i ad σ tl t lo o [i, 2] = some (eQ RX3 5 (adN (cK σ) (fun j => ad [i, 9, j]))) := put_s
theorem PW_t : PW i ad σ tl t lo o [i, 3] = some (ET tl t) := put_s
theorem PW_l : PW i ad σ tl t lo o [i, 4] = some (.inr (1, [.ref (ad [i, 5])])) := put_s
theorem PW_a : PW i ad σ tl t lo o [i, 5] = some (eI 501 lo) := put_s
theorem PW_h {j : Nat} (h : j < cN σ) : PW i ad σ tl t lo o [i, 6, j] = some (eHall (ad [i, 7, j]) (hSc (cH σ j)) (hDm (cH σ j)) (hDu (cH σ j)) (hCe (cH σ j)) (hDy (cH σ j))) := put_s.trans (by simp [WC, h])
theorem PW_hs {j : Nat} (h : j < cN σ) : PW i ad σ tl t lo o [i, 7, j] = some (eQ RX4 6 (adN (hSc (cH σ j)) (fun k => ad [i, 8, j, k]))) := put_s.trans (by simp [WC, h])
theorem PW_u {j k : Nat} (h : j < cN σ) (hk : k < hSc (cH σ j)) : PW i ad σ tl t lo o [i, 8, j, k] = some (eSurf (hSu (cH σ j) k).1 (hSu (cH σ j) k).2) := put_s.trans (by simp [WC, h, hk])
theorem PW_d {j : Nat} (h : j < cK σ) : PW i ad σ tl t lo o [i, 9, j] = some (eStd (cS σ j).1 (cS σ j).2.1 (cS σ j).2.2.1 (cS σ j).2.2.2.1 (cS σ j).2.2.2.2) := put_s.trans (by simp [WC, h])
theorem PW_ext {f g : Wd} {r : Lab} {e : Ent} (h1 : g r = some e) (h2 : ∀ q, q ≠ r → g q = f q) : wset (put i f o) (i :: r) e = put i g o := by
  rw [put_wset]
  congr 1
  funext q
  by_cases h : q = r
  · subst h; rw [wset_s, h1]
  · rw [wset_n h, h2 q h]
def fup {α : Type} (f : Nat → α) (j : Nat) (x : α) : Nat → α := fun k => if k = j then x else f k
theorem fup_s {α : Type} {f : Nat → α} {j : Nat} {x : α} : fup f j x j = x := if_pos rfl
theorem fup_n {α : Type} {f : Nat → α} {j k : Nat} {x : α} (h : k ≠ j) : fup f j x k = f k := if_neg h
abbrev setH (σ : CS) (j : Nat) (h : HallS) : CS := (cN σ, cK σ, cDay σ, cIns σ, fup (cH σ) j h, cS σ)
theorem PW_t' {tl' : Int32} {t' : TT} : wset (PW i ad σ tl t lo o) [i, 3] (ET tl' t') = PW i ad σ tl' t' lo o := by
  refine PW_ext (r := [3]) rfl (fun q hq => ?_)
  rcases q with _ | ⟨c, _ | ⟨j, _ | ⟨k, _ | ⟨x, y⟩⟩⟩⟩ <;> first | rfl | skip
  have hc : c ≠ 3 := fun z => hq (by rw [z])
  simp [WC, hc]
theorem PW_a' {lo' : Nat → Int32} : wset (PW i ad σ tl t lo o) [i, 5] (eI 501 lo') = PW i ad σ tl t lo' o := by
  refine PW_ext (r := [5]) rfl (fun q hq => ?_)
  rcases q with _ | ⟨c, _ | ⟨j, _ | ⟨k, _ | ⟨x, y⟩⟩⟩⟩ <;> first | rfl | skip
  have hc : c ≠ 5 := fun z => hq (by rw [z])
  simp [WC, hc]
theorem PW_b' {day ins : Int32} : wset (PW i ad σ tl t lo o) [i] (eBur (ad [i, 1]) (ad [i, 2]) (cN σ) (cK σ) day ins (ad [i, 3]) (ad [i, 4])) = PW i ad (cN σ, cK σ, day, ins, cH σ, cS σ) tl t lo o := by
  refine PW_ext (r := []) rfl (fun q hq => ?_)
  rcases q with _ | ⟨c, _ | ⟨j, _ | ⟨k, _ | ⟨x, y⟩⟩⟩⟩ <;> first | rfl | skip
  exact absurd rfl hq
/-- a hall's numbers change, not its surfaces -/
theorem PW_h' {j dm du dy : Nat} {ce : Int32} (hj : j < cN σ) : wset (PW i ad σ tl t lo o) [i, 6, j] (eHall (ad [i, 7, j]) (hSc (cH σ j)) dm du ce dy) = PW i ad (setH σ j (hSc (cH σ j), dm, du, ce, dy, hSu (cH σ j))) tl t lo o := by
  refine PW_ext (r := [6, j]) (by simp [WC, hj, fup, setH, cN, cK, cH, cS, hSc, hDm, hDu, hCe, hDy, hSu]) (fun q hq => ?_)
  rcases q with _ | ⟨c, _ | ⟨a, _ | ⟨k, _ | ⟨x, y⟩⟩⟩⟩ <;> first | rfl | skip
  · by_cases ha : a = j
    · subst ha
      have hc : c ≠ 6 := fun z => hq (by rw [z])
      simp [WC, hc, fup, setH, cN, cK, cH, cS, hSc, hDm, hDu, hCe, hDy, hSu]
    · simp [WC, fup, ha, setH, cN, cK, cH, cS, hSc, hDm, hDu, hCe, hDy, hSu]
  · by_cases ha : a = j
    · subst ha
      simp [WC, fup, setH, cN, cK, cH, cS, hSc, hDm, hDu, hCe, hDy, hSu]
    · simp [WC, fup, ha, setH, cN, cK, cH, cS, hSc, hDm, hDu, hCe, hDy, hSu]
/-- a surface's numbers change -/
theorem PW_u' {j k hb ds : Nat} (hj : j < cN σ) (hk : k < hSc (cH σ j)) : wset (PW i ad σ tl t lo o) [i, 8, j, k] (eSurf hb ds) = PW i ad (setH σ j (hSc (cH σ j), hDm (cH σ j), hDu (cH σ j), hCe (cH σ j), hDy (cH σ j), fup (hSu (cH σ j)) k (hb, ds))) tl t lo o := by
  refine PW_ext (r := [8, j, k]) (by simp [WC, hj, hk, fup, setH, cN, cK, cH, cS, hSc, hDm, hDu, hCe, hDy, hSu]) (fun q hq => ?_)
  rcases q with _ | ⟨c, _ | ⟨a, _ | ⟨b, _ | ⟨x, y⟩⟩⟩⟩ <;> first | rfl | skip
  · by_cases ha : a = j
    · subst ha
      simp [WC, fup, setH, cN, cK, cH, cS, hSc, hDm, hDu, hCe, hDy, hSu]
    · simp [WC, fup, ha, setH, cN, cK, cH, cS, hSc, hDm, hDu, hCe, hDy, hSu]
  · by_cases ha : a = j
    · subst ha
      by_cases hb2 : b = k
      · subst hb2
        have hc : c ≠ 8 := fun z => hq (by rw [z])
        simp [WC, hc, setH, cN, cK, cH, cS, hSc, hDm, hDu, hCe, hDy, hSu]
      · simp [WC, fup, hb2, setH, cN, cK, cH, cS, hSc, hDm, hDu, hCe, hDy, hSu]
    · simp [WC, fup, ha, setH, cN, cK, cH, cS, hSc, hDm, hDu, hCe, hDy, hSu]
end PWL
/-- what holds of every bureau -/
def hOK (h : HallS) : Prop := hSc h ≤ 6 ∧ hDm h ≤ 90 ∧ hDu h ≤ 100 ∧ hDy h ≤ 100 ∧ ∀ k, k < hSc h → (hSu h k).1 ≤ 99 ∧ 1 ≤ (hSu h k).2 ∧ (hSu h k).2 ≤ 60
def dOK (d : StdS) : Prop := d.1 ≤ 500 ∧ 1 ≤ d.2.1 ∧ d.2.1 ≤ 1000 ∧ d.2.2.1 ≤ 99 ∧ d.2.2.2.1 ≤ 3000 ∧ 1 ≤ d.2.2.2.2 ∧ d.2.2.2.2 ≤ 100
def cOK (σ : CS) : Prop := cN σ ≤ 8 ∧ cK σ ≤ 5 ∧ (∀ j, j < cN σ → hOK (cH σ j)) ∧ ∀ j, j < cK σ → dOK (cS σ j)
theorem cOK_set {σ : CS} {j : Nat} {h : HallS} (hσ : cOK σ) (hh : hOK h) : cOK (setH σ j h) := by
  refine ⟨hσ.1, hσ.2.1, fun a ha => ?_, hσ.2.2.2⟩
  show hOK (fup (cH σ) j h a)
  by_cases hj : a = j
  · subst hj; rw [fup_s]; exact hh
  · rw [fup_n hj]; exact hσ.2.2.1 a ha
