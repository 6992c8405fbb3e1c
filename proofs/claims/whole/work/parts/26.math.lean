/-! ===== the class's tally and loudnesses, and the reference's rows ===== -/
theorem nx_le {hd dm l : Nat} (h1 : hd ≤ 99) : nx hd dm l ≤ l := by
  unfold nx
  have a1 : l * hd ≤ l * 99 := Nat.mul_le_mul_left _ h1
  have a2 : l * hd / 100 ≤ l := by omega
  have a3 : l * hd / 100 * (100 - dm) ≤ l * 100 := Nat.mul_le_mul a2 (by omega)
  omega
theorem rowE_len {hd dm ds : Nat} : ∀ n k l, (rowE hd dm ds n k l).length ≤ n
  | 0, _, _ => Nat.le_refl 0
  | n + 1, k, l => by
    rw [rowE]
    split
    · exact Nat.zero_le _
    · split
      · simp only [List.length_cons]
        have := rowE_len (hd := hd) (dm := dm) (ds := ds) n (k + 1) (nx hd dm l)
        omega
      · exact Nat.zero_le _
theorem rowE_at {hd dm ds : Nat} (h9 : hd ≤ 99) : ∀ n k l j, l ≤ 1000 → j < (rowE hd dm ds n k l).length → (k + j) * 6 * ds ≤ 3000 ∧ 0 < ((rowE hd dm ds n k l).getD j (0, 0)).2 ∧ ((rowE hd dm ds n k l).getD j (0, 0)).2 ≤ 990
  | 0, _, _, _, _, hj => absurd hj (Nat.not_lt_zero _)
  | n + 1, k, l, j, hl, hj => by
    have hb := nx_b (dm := dm) h9 hl
    rw [rowE] at hj ⊢
    by_cases h0 : nx hd dm l = 0
    · rw [if_pos h0] at hj; exact absurd hj (Nat.not_lt_zero _)
    · rw [if_neg h0] at hj ⊢
      by_cases h3 : k * 6 * ds ≤ 3000
      · rw [if_pos h3] at hj ⊢
        cases j with
        | zero =>
          refine ⟨by rw [Nat.add_zero]; exact h3, ?_, ?_⟩
          · show 0 < nx hd dm l
            omega
          · show nx hd dm l ≤ 990
            exact hb.2.2
        | succ j =>
          simp only [List.length_cons] at hj
          have := rowE_at (dm := dm) (ds := ds) h9 n (k + 1) (nx hd dm l) j (by omega) (by omega)
          rw [List.getD_cons_succ]
          rw [show k + (j + 1) = k + 1 + j by omega]
          exact this
      · rw [if_neg h3] at hj; exact absurd hj (Nat.not_lt_zero _)
theorem pre_low {hd dm ds : Nat} {t : Int32} (h9 : hd ≤ 99) {n k l : Nat} (hl : l ≤ 1000) (h : nI l < t) : pre t (rowE hd dm ds n k l) = 0 := by
  cases n with
  | zero => rfl
  | succ n =>
    rw [rowE]
    split
    · rfl
    · split
      · rw [pre, if_pos]
        exact Int32.lt_of_le_of_lt (nI_le (nx_le h9) (by omega)) h
      · rfl
theorem nI_nm1 {a : Nat} (h : a < 2 ^ 31) : nI a ≠ -1 := fun z => nI_pos h (by rw [z]; decide)
theorem tFi_tFi {a b : Nat} {c : Int32} (hab : a ≤ b) (hb : b < 2 ^ 31) : tFi (nI b) (tFi (nI a) c) = tFi (nI a) c := by
  unfold tFi
  have h1 : nI a ≤ nI b := nI_le hab hb
  have h2 : nI a ≠ -1 := nI_nm1 (by omega)
  by_cases c1 : c = -1
  · rw [if_pos c1, if_neg h2, if_pos h1]
  · rw [if_neg c1]
    by_cases c2 : c ≤ nI a
    · rw [if_pos c2, if_neg c1, if_pos (Int32.le_trans c2 h1)]
    · rw [if_neg c2, if_neg h2, if_pos h1]
theorem tLa_tLa {a b : Nat} {c : Int32} (hab : a ≤ b) (hb : b < 2 ^ 31) : tLa (nI b) (tLa (nI a) c) = tLa (nI b) c := by
  unfold tLa
  have h1 : nI a ≤ nI b := nI_le hab hb
  by_cases c2 : nI a ≤ c
  · rw [if_pos c2]
  · rw [if_neg c2]
    have h3 : ¬ nI b ≤ c := fun z => c2 (Int32.le_trans h1 z)
    rw [if_neg h3]
    by_cases h4 : nI b ≤ nI a
    · rw [if_pos h4]; exact (Int32.le_antisymm h1 h4)
    · rw [if_neg h4]
theorem rowE_tally {hd dm ds : Nat} {li : Int32} (h9 : hd ≤ 99) : ∀ n k l (a b c d : Int32), l ≤ 1000 → List.foldl (hearT li) (a, b, c, d) (rowE hd dm ds n k l) = (a + nI (rowE hd dm ds n k l).length, b + nI (pre li (rowE hd dm ds n k l)), (if (rowE hd dm ds n k l).length = 0 then c else tFi (nI (k * 6 * ds)) c), (if (rowE hd dm ds n k l).length = 0 then d else tLa (nI ((k + (rowE hd dm ds n k l).length - 1) * 6 * ds)) d))
  | 0, _, _, a, b, c, d, _ => by
    show (a, b, c, d) = (a + nI 0, b + nI 0, c, d)
    rw [nI_0, Int32.add_zero, Int32.add_zero]
  | n + 1, k, l, a, b, c, d, hl => by
    have hb := nx_b (dm := dm) h9 hl
    have nil : ∀ R : List (Nat × Nat), R = [] → List.foldl (hearT li) (a, b, c, d) R = (a + nI R.length, b + nI (pre li R), (if R.length = 0 then c else tFi (nI (k * 6 * ds)) c), (if R.length = 0 then d else tLa (nI ((k + R.length - 1) * 6 * ds)) d)) := by
      intro R hR
      subst hR
      show (a, b, c, d) = (a + nI 0, b + nI 0, c, d)
      rw [nI_0, Int32.add_zero, Int32.add_zero]
    by_cases h0 : nx hd dm l = 0
    · exact nil _ (by rw [rowE, if_pos h0])
    · by_cases h3 : k * 6 * ds ≤ 3000
      · have ih := rowE_tally (dm := dm) (ds := ds) (li := li) h9 n (k + 1) (nx hd dm l) (a + nI 1) (tLo (nI (nx hd dm l)) li b) (tFi (nI (k * 6 * ds)) c) (tLa (nI (k * 6 * ds)) d) (by omega)
        have hlow := pre_low (dm := dm) (ds := ds) (t := li) h9 (n := n) (k := k + 1) (l := nx hd dm l) (by omega)
        have hat := rowE_at (dm := dm) (ds := ds) h9 n (k + 1) (nx hd dm l)
        rw [show rowE hd dm ds (n + 1) k l = (k * 6 * ds, nx hd dm l) :: rowE hd dm ds n (k + 1) (nx hd dm l) by rw [rowE, if_neg h0, if_pos h3]]
        show List.foldl (hearT li) (a + nI 1, tLo (nI (nx hd dm l)) li b, tFi (nI (k * 6 * ds)) c, tLa (nI (k * 6 * ds)) d) _ = _
        rw [ih]
        generalize hR : rowE hd dm ds n (k + 1) (nx hd dm l) = R at hlow hat ⊢
        refine Prod.ext ?_ (Prod.ext ?_ (Prod.ext ?_ ?_))
        · show a + nI 1 + nI R.length = a + nI (R.length + 1)
          rw [Int32.add_assoc, nI_add, Nat.add_comm 1]
        · show tLo (nI (nx hd dm l)) li b + nI (pre li R) = b + nI (if nI (nx hd dm l) < li then 0 else pre li R + 1)
          unfold tLo
          by_cases hz : nI (nx hd dm l) < li
          · rw [if_pos hz, if_pos hz, hlow hz]
          · rw [if_neg hz, if_neg hz, Int32.add_assoc, nI_add, Nat.add_comm 1]
        · show (if R.length = 0 then tFi (nI (k * 6 * ds)) c else tFi (nI ((k + 1) * 6 * ds)) (tFi (nI (k * 6 * ds)) c)) = (if R.length + 1 = 0 then c else tFi (nI (k * 6 * ds)) c)
          rw [if_neg (show ¬ R.length + 1 = 0 by omega)]
          by_cases hz : R.length = 0
          · rw [if_pos hz]
          · have h4 := (hat 0 (by omega) (by omega)).1
            rw [Nat.add_zero] at h4
            rw [if_neg hz]
            refine tFi_tFi ?_ (by omega)
            rw [Nat.mul_assoc, Nat.mul_assoc]
            exact Nat.mul_le_mul_right _ (Nat.le_succ k)
        · show (if R.length = 0 then tLa (nI (k * 6 * ds)) d else tLa (nI ((k + 1 + R.length - 1) * 6 * ds)) (tLa (nI (k * 6 * ds)) d)) = (if R.length + 1 = 0 then d else tLa (nI ((k + (R.length + 1) - 1) * 6 * ds)) d)
          rw [if_neg (show ¬ R.length + 1 = 0 by omega)]
          by_cases hz : R.length = 0
          · rw [if_pos hz, hz]; rfl
          · have h4 := (hat (R.length - 1) (by omega) (by omega)).1
            rw [if_neg hz]
            rw [show k + 1 + (R.length - 1) = k + R.length by omega] at h4
            rw [show k + 1 + R.length - 1 = k + R.length by omega, show k + (R.length + 1) - 1 = k + R.length by omega]
            refine tLa_tLa ?_ (by omega)
            rw [Nat.mul_assoc, Nat.mul_assoc]
            exact Nat.mul_le_mul_right _ (by omega)
      · exact nil _ (by rw [rowE, if_neg h0, if_neg h3])
/-- the rows of a hall -/
abbrev RQh (h : HallS) (dm du cl : Nat) : Nat → List (Nat × Nat) := rowQ h dm du cl
abbrev DQh (h : HallS) : Nat → Nat := fun u => (hSu h u).2
theorem rowsT_q {h : HallS} {li : Int32} {dm du cl u : Nat} {t : TT} : rowsT li dm du cl (hSu h) u t = List.foldl (hearT li) t (rowQ h dm du cl u) := rfl
theorem rowsL_q {h : HallS} {dm du cl u : Nat} {f : Nat → Int32} : rowsL dm du cl (hSu h) u f = List.foldl hearL f (rowQ h dm du cl u) := rfl
theorem rowQ_tally {h : HallS} {li : Int32} {dm du cl u : Nat} {a b c d : Int32} (hu : (hSu h u).1 ≤ 99) (hcl : cl ≤ 1000) : List.foldl (hearT li) (a, b, c, d) (rowQ h dm du cl u) = (a + nI (rowQ h dm du cl u).length, b + nI (pre li (rowQ h dm du cl u)), (if (rowQ h dm du cl u).length = 0 then c else tFi (nI (6 * (hSu h u).2)) c), (if (rowQ h dm du cl u).length = 0 then d else tLa (nI (6 * (hSu h u).2 * (rowQ h dm du cl u).length)) d)) := by
  have e := rowE_tally (li := li) (dm := dm) (ds := (hSu h u).2) (show (hSu h u).1 - du / 5 ≤ 99 by omega) 500 1 cl a b c d hcl
  have e2 : ∀ R : List (Nat × Nat), (1 + R.length - 1) * 6 * (hSu h u).2 = 6 * (hSu h u).2 * R.length := fun R => by rw [Nat.add_sub_cancel_left, Nat.mul_assoc, Nat.mul_comm]
  rw [Nat.one_mul, e2] at e
  exact e
theorem sumR_s {R : Nat → List (Nat × Nat)} {m : Nat} : sumR R (m + 1) = sumR R m + (R m).length := rfl
theorem louR_s {R : Nat → List (Nat × Nat)} {t : Int32} {m : Nat} : louR t R (m + 1) = louR t R m + pre t (R m) := rfl
theorem atR_s {R : Nat → List (Nat × Nat)} {Ds : Nat → Nat} {mo m : Nat} : atR R Ds mo (m + 1) = atR R Ds mo m + ctr (R m) (Ds m) mo := rfl
theorem upF_succ {α : Type} {g : Nat → α → α} {m : Nat} {x : α} : upF g (m + 1) x = g m (upF g m x) := rfl
theorem tally_rows {h : HallS} {li : Int32} {dm du cl : Nat} (hh : hOK h) (hcl : cl ≤ 1000) (m : Nat) : m ≤ hSc h → upF (rowsT li dm du cl (hSu h)) m t00 = (nI (sumR (RQh h dm du cl) m), nI (louR li (RQh h dm du cl) m), fiR (RQh h dm du cl) (DQh h) m, laR (RQh h dm du cl) (DQh h) m) := by
  induction m with
  | zero => intro _; rfl
  | succ m ih =>
    intro hm
    have hu := hh.2.2.2.2 m (by omega)
    rw [upF_succ, rowsT_q, ih (by omega), rowQ_tally hu.1 hcl, nI_add, nI_add, sumR_s, louR_s, fiR_s, laR_s]
theorem upd_rows {g : Nat → Int32} {f : Nat → Int32} : ∀ m u, u < m → upF (fun u f => upd f u (g u)) m f u = g u
  | 0, _, h => absurd h (Nat.not_lt_zero _)
  | m + 1, u, h => by
    show (if u = m then g m else upF (fun u f => upd f u (g u)) m f u) = g u
    by_cases hu : u = m
    · rw [if_pos hu, hu]
    · rw [if_neg hu]; exact upd_rows m u (by omega)
theorem clLo_at {h : HallS} {dm du cl : Nat} {lo : Nat → Int32} : ∀ m u k, u < m → k < (rowQ h dm du cl u).length → clLo h dm du cl m lo (500 * u + k) = nI ((rowQ h dm du cl u).getD k (0, 0)).2
  | 0, _, _, h, _ => absurd h (Nat.not_lt_zero _)
  | m + 1, u, k, hu, hk => by
    have hl : (rowQ h dm du cl u).length ≤ 500 := rowE_len 500 1 cl
    show wr (clLo h dm du cl m lo) (500 * m) (rowQ h dm du cl m) (500 * u + k) = _
    unfold wr
    by_cases hz : u = m
    · subst hz
      rw [if_pos (by omega), Nat.add_sub_cancel_left]
    · rw [if_neg (by omega)]
      exact clLo_at m u k (by omega) hk
theorem laid {h : HallS} {dm du cl : Nat} {lo ma ap : Nat → Int32} (hh : hOK h) (hcl : cl ≤ 1000) : Laid (RQh h dm du cl) (DQh h) (hSc h) (clLo h dm du cl (hSc h) lo) (clMa h dm du cl (hSc h) ma) (clAp h (hSc h) ap) := by
  refine ⟨hh.1, fun u hu => ?_⟩
  have hs := hh.2.2.2.2 u hu
  have hl : (rowQ h dm du cl u).length ≤ 500 := rowE_len 500 1 cl
  have hat := rowE_at (dm := dm) (ds := (hSu h u).2) (show (hSu h u).1 - du / 5 ≤ 99 by omega) 500 1 cl
  refine ⟨⟨upd_rows (g := fun u => nI (rowQ h dm du cl u).length) _ u hu, upd_rows (g := fun u => nI (6 * (hSu h u).2)) _ u hu, fun k hk => clLo_at _ u k hu hk⟩, ⟨hl, hs.2.1, hs.2.2, ?_⟩, fun k hk => ?_⟩
  · by_cases hz : (rowQ h dm du cl u).length = 0
    · show 6 * (hSu h u).2 * (rowQ h dm du cl u).length ≤ 3000
      rw [hz]; exact Nat.zero_le _
    · have h4 := (hat ((rowQ h dm du cl u).length - 1) hcl (by show _ < (rowQ h dm du cl u).length; omega)).1
      rw [show 1 + ((rowQ h dm du cl u).length - 1) = (rowQ h dm du cl u).length by omega] at h4
      show 6 * (hSu h u).2 * (rowQ h dm du cl u).length ≤ 3000
      rw [Nat.mul_assoc, Nat.mul_comm] at h4
      exact h4
  · exact Nat.le_trans (hat k hcl hk).2.2 (by omega)
/-! loudnesses -/
theorem rowE_loud {hd dm ds : Nat} (hds : 1 ≤ ds) : ∀ n k l (f : Nat → Int32) x, List.foldl hearL f (rowE hd dm ds n k l) x = f x + nI (if x % ds = 0 ∧ k ≤ x / ds ∧ x / ds - k < (rowE hd dm ds n k l).length then ((rowE hd dm ds n k l).getD (x / ds - k) (0, 0)).2 else 0)
  | 0, k, l, f, x => by
    have e : rowE hd dm ds 0 k l = [] := rfl
    rw [e]
    simp [nI_0]
  | n + 1, k, l, f, x => by
    have nil : ∀ R : List (Nat × Nat), R = [] → List.foldl hearL f R x = f x + nI (if x % ds = 0 ∧ k ≤ x / ds ∧ x / ds - k < R.length then (R.getD (x / ds - k) (0, 0)).2 else 0) := by
      intro R hR
      subst hR
      simp [nI_0]
    by_cases h0 : nx hd dm l = 0
    · exact nil _ (by rw [rowE, if_pos h0])
    · by_cases h3 : k * 6 * ds ≤ 3000
      · rw [show rowE hd dm ds (n + 1) k l = (k * 6 * ds, nx hd dm l) :: rowE hd dm ds n (k + 1) (nx hd dm l) by rw [rowE, if_neg h0, if_pos h3]]
        show List.foldl hearL (hearL f (k * 6 * ds, nx hd dm l)) _ x = _
        rw [rowE_loud hds n (k + 1) (nx hd dm l)]
        generalize rowE hd dm ds n (k + 1) (nx hd dm l) = R
        have e6 : k * 6 * ds / 6 = k * ds := by
          rw [Nat.mul_assoc, Nat.mul_comm 6 ds, ← Nat.mul_assoc, Nat.mul_div_cancel _ (by omega)]
        show upd f (k * 6 * ds / 6) (f (k * 6 * ds / 6) + nI (nx hd dm l)) x + _ = _
        rw [e6]
        by_cases hx : x = k * ds
        · have e1 : x / ds = k := by rw [hx, Nat.mul_div_cancel _ (by omega)]
          have e2 : x % ds = 0 := by rw [hx, Nat.mul_mod_left]
          rw [e1, e2, if_neg (fun z => by omega), if_pos ⟨rfl, Nat.le_refl _, by rw [Nat.sub_self]; simp⟩, Nat.sub_self, nI_0, Int32.add_zero, hx]
          simp [upd]
        · rw [show upd f (k * ds) (f (k * ds) + nI (nx hd dm l)) x = f x from pk_un hx]
          congr 2
          by_cases hz : x % ds = 0
          · have hne : x / ds ≠ k := fun z => hx (by have := Nat.div_add_mod x ds; rw [hz, z, Nat.mul_comm] at this; omega)
            by_cases hk : k ≤ x / ds ∧ x / ds - k < R.length + 1
            · rw [if_pos ⟨hz, by omega, by omega⟩, if_pos ⟨hz, hk.1, by simp only [List.length_cons]; exact hk.2⟩, show x / ds - k = (x / ds - (k + 1)) + 1 by omega, List.getD_cons_succ]
            · rw [if_neg (fun z => hk ⟨by omega, by omega⟩), if_neg (fun z => hk ⟨z.2.1, by have := z.2.2; simp only [List.length_cons] at this; exact this⟩)]
          · rw [if_neg (fun z => hz z.1), if_neg (fun z => hz z.1)]
      · exact nil _ (by rw [rowE, if_neg h0, if_neg h3])
theorem ctr_6 {R : List (Nat × Nat)} {D x : Nat} (hD : 1 ≤ D) : ctr R D (6 * x) = if x % D = 0 ∧ 1 ≤ x / D ∧ x / D - 1 < R.length then (R.getD (x / D - 1) (0, 0)).2 else 0 := by
  unfold ctr
  rw [Nat.mul_mod_mul_left, Nat.mul_div_mul_left _ _ (by omega)]
  by_cases h : x % D = 0 ∧ 1 ≤ x / D ∧ x / D - 1 < R.length
  · rw [if_pos h, if_pos ⟨by rw [h.1], h.2.1, by omega⟩]
  · rw [if_neg h, if_neg (fun z => h ⟨by omega, z.2.1, by omega⟩)]
theorem rowQ_loud {h : HallS} {dm du cl u x : Nat} {f : Nat → Int32} (hu : 1 ≤ (hSu h u).2) : List.foldl hearL f (rowQ h dm du cl u) x = f x + nI (ctr (rowQ h dm du cl u) (hSu h u).2 (6 * x)) := by
  rw [ctr_6 hu]
  exact rowE_loud hu 500 1 cl f x
theorem loud_rows {h : HallS} {dm du cl : Nat} (hh : hOK h) (x : Nat) (m : Nat) : m ≤ hSc h → upF (rowsL dm du cl (hSu h)) m (fun _ => nI 0) x = nI (atR (RQh h dm du cl) (DQh h) (6 * x) m) := by
  induction m with
  | zero => intro _; rfl
  | succ m ih =>
    intro hm
    have hu := hh.2.2.2.2 m (by omega)
    rw [upF_succ, rowsL_q, rowQ_loud hu.2.1, ih (by omega), nI_add, atR_s]
theorem atR_odd {R : Nat → List (Nat × Nat)} {Ds : Nat → Nat} {mo : Nat} (h : mo % 6 ≠ 0) : ∀ m, atR R Ds mo m = 0
  | 0 => rfl
  | m + 1 => by
    show atR R Ds mo m + ctr (R m) (Ds m) mo = 0
    rw [atR_odd h m, ctr, if_neg]
    intro z
    apply h
    have : 6 ∣ mo := Nat.dvd_trans (Nat.dvd_mul_right 6 (Ds m)) (Nat.dvd_of_mod_eq_zero z.1)
    exact Nat.mod_eq_zero_of_dvd this
/-! the loudest moment -/
/-- b is the first of the moments P at which F is most (a); -1 if nothing is heard -/
def Top (F : Nat → Nat) (P : Nat → Prop) (b : Int32) (a : Nat) : Prop := (a = 0 ∧ b = -1 ∧ ∀ y, P y → F y = 0) ∨ ∃ x, P x ∧ b = nI (6 * x) ∧ a = F x ∧ 0 < a ∧ ∀ y, P y → F y < a ∨ (F y = a ∧ x ≤ y)
theorem Top.same {F : Nat → Nat} {P : Nat → Prop} {b b' : Int32} {a a' : Nat} (h : Top F P b a) (h' : Top F P b' a') : b = b' := by
  rcases h with ⟨h1, h2, h3⟩ | ⟨x, h1, h2, h3, h4, h5⟩
  · rcases h' with ⟨g1, g2, g3⟩ | ⟨y, g1, g2, g3, g4, g5⟩
    · rw [h2, g2]
    · exact absurd (h3 y g1) (by omega)
  · rcases h' with ⟨g1, g2, g3⟩ | ⟨y, g1, g2, g3, g4, g5⟩
    · exact absurd (g3 x h1) (by omega)
    · have e1 := h5 y g1
      have e2 := g5 x h1
      have : x = y := by omega
      rw [h2, g2, this]
theorem Top.more {F : Nat → Nat} {P P' : Nat → Prop} {b : Int32} {a : Nat} (h : Top F P b a) (h1 : ∀ y, P y → P' y) (h2 : ∀ y, P' y → P y ∨ F y = 0) : Top F P' b a := by
  rcases h with ⟨g1, g2, g3⟩ | ⟨x, g1, g2, g3, g4, g5⟩
  · exact Or.inl ⟨g1, g2, fun y hy => (h2 y hy).elim (g3 y) id⟩
  · refine Or.inr ⟨x, h1 x g1, g2, g3, g4, fun y hy => ?_⟩
    rcases h2 y hy with h | h
    · exact g5 y h
    · exact Or.inl (by omega)
theorem top_stp {F : Nat → Nat} {P : Nat → Prop} {x : Nat} {p : Int32 × Nat} (hP : ∀ y, P y → y ≤ 500) (hx : x ≤ 500) (h : Top F P p.1 p.2) : Top F (fun y => P y ∨ y = x) (stp (F x) (6 * x) p).1 (stp (F x) (6 * x) p).2 := by
  unfold stp
  by_cases c1 : F x < p.2
  · rw [if_pos c1]
    rcases h with ⟨g1, g2, g3⟩ | ⟨z, g1, g2, g3, g4, g5⟩
    · omega
    · refine Or.inr ⟨z, Or.inl g1, g2, g3, g4, fun y hy => ?_⟩
      rcases hy with hy | rfl
      · exact g5 y hy
      · exact Or.inl c1
  · rw [if_neg c1]
    by_cases c2 : F x = p.2 ∧ p.1 ≤ nI (6 * x)
    · rw [if_pos c2]
      rcases h with ⟨g1, g2, g3⟩ | ⟨z, g1, g2, g3, g4, g5⟩
      · refine Or.inl ⟨g1, g2, fun y hy => ?_⟩
        rcases hy with hy | rfl
        · exact g3 y hy
        · omega
      · refine Or.inr ⟨z, Or.inl g1, g2, g3, g4, fun y hy => ?_⟩
        rcases hy with hy | rfl
        · exact g5 y hy
        · have hz := hP z g1
          have h6 := c2.2
          rw [g2] at h6
          have := (nI_leI (show 6 * z < 2 ^ 31 by omega) (show 6 * y < 2 ^ 31 by omega)).mp h6
          exact Or.inr ⟨c2.1, by omega⟩
    · rw [if_neg c2]
      show Top F _ (nI (6 * x)) (F x)
      rcases h with ⟨g1, g2, g3⟩ | ⟨z, g1, g2, g3, g4, g5⟩
      · have h0 : F x ≠ 0 := fun z => c2 ⟨by omega, by rw [g2]; exact Int32.le_trans (by decide) (nI_pos' (show 6 * x < 2 ^ 31 by omega))⟩
        refine Or.inr ⟨x, Or.inr rfl, rfl, rfl, by omega, fun y hy => ?_⟩
        rcases hy with hy | rfl
        · exact Or.inl (by rw [g3 y hy]; omega)
        · exact Or.inr ⟨rfl, Nat.le_refl _⟩
      · refine Or.inr ⟨x, Or.inr rfl, rfl, rfl, by omega, fun y hy => ?_⟩
        rcases hy with hy | rfl
        · have h5 := g5 y hy
          by_cases c3 : F x = p.2
          · have hz := hP z g1
            have h6 : ¬ nI (6 * z) ≤ nI (6 * x) := fun q => c2 ⟨c3, by rw [g2]; exact q⟩
            have h7 : x < z := by
              apply Nat.not_le.mp
              intro q
              exact h6 (nI_le (by omega) (by omega))
            rcases h5 with h5 | h5
            · exact Or.inl (by omega)
            · exact Or.inr ⟨by omega, by omega⟩
          · exact Or.inl (by omega)
        · exact Or.inr ⟨rfl, Nat.le_refl _⟩
theorem mom_top {F : Nat → Nat} {f : Nat → Int32} (hf : ∀ x, x < 501 → f x = nI (F x)) (hF : ∀ x, F x < 2 ^ 31) : ∀ n k (b : Int32) (a : Nat), k + n = 501 → Top F (fun y => y < k) b a → a < 2 ^ 31 → ∃ a', Top F (fun y => y < 501) (momF f n k (nI a) b) a'
  | 0, k, b, a, hk, h, _ => ⟨a, by
    rw [momF]
    rw [show k = 501 by omega] at h
    exact h⟩
  | n + 1, k, b, a, hk, h, ha => by
    have hs : Top F (fun y => y < k + 1) (stp (F k) (6 * k) (b, a)).1 (stp (F k) (6 * k) (b, a)).2 := by
      refine (top_stp (x := k) (p := (b, a)) (fun y hy => by omega) (by omega) h).more (fun y hy => ?_) (fun y hy => Or.inl ?_)
      · rcases hy with hy | rfl
        · exact Nat.lt_succ_of_lt hy
        · exact Nat.lt_succ_self _
      · by_cases hy2 : y = k
        · exact Or.inr hy2
        · exact Or.inl (by omega)
    rw [momF, hf k (by omega)]
    by_cases c : F k ≤ a
    · rw [if_pos ((nI_leI (hF k) ha).mpr c)]
      refine mom_top hf hF n (k + 1) b a (by omega) ?_ ha
      have e : stp (F k) (6 * k) (b, a) = (b, a) := by
        unfold stp
        by_cases c1 : F k < a
        · rw [if_pos c1]
        · rw [if_neg c1, if_pos]
          refine ⟨by show F k = a; omega, ?_⟩
          show b ≤ nI (6 * k)
          rcases h with ⟨g1, g2, g3⟩ | ⟨z, g1, g2, g3, g4, g5⟩
          · rw [g2]; exact Int32.le_trans (by decide) (nI_pos' (show 6 * k < 2 ^ 31 by omega))
          · rw [g2]; exact nI_le (by have : z < k := g1; omega) (by omega)
      rw [e] at hs
      exact hs
    · rw [if_neg (fun z => c ((nI_leI (hF k) ha).mp z))]
      have e : stp (F k) (6 * k) (b, a) = (nI (6 * k), F k) := by
        unfold stp
        rw [if_neg (by show ¬ F k < a; omega), if_neg (fun z => by have : F k = a := z.1; omega)]
      rw [e] at hs
      rw [Nat.mul_comm k 6]
      exact mom_top hf hF n (k + 1) (nI (6 * k)) (F k) (by omega) hs (hF k)
section LD
variable {R : Nat → List (Nat × Nat)} {Ds : Nat → Nat} {N : Nat}
theorem ldF_top (h5 : ∀ u, u < N → Ds u * (R u).length ≤ 500) {u : Nat} (hu : u < N) : ∀ n k (p : Int32 × Nat) (P : Nat → Prop), k + n = (R u).length + 1 → 1 ≤ k → (∀ y, P y → y ≤ 500) → Top (fun x => atR R Ds (6 * x) N) P p.1 p.2 → Top (fun x => atR R Ds (6 * x) N) (fun y => P y ∨ ∃ j, k ≤ j ∧ j ≤ (R u).length ∧ y = Ds u * j) (ldF R Ds N u n k p).1 (ldF R Ds N u n k p).2
  | 0, k, p, P, hk, _, _, h => by
    refine h.more (fun y hy => Or.inl hy) (fun y hy => ?_)
    rcases hy with hy | ⟨j, h1, h2, _⟩
    · exact Or.inl hy
    · omega
  | n + 1, k, p, P, hk, h1k, hP, h => by
    have hx : Ds u * k ≤ 500 := Nat.le_trans (Nat.mul_le_mul_left _ (by omega)) (h5 u hu)
    have hs := top_stp (F := fun x => atR R Ds (6 * x) N) hP hx h
    have ih := ldF_top h5 hu n (k + 1) (stp (atR R Ds (6 * Ds u * k) N) (6 * Ds u * k) p) (fun y => P y ∨ y = Ds u * k) (by omega) (by omega) (fun y hy => hy.elim (hP y) (fun z => by rw [z]; exact hx)) (by rw [Nat.mul_assoc]; exact hs)
    show Top _ _ (ldF R Ds N u n (k + 1) (stp (atR R Ds (6 * Ds u * k) N) (6 * Ds u * k) p)).1 (ldF R Ds N u n (k + 1) (stp (atR R Ds (6 * Ds u * k) N) (6 * Ds u * k) p)).2
    refine ih.more (fun y hy => ?_) (fun y hy => Or.inl ?_)
    · rcases hy with (hy | rfl) | ⟨j, h1, h2, h3⟩
      · exact Or.inl hy
      · exact Or.inr ⟨k, Nat.le_refl _, by omega, rfl⟩
      · exact Or.inr ⟨j, by omega, h2, h3⟩
    · rcases hy with hy | ⟨j, h1, h2, h3⟩
      · exact Or.inl (Or.inl hy)
      · by_cases hj : j = k
        · subst hj; exact Or.inl (Or.inr h3)
        · exact Or.inr ⟨j, by omega, h2, h3⟩
theorem ldR_top (h5 : ∀ u, u < N → Ds u * (R u).length ≤ 500) : ∀ M, M ≤ N → Top (fun x => atR R Ds (6 * x) N) (fun y => ∃ u j, u < M ∧ 1 ≤ j ∧ j ≤ (R u).length ∧ y = Ds u * j) (ldR R Ds N M).1 (ldR R Ds N M).2
  | 0, _ => Or.inl ⟨rfl, rfl, fun y ⟨u, j, h, _⟩ => absurd h (Nat.not_lt_zero _)⟩
  | M + 1, hM => by
    have ih := ldR_top h5 M (by omega)
    have := ldF_top h5 (u := M) (by omega) (R M).length 1 (ldR R Ds N M) _ (by omega) (by omega) (fun y ⟨u, j, h1, h2, h3, h4⟩ => by rw [h4]; exact Nat.le_trans (Nat.mul_le_mul_left _ h3) (h5 u (by omega))) ih
    refine this.more (fun y hy => ?_) (fun y hy => Or.inl ?_)
    · rcases hy with ⟨u, j, h1, h2, h3, h4⟩ | ⟨j, h1, h2, h3⟩
      · exact ⟨u, j, by omega, h2, h3, h4⟩
      · exact ⟨M, j, by omega, h1, h2, h3⟩
    · obtain ⟨u, j, h1, h2, h3, h4⟩ := hy
      by_cases hu : u = M
      · subst hu; exact Or.inr ⟨j, h2, h3, h4⟩
      · exact Or.inl ⟨u, j, by omega, h2, h3, h4⟩
theorem atR_none (h1 : ∀ u, u < N → 1 ≤ Ds u) {x : Nat} (h : ¬ ∃ u j, u < N ∧ 1 ≤ j ∧ j ≤ (R u).length ∧ x = Ds u * j) : ∀ M, M ≤ N → atR R Ds (6 * x) M = 0
  | 0, _ => rfl
  | M + 1, hM => by
    show atR R Ds (6 * x) M + ctr (R M) (Ds M) (6 * x) = 0
    rw [atR_none h1 h M (by omega), ctr_6 (h1 M (by omega)), if_neg]
    intro z
    refine h ⟨M, x / Ds M, by omega, z.2.1, by omega, ?_⟩
    have := Nat.div_add_mod x (Ds M)
    omega
end LD
theorem loudest_rows {h : HallS} {cl : Nat} (hh : hOK h) (hcl : cl ≤ 1000) : momF (ldz h cl) 501 0 (nI 0) (-1) = (ldR (RQh h (hDm h) (hDu h) cl) (DQh h) (hSc h) (hSc h)).1 := by
  have hL := laid (dm := hDm h) (du := hDu h) (lo := fun _ => 0) (ma := fun _ => 0) (ap := fun _ => 0) hh hcl
  have hF : ∀ x, atR (RQh h (hDm h) (hDu h) cl) (DQh h) (6 * x) (hSc h) < 2 ^ 31 := fun x => by
    have := atR_le hL (mo := 6 * x) (hSc h) (Nat.le_refl _)
    have := hh.1
    omega
  obtain ⟨a, ha⟩ := mom_top (F := fun x => atR (RQh h (hDm h) (hDu h) cl) (DQh h) (6 * x) (hSc h)) (f := ldz h cl) (fun x _ => loud_rows hh x (hSc h) (Nat.le_refl _)) hF 501 0 (-1) 0 rfl (Or.inl ⟨rfl, rfl, fun y hy => absurd hy (Nat.not_lt_zero _)⟩) (by decide)
  have h5 : ∀ u, u < hSc h → DQh h u * (RQh h (hDm h) (hDu h) cl u).length ≤ 500 := fun u hu => by
    have := (hL.2 u hu).2.1.2.2.2
    rw [Nat.mul_assoc] at this
    omega
  have hT := ldR_top (N := hSc h) h5 (hSc h) (Nat.le_refl _)
  refine ha.same (hT.more (fun y ⟨u, j, h1, h2, h3, h4⟩ => ?_) (fun y hy => ?_))
  · have := Nat.le_trans (Nat.mul_le_mul_left (DQh h u) h3) (h5 u h1)
    show y < 501
    rw [h4]
    omega
  · by_cases hz : ∃ u j, u < hSc h ∧ 1 ≤ j ∧ j ≤ (RQh h (hDm h) (hDu h) cl u).length ∧ y = DQh h u * j
    · exact Or.inl hz
    · exact Or.inr (atR_none (fun u hu => (hL.2 u hu).2.1.2.1) hz (hSc h) (Nat.le_refl _))
/-- what the reference says of a standard -/
def okR (s : StdS) (R : Nat → List (Nat × Nat)) (Ds : Nat → Nat) (N : Nat) : Nat := if sumR R N = 0 then (if louR (nI s.2.1) R N ≤ s.2.2.1 then 1 else 0) else if fiR R Ds N < nI s.1 then 0 else if nI s.2.2.2.1 < laR R Ds N then 0 else if louR (nI s.2.1) R N ≤ s.2.2.1 then 1 else 0
theorem lou_sum {t : Int32} {R : Nat → List (Nat × Nat)} : ∀ M, louR t R M ≤ sumR R M
  | 0 => Nat.le_refl 0
  | M + 1 => by
    have h1 := lou_sum (t := t) (R := R) M
    have h2 := pre_le (t := t) (R M)
    show louR t R M + pre t (R M) ≤ sumR R M + (R M).length
    omega
theorem met_rows {h : HallS} {s : StdS} {dm du : Nat} (hh : hOK h) (hs : dOK s) : metW h s dm du = okR s (RQh h dm du 1000) (DQh h) (hSc h) := by
  have hL := laid (dm := dm) (du := du) (lo := fun _ => 0) (ma := fun _ => 0) (ap := fun _ => 0) hh (show 1000 ≤ 1000 by decide)
  have h1 := sumR_le hL (hSc h) (Nat.le_refl _)
  have h2 := louR_le hL (t := nI s.2.1) (hSc h) (Nat.le_refl _)
  have h3 := hh.1
  have h4 := hs.2.2.2.1
  have hls := lou_sum (t := nI s.2.1) (R := RQh h dm du 1000) (hSc h)
  unfold metW okT tlyW
  rw [tally_rows hh (by decide) (hSc h) (Nat.le_refl _)]
  unfold okS okR
  show (if nI (sumR _ _) = 0 then 1 else if _ < _ then 0 else if _ < _ then 0 else if nI s.2.2.1 < nI (louR _ _ _) then 0 else 1) = _
  by_cases c0 : sumR (RQh h dm du 1000) (hSc h) = 0
  · rw [if_pos (by rw [c0]; rfl), if_pos c0, if_pos (by omega)]
  · rw [if_neg (nI_ne0 (Nat.pos_of_ne_zero c0) (by omega)), if_neg c0]
    split
    · rfl
    · split
      · rfl
      · by_cases c1 : louR (nI s.2.1) (RQh h dm du 1000) (hSc h) ≤ s.2.2.1
        · rw [if_pos c1, if_neg (nI_nlt c1 (by omega))]
        · rw [if_neg c1, if_pos (nI_lt (by omega) (by omega))]
