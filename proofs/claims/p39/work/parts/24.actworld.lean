/-! ===== both bureaus side by side ===== -/
section K24
variable {p : Program} {l : Launch} {e : Env} {s : State} {m : MethodId} {args : Array Value} {below : List Frame} {meth : Method} {c : Code} {D : va_G} {ba d mc ms nL npc pc cells slots : Nat} {ad : Adr} {w : Wd} {Q : State → Prop} {lv : List (Nat × Value)} {rest : List Value} {i : Nat} {σ : CS} {o : Wd}
theorem kr_RP {x : Value} (k : ∀ tl t lo, V p l e s m args below meth c D ba d mc ms Q nL ad (PW i ad σ tl t lo o) npc lv (x :: rest) cells slots) : ∀ (v : Option Value) (ad' : Adr) (w' : Wd), RP i ad σ o (some x) v ad' w' → V p l e s m args below meth c D ba d mc ms Q nL ad' w' npc lv (v.toList ++ rest) cells slots := by
  rintro v ad' w' ⟨rfl, rfl, tl, t, lo, rfl⟩
  exact k tl t lo
theorem kr_RPa {x : Value} (k : ∀ ad2, keeps i ad ad2 → ∀ tl t lo, V p l e s m args below meth c D ba d mc ms Q nL ad2 (PW i ad2 σ tl t lo o) npc lv (x :: rest) cells slots) : ∀ (v : Option Value) (ad' : Adr) (w' : Wd), RPa i ad σ o (some x) v ad' w' → V p l e s m args below meth c D ba d mc ms Q nL ad' w' npc lv (v.toList ++ rest) cells slots := by
  rintro v ad' w' ⟨rfl, h, tl, t, lo, rfl⟩
  exact k ad' h tl t lo
end K24
theorem inR_ok {v a b : Nat} (h1 : a ≤ v) (h2 : v ≤ b) (hb : b < 2 ^ 31) : ¬ inR (nI v) (nI a) (nI b) = 0 := by
  unfold inR
  rw [if_neg (nI_nlt h1 (by omega)), if_neg (nI_nlt h2 hb)]
  decide
abbrev nW : Wd := fun _ => none
theorem wren_put {i : Nat} {f o : Wd} {A B : Lab} : wren (put i f o) (i :: A) (i :: B) = put i (wren f A B) o := by
  funext L
  cases L with
  | nil => simp [wren, put]
  | cons j q =>
    by_cases hj : j = i
    · subst hj; simp [wren, put]
    · simp [wren, put, hj]
section SWM
variable {i : Nat} {ad : Adr} {σ : CS} {tl : Int32} {t : TT} {lo : Nat → Int32} {o : Wd}
theorem PW_ad {ad2 : Adr} (h : ∀ r, ad2 (i :: r) = ad (i :: r)) : PW i ad2 σ tl t lo o = PW i ad σ tl t lo o := by
  show put i (WC i ad2 σ tl t lo) o = put i (WC i ad σ tl t lo) o
  congr 1
  funext L
  rcases L with _ | ⟨c, _ | ⟨j, _ | ⟨k, _ | ⟨x, y⟩⟩⟩⟩
  · simp only [WC, h]
  · simp only [WC, h]
  · simp only [WC, h]
  · simp only [WC]
  · rfl
theorem SW_ad6 {j q : Nat} : SW i (aset ad [i, 6, j, hSc (cH σ j)] q) σ o = SW i ad σ o := by
  show put i (SC i (aset ad [i, 6, j, hSc (cH σ j)] q) σ) o = put i (SC i ad σ) o
  congr 1
  funext L
  rcases L with _ | ⟨c, _ | ⟨a, _ | ⟨k, _ | ⟨x, y⟩⟩⟩⟩
  · simp [SC, aset]
  · simp [SC, aset]
  · have hr : adN (hSc (cH σ a)) (fun k => aset ad [i, 6, j, hSc (cH σ j)] q [i, 6, a, k]) = adN (hSc (cH σ a)) (fun k => ad [i, 6, a, k]) := adN_congr (fun k hk => aset_n (by
      intro z
      simp only [List.cons.injEq, and_true, true_and] at z
      obtain ⟨rfl, rfl⟩ := z
      exact absurd hk (Nat.lt_irrefl _)))
    simp only [SC, hr]
    simp [aset]
  · simp only [SC]
  · rfl
theorem SW_ad4 {q : Nat} : SW i (aset ad [i, 4, cK σ] q) σ o = SW i ad σ o := by
  show put i (SC i (aset ad [i, 4, cK σ] q) σ) o = put i (SC i ad σ) o
  congr 1
  funext L
  rcases L with _ | ⟨c, _ | ⟨a, _ | ⟨k, _ | ⟨x, y⟩⟩⟩⟩
  · simp [SC, aset]
  · have hr : adN (cK σ) (fun k => aset ad [i, 4, cK σ] q [i, 4, k]) = adN (cK σ) (fun k => ad [i, 4, k]) := adN_congr (fun k hk => aset_n (by
      intro z
      simp only [List.cons.injEq, and_true, true_and] at z
      exact absurd hk (by rw [z]; exact Nat.lt_irrefl _)))
    simp only [SC, hr]
    simp [aset]
  · simp [SC, aset]
  · simp only [SC]
  · rfl
/-- a hall more -/
theorem SW_addH {q3 q5 q9 v : Nat} {E1 E2 E3 : Ent} (h9 : q9 = ad [i, 9]) : wren (wset (wset (wset (wset (wset (wset (wset (SW i ad σ o) [i, 9] E1) [i, 3, cN σ] E2) [i, 5, cN σ] (eA 0 (fun _ => none))) [i, 3, cN σ] E3) [i, 9] (eQ RX7 (cN σ + 1) (va_up (adN (cN σ) (fun j => ad [i, 3, j])) (cN σ) (some q3)))) [i, 3, cN σ] (eLH q5 v 0 (-1) 0)) [i] (eLS (cDay σ) (cIns σ) q9 (ad [i, 2]))) [i, 1] [i, 9] = SW i (aset (aset (aset ad [i, 3, cN σ] q3) [i, 5, cN σ] q5) [i, 1] (aset (aset ad [i, 3, cN σ] q3) [i, 5, cN σ] q5 [i, 9])) (addH σ v) o := by
  subst h9
  obtain ⟨n0, K0, day0, ins0, H0, S0⟩ := σ
  simp only [addH, addD, setH, cN, cK, cDay, cIns, cH, cS, hSc, hDm, hDu, hCe, hDy, hSu] at *
  rw [put_wset, put_wset, put_wset, put_wset, put_wset, put_wset, put_wset, wren_put]
  have hrow : va_up (adN n0 (fun j => ad [i, 3, j])) n0 (some q3) = adN (n0 + 1) (fun j => aset (aset (aset ad [i, 3, n0] q3) [i, 5, n0] q5) [i, 1] (aset (aset ad [i, 3, n0] q3) [i, 5, n0] q5 [i, 9]) [i, 3, j]) := by
    rw [show adN n0 (fun j => ad [i, 3, j]) = adN n0 (fun j => aset (aset (aset ad [i, 3, n0] q3) [i, 5, n0] q5) [i, 1] (aset (aset ad [i, 3, n0] q3) [i, 5, n0] q5 [i, 9]) [i, 3, j]) from adN_congr (fun j hj => by simp [aset, Nat.ne_of_lt hj])]
    exact adN_up (by simp [aset])
  rw [hrow]
  congr 1
  funext L
  rcases L with _ | ⟨c, _ | ⟨j, _ | ⟨k, _ | ⟨x, y⟩⟩⟩⟩
  · simp [wren, wset, SC, aset, cN, cK, cDay, cIns, cH, cS]
  · by_cases h1 : c = 1
    · subst h1; simp [wren, wset, SC, aset, cN]
    · by_cases h2 : c = 9
      · subst h2; simp [wren, wset, SC, aset]
      · simp [wren, wset, SC, aset, cN, cK, h1, h2]
  · by_cases hj : j = n0
    · subst hj
      by_cases h3 : c = 3
      · subst h3; simp [wren, wset, SC, aset, cN, cH, fup]
      · by_cases h5 : c = 5
        · subst h5
          simp only [wren, wset, SC, aset, fup, cN, cK, cH, cS, hSc]
          simp
          funext k
          simp [adN]
        · simp [wren, wset, SC, aset, cN, cK, cH, cS, fup, h3, h5]
    · have hlt : (j < n0 + 1) = (j < n0) := by simp only [eq_iff_iff]; omega
      simp [wren, wset, SC, aset, cN, cK, cH, cS, hj, fup, hlt]
  · by_cases hj : j = n0
    · subst hj; simp [wren, wset, SC, cN, cH, fup]; exact fun _ => Nat.zero_le _
    · have hlt : (j < n0 + 1) = (j < n0) := by simp only [eq_iff_iff]; omega
      simp [wren, wset, SC, cN, cH, hj, fup, hlt]
  · simp [wren, wset, SC]
/-- a surface more -/
theorem SW_addS {j q9 hb ds : Nat} (hj : j < cN σ) (h9 : q9 = ad [i, 9]) : wren (wset (wset (wset (SW i ad σ o) [i, 6, j, hSc (cH σ j)] (eI 2 (suF (hb, ds)))) [i, 9] (eA (hSc (cH σ j) + 1) (va_up (adN (hSc (cH σ j)) (fun k => ad [i, 6, j, k])) (hSc (cH σ j)) (some (ad [i, 6, j, hSc (cH σ j)]))))) [i, 3, j] (eLH q9 (hDm (cH σ j)) (hDu (cH σ j)) (-1) 0)) [i, 5, j] [i, 9] = SW i (aset ad [i, 5, j] (ad [i, 9])) (setH σ j (hSc (cH σ j) + 1, hDm (cH σ j), hDu (cH σ j), -1, 0, fup (hSu (cH σ j)) (hSc (cH σ j)) (hb, ds))) o := by
  subst h9
  obtain ⟨n0, K0, day0, ins0, H0, S0⟩ := σ
  simp only [addH, addD, setH, cN, cK, cDay, cIns, cH, cS, hSc, hDm, hDu, hCe, hDy, hSu] at *
  rw [put_wset, put_wset, put_wset, wren_put]
  have hrow : va_up (adN (H0 j).1 (fun k => ad [i, 6, j, k])) (H0 j).1 (some (ad [i, 6, j, (H0 j).1])) = adN ((H0 j).1 + 1) (fun k => aset ad [i, 5, j] (ad [i, 9]) [i, 6, j, k]) := by
    rw [show adN (H0 j).1 (fun k => ad [i, 6, j, k]) = adN (H0 j).1 (fun k => aset ad [i, 5, j] (ad [i, 9]) [i, 6, j, k]) from adN_congr (fun k hk => by simp [aset])]
    exact adN_up (by simp [aset])
  rw [hrow]
  congr 1
  funext L
  rcases L with _ | ⟨c, _ | ⟨a, _ | ⟨k, _ | ⟨x, y⟩⟩⟩⟩
  · simp [wren, wset, SC, aset, cN, cK, cDay, cIns, cH, cS]
  · by_cases h2 : c = 9
    · subst h2; simp [wren, wset, SC, aset]
    · simp [wren, wset, SC, aset, cN, cK, h2]
  · by_cases ha : a = j
    · subst ha
      by_cases h3 : c = 3
      · subst h3; simp [wren, wset, SC, aset, cN, cH, fup, hj, hDm, hDu, hCe, hDy]
      · by_cases h5 : c = 5
        · subst h5; simp [wren, wset, SC, aset, cN, cH, fup, hj, hSc]
        · simp [wren, wset, SC, aset, cN, cK, cH, cS, fup, h3, h5]
    · simp [wren, wset, SC, aset, cN, cK, cH, cS, ha, fup, hSc, hDm, hDu, hCe, hDy]
  · by_cases ha : a = j
    · subst ha
      by_cases hk : k = (H0 a).1
      · subst hk
        by_cases h6 : c = 6
        · subst h6; simp [wren, wset, SC, cN, cH, fup, hj, hSc, hSu]
        · simp [wren, wset, SC, h6]
      · have hlt : (k < (H0 a).1 + 1) = (k < (H0 a).1) := by simp only [eq_iff_iff]; omega
        simp [wren, wset, SC, cN, cH, fup, hk, hlt, hSc, hSu]
    · simp [wren, wset, SC, cN, cH, ha, fup, hSc, hSu]
  · simp [wren, wset, SC]
/-- a standard more -/
theorem SW_addD {q9 : Nat} {q0 : StdS} (h9 : q9 = ad [i, 9]) : wren (wset (wset (wset (SW i ad σ o) [i, 4, cK σ] (eI 5 (stF q0))) [i, 9] (eA (cK σ + 1) (va_up (adN (cK σ) (fun k => ad [i, 4, k])) (cK σ) (some (ad [i, 4, cK σ]))))) [i] (eLS (cDay σ) (cIns σ) (ad [i, 1]) q9)) [i, 2] [i, 9] = SW i (aset ad [i, 2] (ad [i, 9])) (addD σ q0) o := by
  subst h9
  obtain ⟨n0, K0, day0, ins0, H0, S0⟩ := σ
  simp only [addH, addD, setH, cN, cK, cDay, cIns, cH, cS, hSc, hDm, hDu, hCe, hDy, hSu] at *
  rw [put_wset, put_wset, put_wset, wren_put]
  have hrow : va_up (adN K0 (fun k => ad [i, 4, k])) K0 (some (ad [i, 4, K0])) = adN (K0 + 1) (fun k => aset ad [i, 2] (ad [i, 9]) [i, 4, k]) := by
    rw [show adN K0 (fun k => ad [i, 4, k]) = adN K0 (fun k => aset ad [i, 2] (ad [i, 9]) [i, 4, k]) from adN_congr (fun k hk => by simp [aset])]
    exact adN_up (by simp [aset])
  rw [hrow]
  congr 1
  funext L
  rcases L with _ | ⟨c, _ | ⟨a, _ | ⟨k, _ | ⟨x, y⟩⟩⟩⟩
  · simp [wren, wset, SC, aset, cN, cK, cDay, cIns, cH, cS]
  · by_cases h1 : c = 2
    · subst h1; simp [wren, wset, SC, aset, cK]
    · by_cases h2 : c = 9
      · subst h2; simp [wren, wset, SC, aset]
      · simp [wren, wset, SC, aset, cN, cK, h1, h2]
  · by_cases ha : a = K0
    · subst ha
      by_cases h4 : c = 4
      · subst h4; simp [wren, wset, SC, aset, cK, cS, fup]
      · simp [wren, wset, SC, aset, cN, cK, cH, cS, fup, h4]
    · have hlt : (a < K0 + 1) = (a < K0) := by simp only [eq_iff_iff]; omega
      simp [wren, wset, SC, aset, cN, cK, cH, cS, ha, fup, hlt]
  · simp [wren, wset, SC, cN, cH]
  · simp [wren, wset, SC]
end SWM
/-- the bureau σ, and the law's bureau τ -/
abbrev LW (ad : Adr) (σ τ : CS) (tl : Int32) (t : TT) (lo : Nat → Int32) : Wd := PW 0 ad σ tl t lo (SW 2 ad τ nW)
abbrev LSW (ad : Adr) (σ τ : CS) (tl : Int32) (t : TT) (lo : Nat → Int32) : Wd := SW 2 ad τ (PW 0 ad σ tl t lo nW)
section LWL
variable {ad ad2 : Adr} {σ τ : CS} {tl : Int32} {t : TT} {lo : Nat → Int32}
theorem LW_LS : LW ad σ τ tl t lo = LSW ad σ τ tl t lo := put_comm (by decide)
theorem LW_a (h : keeps 0 ad ad2) : PW 0 ad2 σ tl t lo (SW 2 ad τ nW) = LW ad2 σ τ tl t lo := by
  show _ = PW 0 ad2 σ tl t lo (SW 2 ad2 τ nW)
  rw [SW_ad (fun r => h.1 2 r (by decide))]
/-- the bureau's part of the world, under other addresses of the law's bureau -/
theorem LSW_o {o : Wd → Wd} (h : ∀ r, ad2 (0 :: r) = ad (0 :: r)) : o (PW 0 ad σ tl t lo nW) = o (PW 0 ad2 σ tl t lo nW) := by
  rw [PW_ad h]
end LWL
/-- what stands at every moment of the law -/
def IV (σ : CS) : Prop := cOK σ ∧ cI σ
/-- what act answers -/
abbrev AR (ad : Adr) : Option Value → Adr → Wd → Prop := fun v ad' w' => v = some (.int (nI 1)) ∧ (ad' [0] = ad [0] ∧ ad' [2] = ad [2]) ∧ ∃ σ tl t lo, (IV σ ∧ 1 ≤ cN σ) ∧ w' = LW ad' σ σ tl t lo
