/-! ===== the law's third bureau: a hall for each surface ===== -/
def oneC (h : HallS) : Nat → CS
  | 0 => cs0
  | k + 1 => setH (addH (oneC h k) (hDm h)) k (oneH h k)
theorem oneC_N {h : HallS} : ∀ k, cN (oneC h k) = k
  | 0 => rfl
  | k + 1 => by
    show cN (oneC h k) + 1 = k + 1
    rw [oneC_N k]
theorem oneC_new {h : HallS} {k v : Nat} : cH (addH (oneC h k) v) k = (0, v, 0, -1, 0, fun _ => (0, 0)) := by
  show fup (cH (oneC h k)) (cN (oneC h k)) (0, v, 0, -1, 0, fun _ => (0, 0)) k = _
  rw [oneC_N, fup_s]
theorem oneC_at {h : HallS} {k : Nat} : cH (oneC h (k + 1)) k = oneH h k := fup_s
theorem oneC_step {h : HallS} {k : Nat} : setH (addH (oneC h k) (hDm h)) k (hSc (cH (addH (oneC h k) (hDm h)) k) + 1, hDm (cH (addH (oneC h k) (hDm h)) k), hDu (cH (addH (oneC h k) (hDm h)) k), -1, 0, fup (hSu (cH (addH (oneC h k) (hDm h)) k)) (hSc (cH (addH (oneC h k) (hDm h)) k)) ((hSu h k).1 - hDu h / 5, (hSu h k).2)) = oneC h (k + 1) := by
  rw [oneC_new]
  rfl
theorem oneH_ok {h : HallS} {k : Nat} (hh : hOK h) (hk : k < hSc h) : hOK (oneH h k) := by
  have hs := hh.2.2.2.2 k hk
  refine ⟨by show 1 ≤ 6; decide, hh.2.1, Nat.zero_le _, Nat.zero_le _, fun a ha => ?_⟩
  have ha0 : a = 0 := by have : a < 1 := ha; omega
  subst ha0
  show (fup (fun _ => (0, 0)) 0 ((hSu h k).1 - hDu h / 5, (hSu h k).2) 0).1 ≤ 99 ∧ 1 ≤ (fup (fun _ => (0, 0)) 0 ((hSu h k).1 - hDu h / 5, (hSu h k).2) 0).2 ∧ (fup (fun _ => (0, 0)) 0 ((hSu h k).1 - hDu h / 5, (hSu h k).2) 0).2 ≤ 60
  rw [fup_s]
  exact ⟨Nat.le_trans (Nat.sub_le _ _) hs.1, hs.2⟩
theorem oneC_ok {h : HallS} (hh : hOK h) : ∀ k, k ≤ hSc h → cOK (oneC h k) := by
  intro k
  induction k with
  | zero => intro _; exact cs0_ok
  | succ k ih =>
    intro hk
    have h1 := ih (by omega)
    have hN := oneC_N (h := h) k
    have h6 := hh.1
    have h2 : cOK (addH (oneC h k) (hDm h)) := by
      refine ⟨by show cN (oneC h k) + 1 ≤ 8; omega, h1.2.1, fun j hj => ?_, h1.2.2.2⟩
      show hOK (fup (cH (oneC h k)) (cN (oneC h k)) (0, hDm h, 0, -1, 0, fun _ => (0, 0)) j)
      by_cases hz : j = cN (oneC h k)
      · subst hz; rw [fup_s]; exact ⟨Nat.zero_le _, hh.2.1, Nat.zero_le _, Nat.zero_le _, fun a ha => absurd ha (Nat.not_lt_zero a)⟩
      · rw [fup_n hz]; exact h1.2.2.1 j (by have : j < cN (oneC h k) + 1 := hj; omega)
    exact cOK_set h2 (oneH_ok hh (by omega))
theorem oneA_ok {h : HallS} (hh : hOK h) {k : Nat} (hk : k < hSc h) : cOK (addH (oneC h k) (hDm h)) := by
  have h1 := oneC_ok hh k (Nat.le_of_lt hk)
  have hN := oneC_N (h := h) k
  have h6 := hh.1
  refine ⟨by show cN (oneC h k) + 1 ≤ 8; omega, h1.2.1, fun j hj => ?_, h1.2.2.2⟩
  show hOK (fup (cH (oneC h k)) (cN (oneC h k)) (0, hDm h, 0, -1, 0, fun _ => (0, 0)) j)
  by_cases hz : j = cN (oneC h k)
  · subst hz; rw [fup_s]; exact ⟨Nat.zero_le _, hh.2.1, Nat.zero_le _, Nat.zero_le _, fun a ha => absurd ha (Nat.not_lt_zero a)⟩
  · rw [fup_n hz]; exact h1.2.2.1 j (by have : j < cN (oneC h k) + 1 := hj; omega)
section O32
variable {l : Launch} {D : va_G} {ba d : Nat} {ad : Adr} (hl : l.stackTraces = false) (hd : 9 ≤ d) {h : HallS} {k : Nat} {tl : Int32} {t : TT} {lo : Nat → Int32} {o : Wd} (hh : hOK h) (hk : k < hSc h) {v : Nat} (hv1 : 1 ≤ v) (hv : v ≤ 1000)
theorem oneC_lt {h : HallS} {k : Nat} : k < cN (oneC h (k + 1)) := by rw [oneC_N]; exact Nat.lt_succ_self _
theorem o_echoes (hl : l.stackTraces = false) (hd : 9 ≤ d) (hh : hOK h) (hk : k < hSc h) (hv1 : 1 ≤ v) (hv : v ≤ 1000) : CT l yX6_echoes (wsO yX6_echoes cX6_echoes 3 (some .int)) d 8 64 D ba [.ref (ad [1]), .int (nI k), .int (nI v)] ad (PW 1 ad (oneC h (k + 1)) tl t lo o) (RP 1 ad (oneC h (k + 1)) o (some (.int ((tly (oneH h k) (nI 1) v).1)))) noX := by
  have H := p_echoes (D := D) (ba := ba) (ad := ad) (i := 1) (tl := tl) (t := t) (lo := lo) (o := o) hl hd (oneC_ok hh (k + 1) hk) (j := k) oneC_lt hv (inR_ok hv1 hv (by decide))
  rw [oneC_at] at H
  exact H
theorem o_firstEcho (hl : l.stackTraces = false) (hd : 9 ≤ d) (hh : hOK h) (hk : k < hSc h) (hv1 : 1 ≤ v) (hv : v ≤ 1000) : CT l yX6_firstEcho (wsO yX6_firstEcho cX6_firstEcho 3 (some .int)) d 8 64 D ba [.ref (ad [1]), .int (nI k), .int (nI v)] ad (PW 1 ad (oneC h (k + 1)) tl t lo o) (RP 1 ad (oneC h (k + 1)) o (some (.int ((tly (oneH h k) (nI 1) v).2.2.1)))) noX := by
  have H := p_firstEcho (D := D) (ba := ba) (ad := ad) (i := 1) (tl := tl) (t := t) (lo := lo) (o := o) hl hd (oneC_ok hh (k + 1) hk) (j := k) oneC_lt hv (inR_ok hv1 hv (by decide))
  rw [oneC_at] at H
  exact H
theorem o_lastEcho (hl : l.stackTraces = false) (hd : 9 ≤ d) (hh : hOK h) (hk : k < hSc h) (hv1 : 1 ≤ v) (hv : v ≤ 1000) : CT l yX6_lastEcho (wsO yX6_lastEcho cX6_lastEcho 3 (some .int)) d 8 64 D ba [.ref (ad [1]), .int (nI k), .int (nI v)] ad (PW 1 ad (oneC h (k + 1)) tl t lo o) (RP 1 ad (oneC h (k + 1)) o (some (.int ((tly (oneH h k) (nI 1) v).2.2.2)))) noX := by
  have H := p_lastEcho (D := D) (ba := ba) (ad := ad) (i := 1) (tl := tl) (t := t) (lo := lo) (o := o) hl hd (oneC_ok hh (k + 1) hk) (j := k) oneC_lt hv (inR_ok hv1 hv (by decide))
  rw [oneC_at] at H
  exact H
theorem o_loudEchoes (hl : l.stackTraces = false) (hd : 9 ≤ d) (hh : hOK h) (hk : k < hSc h) (hv1 : 1 ≤ v) (hv : v ≤ 1000) {z : Int32} (hin2 : ¬ inR z (nI 1) (nI 1000) = 0) : CT l yX6_loudEchoes (wsO yX6_loudEchoes cX6_loudEchoes 5 (some .int)) d 8 64 D ba [.ref (ad [1]), .int (nI k), .int (nI v), .int z] ad (PW 1 ad (oneC h (k + 1)) tl t lo o) (RP 1 ad (oneC h (k + 1)) o (some (.int ((tly (oneH h k) z v).2.1)))) noX := by
  have H := p_loudEchoes (D := D) (ba := ba) (ad := ad) (i := 1) (tl := tl) (t := t) (lo := lo) (o := o) hl hd (oneC_ok hh (k + 1) hk) (j := k) oneC_lt hv (inR_ok hv1 hv (by decide)) hin2
  rw [oneC_at] at H
  exact H
theorem o_loudnessAt (hl : l.stackTraces = false) (hd : 9 ≤ d) (hh : hOK h) (hk : k < hSc h) (hv1 : 1 ≤ v) (hv : v ≤ 1000) {mm : Nat} (hm : 6 * mm ≤ 3000) : CT l yX6_loudnessAt (wsO yX6_loudnessAt cX6_loudnessAt 5 (some .int)) d 8 64 D ba [.ref (ad [1]), .int (nI k), .int (nI v), .int (nI (6 * mm))] ad (PW 1 ad (oneC h (k + 1)) tl t lo o) (RP 1 ad (oneC h (k + 1)) o (some (.int (ldz (oneH h k) v mm)))) noX := by
  have H := p_loudnessAt (D := D) (ba := ba) (ad := ad) (i := 1) (tl := tl) (t := t) (lo := lo) (o := o) hl hd (oneC_ok hh (k + 1) hk) (j := k) oneC_lt hv (inR_ok hv1 hv (by decide)) hm (inR_ok (Nat.zero_le _) hm (by decide))
  rw [oneC_at, at6] at H
  exact H
theorem b_loudnessAt (hl : l.stackTraces = false) (hd : 9 ≤ d) {σ : CS} (hσ : cOK σ) {j : Nat} (hj : j < cN σ) (hv1 : 1 ≤ v) (hv : v ≤ 1000) {mm : Nat} (hm : 6 * mm ≤ 3000) : CT l yX6_loudnessAt (wsO yX6_loudnessAt cX6_loudnessAt 5 (some .int)) d 8 64 D ba [.ref (ad [0]), .int (nI j), .int (nI v), .int (nI (6 * mm))] ad (PW 0 ad σ tl t lo o) (RP 0 ad σ o (some (.int (ldz (cH σ j) v mm)))) noX := by
  have H := p_loudnessAt (D := D) (ba := ba) (ad := ad) (i := 0) (tl := tl) (t := t) (lo := lo) (o := o) hl hd hσ hj hv (inR_ok hv1 hv (by decide)) hm (inR_ok (Nat.zero_le _) hm (by decide))
  rw [at6] at H
  exact H
end O32
/-- the third bureau beside the two; the two calls' forms -/
abbrev L3 (ad : Adr) (σ : CS) (tl : Int32) (t : TT) (lo : Nat → Int32) (σ1 : CS) (tl1 : Int32) (t1 : TT) (lo1 : Nat → Int32) : Wd := PW 1 ad σ1 tl1 t1 lo1 (LW ad σ σ tl t lo)
abbrev L3b (ad : Adr) (σ : CS) (tl : Int32) (t : TT) (lo : Nat → Int32) (σ1 : CS) (tl1 : Int32) (t1 : TT) (lo1 : Nat → Int32) : Wd := PW 0 ad σ tl t lo (PW 1 ad σ1 tl1 t1 lo1 (SW 2 ad σ nW))
/-- addresses of the third bureau alone may have changed -/
def K1 (ad aq : Adr) : Prop := ∀ k r, k ≠ 1 → aq (k :: r) = ad (k :: r)
section W32
variable {p : Program} {l : Launch} {e : Env} {s : State} {m : MethodId} {args : Array Value} {below : List Frame} {meth : Method} {c : Code} {D : va_G} {ba d mc ms nL pc cells slots : Nat} {ad aq : Adr} {Q : State → Prop} {lv : List (Nat × Value)} {rest : List Value} {σ σ1 : CS} {tl tl1 : Int32} {t t1 : TT} {lo lo1 : Nat → Int32}
theorem L3_sw : L3 ad σ tl t lo σ1 tl1 t1 lo1 = L3b ad σ tl t lo σ1 tl1 t1 lo1 := put_comm (by decide)
theorem LW_K1 (h : K1 ad aq) : LW aq σ σ tl t lo = LW ad σ σ tl t lo := by
  show PW 0 aq σ tl t lo (SW 2 aq σ nW) = _
  rw [SW_ad (fun r => h 2 r (by decide)), PW_ad (fun r => h 0 r (by decide))]
theorem L3_K {σ2 : CS} (h : keeps 1 ad aq) : PW 1 aq σ2 tl1 t1 lo1 (LW ad σ σ tl t lo) = L3 aq σ tl t lo σ2 tl1 t1 lo1 := by
  show _ = PW 1 aq σ2 tl1 t1 lo1 (LW aq σ σ tl t lo)
  rw [LW_K1 (ad := ad) (aq := aq) h.1]
theorem LW_1 {r : Lab} : LW ad σ σ tl t lo (1 :: r) = none := (put_n (by decide)).trans (put_n (by decide))
theorem LW_nil : LW ad σ σ tl t lo [] = none := rfl
theorem V_back1 (h : K1 ad aq) (k : V p l e s m args below meth c D ba d mc ms Q nL ad (LW ad σ σ tl t lo) pc lv rest cells slots) : V p l e s m args below meth c D ba d mc ms Q nL aq (L3 aq σ tl t lo σ1 tl1 t1 lo1) pc lv rest cells slots := by
  refine V_less (w' := LW aq σ σ tl t lo) (fun L e hL => ?_) ?_
  · rcases L with _ | ⟨j, r⟩
    · cases hL
    · by_cases hj : j = 1
      · subst hj; rw [LW_1] at hL; cases hL
      · exact (put_n hj).trans hL
  rw [LW_K1 h]
  refine V_adr (ad' := ad) (fun L hL => ?_) k
  rcases L with _ | ⟨j, r⟩
  · exact absurd LW_nil hL
  · by_cases hj : j = 1
    · subst hj; exact absurd LW_1 hL
    · exact (h j r hj).symm
end W32
