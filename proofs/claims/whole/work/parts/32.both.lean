theorem nat_or {n : Nat} (x : Int32) : (∃ j, j < n ∧ x = nI j) ∨ ∀ j, j < n → x ≠ nI j := by
  by_cases h : ∃ j, j < n ∧ x = nI j
  · exact Or.inl h
  · exact Or.inr (fun j hj z => h ⟨j, hj, z⟩)
theorem inR_or {a b : Nat} (hb : b < 2 ^ 30) (ha : a < 2 ^ 30) (x : Int32) : inR x (nI a) (nI b) = 0 ∨ ∃ v, v ≤ b ∧ x = nI v ∧ ¬ inR x (nI a) (nI b) = 0 := by
  by_cases h : inR x (nI a) (nI b) = 0
  · exact Or.inl h
  · right
    rcases pk_ix x (n := b + 1) (by omega) with h1 | h1 | ⟨j, h1, h2⟩
    · exfalso
      apply h
      rw [inR, if_pos (Int32.lt_of_lt_of_le h1 (nI_pos' (by omega)))]
    · exfalso
      apply h
      have h3 : nI b < x := Int32.lt_of_lt_of_le (nI_lt (Nat.lt_succ_self b) (by omega)) h1
      by_cases hz : x < nI a
      · rw [inR, if_pos hz]
      · rw [inR, if_neg hz, if_pos h3]
    · exact ⟨j, by omega, h2, h⟩
/-- what the class's wrapper and the reference say of one call is the same -/
def Bo (l : Launch) (D : va_G) (ba : Nat) (yL : MethodName) (wL : List Cond) (yM : MethodName) (wM : List Cond) (ints : List Value) (P : Int32 → Prop) (σ : CS) : Prop := ∃ (k : Nat) (y : Int32) (σ' : CS), k < 4 ∧ P y ∧ cOK σ' ∧ (∀ (d : Nat) (ad : Adr) (tl : Int32) (t : TT) (lo : Nat → Int32) (o : Wd) (f0 : Nat → Int64), 11 ≤ d → o [2] = some (eJ 1 f0) → CT l yL wL d 8 64 D ba (.ref (ad [0]) :: (ints ++ [.ref (ad [2])])) ad (PW 0 ad σ tl t lo o) (WR ad σ' (if k = 0 then wset o [2] (eJ 1 (vp_updL f0 0 y.toInt64)) else o) k) noX) ∧ ∀ (d : Nat) (ad : Adr) (th ro : Int32) (lo ma ap : Nat → Int32) (o : Wd), 11 ≤ d → CT l yM wM d 8 64 D ba (.ref (ad [1]) :: ints) ad (QW 1 ad σ th ro lo ma ap o) (RQ 1 ad σ' o (nI k) (some (.int y))) noX
abbrev anyY : Int32 → Prop := fun _ => True
abbrev y01 : Int32 → Prop := fun y => y = nI 0 ∨ y = nI 1
theorem bool01 {n : Nat} (h : n ≤ 1) : y01 (nI n) := by
  rcases (show n = 0 ∨ n = 1 by omega) with z | z <;> rw [z]
  · exact Or.inl rfl
  · exact Or.inr rfl
theorem addH_ok {σ : CS} {v : Nat} (hσ : cOK σ) (hv : v ≤ 90) (h8 : cN σ < 8) : cOK (addH σ v) := by
  refine ⟨h8, hσ.2.1, fun j hj => ?_, hσ.2.2.2⟩
  show hOK (fup (cH σ) (cN σ) _ j)
  by_cases h : j = cN σ
  · subst h; rw [fup_s]; exact ⟨Nat.zero_le _, hv, Nat.zero_le _, Nat.zero_le _, fun k hk => absurd hk (Nat.not_lt_zero k)⟩
  · rw [fup_n h]
    have hj2 : j < cN σ + 1 := hj
    exact hσ.2.2.1 j (by omega)
theorem addD_ok {σ : CS} {s : StdS} (hσ : cOK σ) (hs : dOK s) (h5 : cK σ < 5) : cOK (addD σ s) := by
  refine ⟨hσ.1, h5, hσ.2.2.1, fun j hj => ?_⟩
  show dOK (fup (cS σ) (cK σ) s j)
  by_cases h : j = cK σ
  · subst h; rw [fup_s]; exact hs
  · rw [fup_n h]
    have hj2 : j < cK σ + 1 := hj
    exact hσ.2.2.2 j (by omega)
theorem inR_lo {x a b : Int32} (h : ¬ inR x a b = 0) : ¬ x < a := fun z => h (by rw [inR, if_pos z])
theorem inR_ge {v a : Nat} {b : Int32} (hv : v < 2 ^ 31) (ha : a < 2 ^ 31) (h : ¬ inR (nI v) (nI a) b = 0) : a ≤ v := by
  have := inR_lo h
  apply Nat.not_lt.mp
  intro z
  exact this (nI_lt z ha)
theorem b_addHall {l : Launch} {D : va_G} {ba : Nat} {σ : CS} (hl : l.stackTraces = false) (hσ : cOK σ) (x : Int32) : Bo l D ba yL_addHall (wsH yL_addHall cL_addHall 4 (some .int) [(0, 9, 12, 13), (0, 9, 15, 15)]) yX7_addHall (wsO yX7_addHall cX7_addHall 2 (some .int)) [.int x] anyY σ := by
  rcases inR_or (a := 0) (b := 90) (by decide) (by decide) x with h | ⟨v, hv, rfl, hin⟩
  ·
    refine ⟨1, _, _, by decide, ?_, ?_, fun d ad tl t lo o f0 hd ho => ?_, fun d ad th ro lo ma ap o hd => m_addHall_bad hl (by omega) hσ h⟩
    · first | exact trivial | exact bool01 (metW_le _ _ _ _) | exact bool01 (by split <;> omega) | exact Or.inl rfl
    · exact hσ
    · rw [if_neg (show ¬ (1 : Nat) = 0 by decide)]; exact w_addHall_bad hl (by omega) hσ ho h
  ·
    by_cases h8 : cN σ < 8
    ·
      refine ⟨0, _, _, by decide, ?_, ?_, fun d ad tl t lo o f0 hd ho => ?_, fun d ad th ro lo ma ap o hd => m_addHall hl (by omega) hσ hv hin h8⟩
      · first | exact trivial | exact bool01 (metW_le _ _ _ _) | exact bool01 (by split <;> omega) | exact Or.inl rfl
      · exact addH_ok hσ hv h8
      · rw [if_pos rfl]; exact w_addHall hl (by omega) hσ ho hv hin h8
    ·
      refine ⟨2, _, _, by decide, ?_, ?_, fun d ad tl t lo o f0 hd ho => ?_, fun d ad th ro lo ma ap o hd => m_addHall_full hl (by omega) hσ hin (by have := hσ.1; omega)⟩
      · first | exact trivial | exact bool01 (metW_le _ _ _ _) | exact bool01 (by split <;> omega) | exact Or.inl rfl
      · exact hσ
      · rw [if_neg (show ¬ (2 : Nat) = 0 by decide)]; exact w_addHall_full hl (by omega) hσ ho hin h8
theorem b_addSurface {l : Launch} {D : va_G} {ba : Nat} {σ : CS} (hl : l.stackTraces = false) (hσ : cOK σ) (x y z : Int32) : Bo l D ba yL_addSurface (wsH yL_addSurface cL_addSurface 6 (some .int) [(0, 12, 15, 21), (0, 12, 19, 13), (0, 12, 23, 15)]) yX7_addSurface (wsO yX7_addSurface cX7_addSurface 4 (some .int)) [.int x, .int y, .int z] anyY σ := by
  rcases nat_or (n := cN σ) x with ⟨j, hj, rfl⟩ | hx
  ·
    rcases inR_or (a := 1) (b := 60) (by decide) (by decide) y with h | ⟨a, ha, rfl, hi1⟩
    ·
      refine ⟨2, _, _, by decide, ?_, ?_, fun d ad tl t lo o f0 hd ho => ?_, fun d ad th ro lo ma ap o hd => m_addSurface_bad hl (by omega) hσ hj h z⟩
      · first | exact trivial | exact bool01 (metW_le _ _ _ _) | exact bool01 (by split <;> omega) | exact Or.inl rfl
      · exact hσ
      · rw [if_neg (show ¬ (2 : Nat) = 0 by decide)]; exact w_addSurface_bad hl (by omega) hσ ho hj h z
    ·
      rcases inR_or (a := 0) (b := 99) (by decide) (by decide) z with h | ⟨b, hb, rfl, hi2⟩
      ·
        refine ⟨2, _, _, by decide, ?_, ?_, fun d ad tl t lo o f0 hd ho => ?_, fun d ad th ro lo ma ap o hd => m_addSurface_bad2 hl (by omega) hσ hj hi1 h⟩
        · first | exact trivial | exact bool01 (metW_le _ _ _ _) | exact bool01 (by split <;> omega) | exact Or.inl rfl
        · exact hσ
        · rw [if_neg (show ¬ (2 : Nat) = 0 by decide)]; exact w_addSurface_bad2 hl (by omega) hσ ho hj hi1 h
      ·
        by_cases h6 : hSc (cH σ j) < 6
        ·
          refine ⟨0, _, _, by decide, ?_, ?_, fun d ad tl t lo o f0 hd ho => ?_, fun d ad th ro lo ma ap o hd => m_addSurface hl (by omega) hσ hj ha hb hi1 hi2 h6⟩
          · first | exact trivial | exact bool01 (metW_le _ _ _ _) | exact bool01 (by split <;> omega) | exact Or.inl rfl
          · (have hu := hσ.2.2.1 j hj; exact cOK_set hσ ⟨by show hSc (cH σ j) + 1 ≤ 6; omega, hu.2.1, hu.2.2.1, Nat.zero_le _, fun k hk => by
            show (fup (hSu (cH σ j)) (hSc (cH σ j)) (b, a) k).1 ≤ 99 ∧ 1 ≤ (fup (hSu (cH σ j)) (hSc (cH σ j)) (b, a) k).2 ∧ (fup (hSu (cH σ j)) (hSc (cH σ j)) (b, a) k).2 ≤ 60
            by_cases hz : k = hSc (cH σ j)
            · rw [hz, fup_s]; exact ⟨hb, inR_ge (by omega) (by decide) hi1, ha⟩
            · rw [fup_n hz]; exact hu.2.2.2.2 k (by have : k < hSc (cH σ j) + 1 := hk; omega)⟩)
          · rw [if_pos rfl]; exact w_addSurface hl (by omega) hσ ho hj ha hb hi1 hi2 h6
        ·
          refine ⟨3, _, _, by decide, ?_, ?_, fun d ad tl t lo o f0 hd ho => ?_, fun d ad th ro lo ma ap o hd => m_addSurface_full hl (by omega) hσ hj hi1 hi2 (by have := (hσ.2.2.1 j hj).1; omega)⟩
          · first | exact trivial | exact bool01 (metW_le _ _ _ _) | exact bool01 (by split <;> omega) | exact Or.inl rfl
          · exact hσ
          · rw [if_neg (show ¬ (3 : Nat) = 0 by decide)]; exact w_addSurface_full hl (by omega) hσ ho hj hi1 hi2 h6
  ·
    refine ⟨1, _, _, by decide, ?_, ?_, fun d ad tl t lo o f0 hd ho => ?_, fun d ad th ro lo ma ap o hd => m_addSurface_no hl (by omega) hσ hx y z⟩
    · first | exact trivial | exact bool01 (metW_le _ _ _ _) | exact bool01 (by split <;> omega) | exact Or.inl rfl
    · exact hσ
    · rw [if_neg (show ¬ (1 : Nat) = 0 by decide)]; exact w_addSurface_no hl (by omega) hσ ho hx y z
theorem b_moveSurface {l : Launch} {D : va_G} {ba : Nat} {σ : CS} (hl : l.stackTraces = false) (hσ : cOK σ) (x y z : Int32) : Bo l D ba yL_moveSurface (wsH yL_moveSurface cL_moveSurface 6 (some .int) [(0, 12, 15, 21), (0, 12, 19, 13)]) yX7_moveSurface (wsO yX7_moveSurface cX7_moveSurface 5 (some .int)) [.int x, .int y, .int z] anyY σ := by
  rcases nat_or (n := cN σ) x with ⟨j, hj, rfl⟩ | hx
  ·
    rcases nat_or (n := hSc (cH σ j)) y with ⟨k, hk, rfl⟩ | hx2
    ·
      rcases inR_or (a := 1) (b := 60) (by decide) (by decide) z with h | ⟨v, hv, rfl, hin⟩
      ·
        refine ⟨2, _, _, by decide, ?_, ?_, fun d ad tl t lo o f0 hd ho => ?_, fun d ad th ro lo ma ap o hd => m_move_bad hl (by omega) hσ hj hk h⟩
        · first | exact trivial | exact bool01 (metW_le _ _ _ _) | exact bool01 (by split <;> omega) | exact Or.inl rfl
        · exact hσ
        · rw [if_neg (show ¬ (2 : Nat) = 0 by decide)]; exact w_moveSurface_bad hl (by omega) hσ ho hj hk h
      ·
        refine ⟨0, _, _, by decide, ?_, ?_, fun d ad tl t lo o f0 hd ho => ?_, fun d ad th ro lo ma ap o hd => m_move hl (by omega) hσ hj hk hv hin⟩
        · first | exact trivial | exact bool01 (metW_le _ _ _ _) | exact bool01 (by split <;> omega) | exact Or.inl rfl
        · (have hu := hσ.2.2.1 j hj; exact cOK_set hσ ⟨hu.1, hu.2.1, hu.2.2.1, Nat.zero_le _, fun a ha => by
            show (fup (hSu (cH σ j)) k ((hSu (cH σ j) k).1, v) a).1 ≤ 99 ∧ 1 ≤ (fup (hSu (cH σ j)) k ((hSu (cH σ j) k).1, v) a).2 ∧ (fup (hSu (cH σ j)) k ((hSu (cH σ j) k).1, v) a).2 ≤ 60
            by_cases hz : a = k
            · rw [hz, fup_s]; exact ⟨(hu.2.2.2.2 k hk).1, inR_ge (by omega) (by decide) hin, hv⟩
            · rw [fup_n hz]; exact hu.2.2.2.2 a ha⟩)
        · rw [if_pos rfl]; exact w_moveSurface hl (by omega) hσ ho hj hk hv hin
    ·
      refine ⟨1, _, _, by decide, ?_, ?_, fun d ad tl t lo o f0 hd ho => ?_, fun d ad th ro lo ma ap o hd => m_move_no2 hl (by omega) hσ hj hx2 z⟩
      · first | exact trivial | exact bool01 (metW_le _ _ _ _) | exact bool01 (by split <;> omega) | exact Or.inl rfl
      · exact hσ
      · rw [if_neg (show ¬ (1 : Nat) = 0 by decide)]; exact w_moveSurface_no2 hl (by omega) hσ ho hj hx2 z
  ·
    refine ⟨1, _, _, by decide, ?_, ?_, fun d ad tl t lo o f0 hd ho => ?_, fun d ad th ro lo ma ap o hd => m_move_no hl (by omega) hσ hx y z⟩
    · first | exact trivial | exact bool01 (metW_le _ _ _ _) | exact bool01 (by split <;> omega) | exact Or.inl rfl
    · exact hσ
    · rw [if_neg (show ¬ (1 : Nat) = 0 by decide)]; exact w_moveSurface_no hl (by omega) hσ ho hx y z
theorem b_setDamping {l : Launch} {D : va_G} {ba : Nat} {σ : CS} (hl : l.stackTraces = false) (hσ : cOK σ) (x y : Int32) : Bo l D ba yL_setDamping (wsH yL_setDamping cL_setDamping 5 (some .int) [(0, 10, 13, 21), (0, 10, 17, 13)]) yX7_setDamping (wsO yX7_setDamping cX7_setDamping 4 (some .int)) [.int x, .int y] anyY σ := by
  rcases nat_or (n := cN σ) x with ⟨j, hj, rfl⟩ | hx
  ·
    rcases inR_or (a := 0) (b := 90) (by decide) (by decide) y with h | ⟨v, hv, rfl, hin⟩
    ·
      refine ⟨2, _, _, by decide, ?_, ?_, fun d ad tl t lo o f0 hd ho => ?_, fun d ad th ro lo ma ap o hd => m_setDamping_bad hl (by omega) hσ hj h⟩
      · first | exact trivial | exact bool01 (metW_le _ _ _ _) | exact bool01 (by split <;> omega) | exact Or.inl rfl
      · exact hσ
      · rw [if_neg (show ¬ (2 : Nat) = 0 by decide)]; exact w_setDamping_bad hl (by omega) hσ ho hj h
    ·
      refine ⟨0, _, _, by decide, ?_, ?_, fun d ad tl t lo o f0 hd ho => ?_, fun d ad th ro lo ma ap o hd => m_setDamping hl (by omega) hσ hj hv hin⟩
      · first | exact trivial | exact bool01 (metW_le _ _ _ _) | exact bool01 (by split <;> omega) | exact Or.inl rfl
      · (have hu := hσ.2.2.1 j hj; exact cOK_set hσ ⟨hu.1, hv, hu.2.2.1, Nat.zero_le _, hu.2.2.2.2⟩)
      · rw [if_pos rfl]; exact w_setDamping hl (by omega) hσ ho hj hv hin
  ·
    refine ⟨1, _, _, by decide, ?_, ?_, fun d ad tl t lo o f0 hd ho => ?_, fun d ad th ro lo ma ap o hd => m_setDamping_no hl (by omega) hσ hx y⟩
    · first | exact trivial | exact bool01 (metW_le _ _ _ _) | exact bool01 (by split <;> omega) | exact Or.inl rfl
    · exact hσ
    · rw [if_neg (show ¬ (1 : Nat) = 0 by decide)]; exact w_setDamping_no hl (by omega) hσ ho hx y
theorem b_clean {l : Launch} {D : va_G} {ba : Nat} {σ : CS} (hl : l.stackTraces = false) (hσ : cOK σ) (x : Int32) : Bo l D ba yL_clean (wsH yL_clean cL_clean 4 (some .int) [(0, 9, 12, 21)]) yX7_clean (wsO yX7_clean cX7_clean 3 (some .int)) [.int x] anyY σ := by
  rcases nat_or (n := cN σ) x with ⟨j, hj, rfl⟩ | hx
  ·
    refine ⟨0, _, _, by decide, ?_, ?_, fun d ad tl t lo o f0 hd ho => ?_, fun d ad th ro lo ma ap o hd => m_clean hl (by omega) hσ hj⟩
    · first | exact trivial | exact bool01 (metW_le _ _ _ _) | exact bool01 (by split <;> omega) | exact Or.inl rfl
    · (have hu := hσ.2.2.1 j hj; exact cOK_set hσ ⟨hu.1, hu.2.1, Nat.zero_le _, hu.2.2.2.1, hu.2.2.2.2⟩)
    · rw [if_pos rfl]; exact w_clean hl (by omega) hσ ho hj
  ·
    refine ⟨1, _, _, by decide, ?_, ?_, fun d ad tl t lo o f0 hd ho => ?_, fun d ad th ro lo ma ap o hd => m_clean_no hl (by omega) hσ hx⟩
    · first | exact trivial | exact bool01 (metW_le _ _ _ _) | exact bool01 (by split <;> omega) | exact Or.inl rfl
    · exact hσ
    · rw [if_neg (show ¬ (1 : Nat) = 0 by decide)]; exact w_clean_no hl (by omega) hσ ho hx
theorem b_addStandard {l : Launch} {D : va_G} {ba : Nat} {σ : CS} (hl : l.stackTraces = false) (hσ : cOK σ) (x y z a b : Int32) : Bo l D ba yL_addStandard (wsH yL_addStandard cL_addStandard 8 (some .int) [(0, 16, 19, 13), (0, 16, 23, 15)]) yX7_addStandard (wsO yX7_addStandard cX7_addStandard 7 (some .int)) [.int x, .int y, .int z, .int a, .int b] anyY σ := by
  rcases inR_or (a := 0) (b := 500) (by decide) (by decide) x with h | ⟨ea, h_ea, rfl, g_ea⟩
  ·
    refine ⟨1, _, _, by decide, ?_, ?_, fun d ad tl t lo o f0 hd ho => ?_, fun d ad th ro lo ma ap o hd => m_addStd_bad hl (by omega) hσ (Or.inl h)⟩
    · first | exact trivial | exact bool01 (metW_le _ _ _ _) | exact bool01 (by split <;> omega) | exact Or.inl rfl
    · exact hσ
    · rw [if_neg (show ¬ (1 : Nat) = 0 by decide)]; exact w_addStandard_bad hl (by omega) hσ ho (Or.inl h)
  ·
    rcases inR_or (a := 1) (b := 1000) (by decide) (by decide) y with h | ⟨li, h_li, rfl, g_li⟩
    ·
      refine ⟨1, _, _, by decide, ?_, ?_, fun d ad tl t lo o f0 hd ho => ?_, fun d ad th ro lo ma ap o hd => m_addStd_bad hl (by omega) hσ (Or.inr (Or.inl h))⟩
      · first | exact trivial | exact bool01 (metW_le _ _ _ _) | exact bool01 (by split <;> omega) | exact Or.inl rfl
      · exact hσ
      · rw [if_neg (show ¬ (1 : Nat) = 0 by decide)]; exact w_addStandard_bad hl (by omega) hσ ho (Or.inr (Or.inl h))
    ·
      rcases inR_or (a := 0) (b := 99) (by decide) (by decide) z with h | ⟨mo, h_mo, rfl, g_mo⟩
      ·
        refine ⟨1, _, _, by decide, ?_, ?_, fun d ad tl t lo o f0 hd ho => ?_, fun d ad th ro lo ma ap o hd => m_addStd_bad hl (by omega) hσ (Or.inr (Or.inr (Or.inl h)))⟩
        · first | exact trivial | exact bool01 (metW_le _ _ _ _) | exact bool01 (by split <;> omega) | exact Or.inl rfl
        · exact hσ
        · rw [if_neg (show ¬ (1 : Nat) = 0 by decide)]; exact w_addStandard_bad hl (by omega) hσ ho (Or.inr (Or.inr (Or.inl h)))
      ·
        rcases inR_or (a := 0) (b := 3000) (by decide) (by decide) a with h | ⟨lt, h_lt, rfl, g_lt⟩
        ·
          refine ⟨1, _, _, by decide, ?_, ?_, fun d ad tl t lo o f0 hd ho => ?_, fun d ad th ro lo ma ap o hd => m_addStd_bad hl (by omega) hσ (Or.inr (Or.inr (Or.inr (Or.inl h))))⟩
          · first | exact trivial | exact bool01 (metW_le _ _ _ _) | exact bool01 (by split <;> omega) | exact Or.inl rfl
          · exact hσ
          · rw [if_neg (show ¬ (1 : Nat) = 0 by decide)]; exact w_addStandard_bad hl (by omega) hσ ho (Or.inr (Or.inr (Or.inr (Or.inl h))))
        ·
          rcases inR_or (a := 1) (b := 100) (by decide) (by decide) b with h | ⟨dy, h_dy, rfl, g_dy⟩
          ·
            refine ⟨1, _, _, by decide, ?_, ?_, fun d ad tl t lo o f0 hd ho => ?_, fun d ad th ro lo ma ap o hd => m_addStd_bad hl (by omega) hσ (Or.inr (Or.inr (Or.inr (Or.inr (h)))))⟩
            · first | exact trivial | exact bool01 (metW_le _ _ _ _) | exact bool01 (by split <;> omega) | exact Or.inl rfl
            · exact hσ
            · rw [if_neg (show ¬ (1 : Nat) = 0 by decide)]; exact w_addStandard_bad hl (by omega) hσ ho (Or.inr (Or.inr (Or.inr (Or.inr (h)))))
          ·
            by_cases h5 : cK σ < 5
            ·
              refine ⟨0, _, _, by decide, ?_, ?_, fun d ad tl t lo o f0 hd ho => ?_, fun d ad th ro lo ma ap o hd => m_addStd hl (by omega) hσ h_ea h_li h_mo h_lt h_dy g_ea g_li g_mo g_lt g_dy h5⟩
              · first | exact trivial | exact bool01 (metW_le _ _ _ _) | exact bool01 (by split <;> omega) | exact Or.inl rfl
              · exact addD_ok hσ ⟨h_ea, inR_ge (v := li) (by omega) (by decide) g_li, h_li, h_mo, h_lt, inR_ge (v := dy) (by omega) (by decide) g_dy, h_dy⟩ h5
              · rw [if_pos rfl]; exact w_addStandard hl (by omega) hσ ho h_ea h_li h_mo h_lt h_dy g_ea g_li g_mo g_lt g_dy h5
            ·
              refine ⟨2, _, _, by decide, ?_, ?_, fun d ad tl t lo o f0 hd ho => ?_, fun d ad th ro lo ma ap o hd => m_addStd_full hl (by omega) hσ g_ea g_li g_mo g_lt g_dy (by have := hσ.2.1; omega)⟩
              · first | exact trivial | exact bool01 (metW_le _ _ _ _) | exact bool01 (by split <;> omega) | exact Or.inl rfl
              · exact hσ
              · rw [if_neg (show ¬ (2 : Nat) = 0 by decide)]; exact w_addStandard_full hl (by omega) hσ ho g_ea g_li g_mo g_lt g_dy h5
theorem b_inspect {l : Launch} {D : va_G} {ba : Nat} {σ : CS} (hl : l.stackTraces = false) (hσ : cOK σ) (x y : Int32) : Bo l D ba yL_inspect (wsH yL_inspect cL_inspect 5 (some .int) [(0, 17, 20, 21)]) yX7_inspect (wsO yX7_inspect cX7_inspect 4 (some .boolean)) [.int x, .int y] y01 σ := by
  rcases nat_or (n := cN σ) x with ⟨j, hj, rfl⟩ | hx
  ·
    rcases nat_or (n := cK σ) y with ⟨q, hq, rfl⟩ | hx2
    ·
      by_cases hm : metW (cH σ j) (cS σ q) (hDm (cH σ j)) (hDu (cH σ j)) = 1
      ·
        refine ⟨0, _, _, by decide, ?_, ?_, fun d ad tl t lo o f0 hd ho => ?_, fun d ad th ro lo ma ap o hd => m_inspect_met hl (by omega) hσ hj hq hm⟩
        · first | exact trivial | exact bool01 (metW_le _ _ _ _) | exact bool01 (by split <;> omega) | exact Or.inl rfl
        · (have hu := hσ.2.2.1 j hj; exact cOK_set (σ := (cN σ, cK σ, cDay σ, cIns σ + nI 1, cH σ, cS σ)) hσ ⟨hu.1, hu.2.1, hu.2.2.1, (hσ.2.2.2 q hq).2.2.2.2.2.2, hu.2.2.2.2⟩)
        · rw [if_pos rfl]; exact w_inspect_met hl (by omega) hσ ho hj hq hm
      ·
        have hm0 : metW (cH σ j) (cS σ q) (hDm (cH σ j)) (hDu (cH σ j)) = 0 := by have := metW_le (cH σ j) (cS σ q) (hDm (cH σ j)) (hDu (cH σ j)); omega
        by_cases hc : hCe (cH σ j) = nI q
        ·
          refine ⟨0, _, _, by decide, ?_, ?_, fun d ad tl t lo o f0 hd ho => ?_, fun d ad th ro lo ma ap o hd => m_inspect_same hl (by omega) hσ hj hq hm0 hc⟩
          · first | exact trivial | exact bool01 (metW_le _ _ _ _) | exact bool01 (by split <;> omega) | exact Or.inl rfl
          · (have hu := hσ.2.2.1 j hj; exact cOK_set (σ := (cN σ, cK σ, cDay σ, cIns σ + nI 1, cH σ, cS σ)) hσ ⟨hu.1, hu.2.1, hu.2.2.1, Nat.zero_le _, hu.2.2.2.2⟩)
          · rw [if_pos rfl]; exact w_inspect_same hl (by omega) hσ ho hj hq hm0 hc
        ·
          refine ⟨0, _, _, by decide, ?_, ?_, fun d ad tl t lo o f0 hd ho => ?_, fun d ad th ro lo ma ap o hd => m_inspect_other hl (by omega) hσ hj hq hm0 hc⟩
          · first | exact trivial | exact bool01 (metW_le _ _ _ _) | exact bool01 (by split <;> omega) | exact Or.inl rfl
          · exact hσ
          · rw [if_pos rfl]; exact w_inspect_other hl (by omega) hσ ho hj hq hm0 hc
    ·
      refine ⟨1, _, _, by decide, ?_, ?_, fun d ad tl t lo o f0 hd ho => ?_, fun d ad th ro lo ma ap o hd => m_inspect_no2 hl (by omega) hσ hj hx2⟩
      · first | exact trivial | exact bool01 (metW_le _ _ _ _) | exact bool01 (by split <;> omega) | exact Or.inl rfl
      · exact hσ
      · rw [if_neg (show ¬ (1 : Nat) = 0 by decide)]; exact w_inspect_no2 hl (by omega) hσ ho hj hx2
  ·
    refine ⟨1, _, _, by decide, ?_, ?_, fun d ad tl t lo o f0 hd ho => ?_, fun d ad th ro lo ma ap o hd => m_inspect_no hl (by omega) hσ hx y⟩
    · first | exact trivial | exact bool01 (metW_le _ _ _ _) | exact bool01 (by split <;> omega) | exact Or.inl rfl
    · exact hσ
    · rw [if_neg (show ¬ (1 : Nat) = 0 by decide)]; exact w_inspect_no hl (by omega) hσ ho hx y
theorem b_meets {l : Launch} {D : va_G} {ba : Nat} {σ : CS} (hl : l.stackTraces = false) (hσ : cOK σ) (x y : Int32) : Bo l D ba yL_meets (wsH yL_meets cL_meets 5 (some .int) [(0, 17, 20, 21)]) yX7_meets_ (wsO yX7_meets_ cX7_meets_ 3 (some .boolean)) [.int x, .int y] y01 σ := by
  rcases nat_or (n := cN σ) x with ⟨j, hj, rfl⟩ | hx
  ·
    rcases nat_or (n := cK σ) y with ⟨q, hq, rfl⟩ | hx2
    ·
      refine ⟨0, _, _, by decide, ?_, ?_, fun d ad tl t lo o f0 hd ho => ?_, fun d ad th ro lo ma ap o hd => m_meets2 hl (by omega) hσ hj hq⟩
      · first | exact trivial | exact bool01 (metW_le _ _ _ _) | exact bool01 (by split <;> omega) | exact Or.inl rfl
      · exact hσ
      · rw [if_pos rfl]; exact w_meets hl (by omega) hσ ho hj hq
    ·
      refine ⟨1, _, _, by decide, ?_, ?_, fun d ad tl t lo o f0 hd ho => ?_, fun d ad th ro lo ma ap o hd => m_meets2_no2 hl (by omega) hσ hj hx2⟩
      · first | exact trivial | exact bool01 (metW_le _ _ _ _) | exact bool01 (by split <;> omega) | exact Or.inl rfl
      · exact hσ
      · rw [if_neg (show ¬ (1 : Nat) = 0 by decide)]; exact w_meets_no2 hl (by omega) hσ ho hj hx2
  ·
    refine ⟨1, _, _, by decide, ?_, ?_, fun d ad tl t lo o f0 hd ho => ?_, fun d ad th ro lo ma ap o hd => m_meets2_no hl (by omega) hσ hx y⟩
    · first | exact trivial | exact bool01 (metW_le _ _ _ _) | exact bool01 (by split <;> omega) | exact Or.inl rfl
    · exact hσ
    · rw [if_neg (show ¬ (1 : Nat) = 0 by decide)]; exact w_meets_no hl (by omega) hσ ho hx y
theorem b_leastDamping {l : Launch} {D : va_G} {ba : Nat} {σ : CS} (hl : l.stackTraces = false) (hσ : cOK σ) (x y : Int32) : Bo l D ba yL_leastDamping (wsH yL_leastDamping cL_leastDamping 5 (some .int) [(0, 10, 13, 21)]) yX7_leastDamping (wsO yX7_leastDamping cX7_leastDamping 3 (some .int)) [.int x, .int y] anyY σ := by
  rcases nat_or (n := cN σ) x with ⟨j, hj, rfl⟩ | hx
  ·
    rcases nat_or (n := cK σ) y with ⟨q, hq, rfl⟩ | hx2
    ·
      refine ⟨0, _, _, by decide, ?_, ?_, fun d ad tl t lo o f0 hd ho => ?_, fun d ad th ro lo ma ap o hd => m_leastDamping hl (by omega) hσ hj hq⟩
      · first | exact trivial | exact bool01 (metW_le _ _ _ _) | exact bool01 (by split <;> omega) | exact Or.inl rfl
      · exact hσ
      · rw [if_pos rfl]; exact w_leastDamping hl (by omega) hσ ho hj hq
    ·
      refine ⟨1, _, _, by decide, ?_, ?_, fun d ad tl t lo o f0 hd ho => ?_, fun d ad th ro lo ma ap o hd => m_leastDamping_no2 hl (by omega) hσ hj hx2⟩
      · first | exact trivial | exact bool01 (metW_le _ _ _ _) | exact bool01 (by split <;> omega) | exact Or.inl rfl
      · exact hσ
      · rw [if_neg (show ¬ (1 : Nat) = 0 by decide)]; exact w_leastDamping_no2 hl (by omega) hσ ho hj hx2
  ·
    refine ⟨1, _, _, by decide, ?_, ?_, fun d ad tl t lo o f0 hd ho => ?_, fun d ad th ro lo ma ap o hd => m_leastDamping_no hl (by omega) hσ hx y⟩
    · first | exact trivial | exact bool01 (metW_le _ _ _ _) | exact bool01 (by split <;> omega) | exact Or.inl rfl
    · exact hσ
    · rw [if_neg (show ¬ (1 : Nat) = 0 by decide)]; exact w_leastDamping_no hl (by omega) hσ ho hx y
theorem b_daysUntilMet {l : Launch} {D : va_G} {ba : Nat} {σ : CS} (hl : l.stackTraces = false) (hσ : cOK σ) (x y : Int32) : Bo l D ba yL_daysUntilMet (wsH yL_daysUntilMet cL_daysUntilMet 5 (some .int) [(0, 10, 13, 21)]) yX7_daysUntilMet (wsO yX7_daysUntilMet cX7_daysUntilMet 4 (some .int)) [.int x, .int y] anyY σ := by
  rcases nat_or (n := cN σ) x with ⟨j, hj, rfl⟩ | hx
  ·
    rcases nat_or (n := cK σ) y with ⟨q, hq, rfl⟩ | hx2
    ·
      refine ⟨0, _, _, by decide, ?_, ?_, fun d ad tl t lo o f0 hd ho => ?_, fun d ad th ro lo ma ap o hd => m_days hl (by omega) hσ hj hq⟩
      · first | exact trivial | exact bool01 (metW_le _ _ _ _) | exact bool01 (by split <;> omega) | exact Or.inl rfl
      · exact hσ
      · rw [if_pos rfl]; exact w_daysUntilMet hl (by omega) hσ ho hj hq
    ·
      refine ⟨1, _, _, by decide, ?_, ?_, fun d ad tl t lo o f0 hd ho => ?_, fun d ad th ro lo ma ap o hd => m_days_no2 hl (by omega) hσ hj hx2⟩
      · first | exact trivial | exact bool01 (metW_le _ _ _ _) | exact bool01 (by split <;> omega) | exact Or.inl rfl
      · exact hσ
      · rw [if_neg (show ¬ (1 : Nat) = 0 by decide)]; exact w_daysUntilMet_no2 hl (by omega) hσ ho hj hx2
  ·
    refine ⟨1, _, _, by decide, ?_, ?_, fun d ad tl t lo o f0 hd ho => ?_, fun d ad th ro lo ma ap o hd => m_days_no hl (by omega) hσ hx y⟩
    · first | exact trivial | exact bool01 (metW_le _ _ _ _) | exact bool01 (by split <;> omega) | exact Or.inl rfl
    · exact hσ
    · rw [if_neg (show ¬ (1 : Nat) = 0 by decide)]; exact w_daysUntilMet_no hl (by omega) hσ ho hx y
theorem b_meetsWithDamping {l : Launch} {D : va_G} {ba : Nat} {σ : CS} (hl : l.stackTraces = false) (hσ : cOK σ) (x y z : Int32) : Bo l D ba yL_meetsWithDamping (wsH yL_meetsWithDamping cL_meetsWithDamping 6 (some .int) [(0, 19, 22, 21), (0, 19, 26, 13)]) yX7_meetsWithDamping (wsO yX7_meetsWithDamping cX7_meetsWithDamping 4 (some .boolean)) [.int x, .int y, .int z] y01 σ := by
  rcases nat_or (n := cN σ) x with ⟨j, hj, rfl⟩ | hx
  ·
    rcases nat_or (n := cK σ) y with ⟨q, hq, rfl⟩ | hx2
    ·
      rcases inR_or (a := 0) (b := 90) (by decide) (by decide) z with h | ⟨v, hv, rfl, hin⟩
      ·
        refine ⟨2, _, _, by decide, ?_, ?_, fun d ad tl t lo o f0 hd ho => ?_, fun d ad th ro lo ma ap o hd => m_withDamp_bad hl (by omega) hσ hj hq h⟩
        · first | exact trivial | exact bool01 (metW_le _ _ _ _) | exact bool01 (by split <;> omega) | exact Or.inl rfl
        · exact hσ
        · rw [if_neg (show ¬ (2 : Nat) = 0 by decide)]; exact w_meetsWithDamping_bad hl (by omega) hσ ho hj hq h
      ·
        refine ⟨0, _, _, by decide, ?_, ?_, fun d ad tl t lo o f0 hd ho => ?_, fun d ad th ro lo ma ap o hd => m_withDamp hl (by omega) hσ hj hq hv hin⟩
        · first | exact trivial | exact bool01 (metW_le _ _ _ _) | exact bool01 (by split <;> omega) | exact Or.inl rfl
        · exact hσ
        · rw [if_pos rfl]; exact w_meetsWithDamping hl (by omega) hσ ho hj hq hv hin
    ·
      refine ⟨1, _, _, by decide, ?_, ?_, fun d ad tl t lo o f0 hd ho => ?_, fun d ad th ro lo ma ap o hd => m_withDamp_no2 hl (by omega) hσ hj hx2 z⟩
      · first | exact trivial | exact bool01 (metW_le _ _ _ _) | exact bool01 (by split <;> omega) | exact Or.inl rfl
      · exact hσ
      · rw [if_neg (show ¬ (1 : Nat) = 0 by decide)]; exact w_meetsWithDamping_no2 hl (by omega) hσ ho hj hx2 z
  ·
    refine ⟨1, _, _, by decide, ?_, ?_, fun d ad tl t lo o f0 hd ho => ?_, fun d ad th ro lo ma ap o hd => m_withDamp_no hl (by omega) hσ hx y z⟩
    · first | exact trivial | exact bool01 (metW_le _ _ _ _) | exact bool01 (by split <;> omega) | exact Or.inl rfl
    · exact hσ
    · rw [if_neg (show ¬ (1 : Nat) = 0 by decide)]; exact w_meetsWithDamping_no hl (by omega) hσ ho hx y z
theorem b_revoke {l : Launch} {D : va_G} {ba : Nat} {σ : CS} (hl : l.stackTraces = false) (hσ : cOK σ) (x : Int32) : Bo l D ba yL_revoke (wsH yL_revoke cL_revoke 4 (some .int) [(0, 9, 12, 21), (0, 9, 15, 15)]) yX7_revoke (wsO yX7_revoke cX7_revoke 3 (some .int)) [.int x] anyY σ := by
  rcases nat_or (n := cN σ) x with ⟨j, hj, rfl⟩ | hx
  ·
    by_cases hc : hCe (cH σ j) = -1
    ·
      refine ⟨2, _, _, by decide, ?_, ?_, fun d ad tl t lo o f0 hd ho => ?_, fun d ad th ro lo ma ap o hd => m_revoke_none hl (by omega) hσ hj hc⟩
      · first | exact trivial | exact bool01 (metW_le _ _ _ _) | exact bool01 (by split <;> omega) | exact Or.inl rfl
      · exact hσ
      · rw [if_neg (show ¬ (2 : Nat) = 0 by decide)]; exact w_revoke_none hl (by omega) hσ ho hj hc
    ·
      refine ⟨0, _, _, by decide, ?_, ?_, fun d ad tl t lo o f0 hd ho => ?_, fun d ad th ro lo ma ap o hd => m_revoke hl (by omega) hσ hj hc⟩
      · first | exact trivial | exact bool01 (metW_le _ _ _ _) | exact bool01 (by split <;> omega) | exact Or.inl rfl
      · (have hu := hσ.2.2.1 j hj; exact cOK_set hσ ⟨hu.1, hu.2.1, hu.2.2.1, Nat.zero_le _, hu.2.2.2.2⟩)
      · rw [if_pos rfl]; exact w_revoke hl (by omega) hσ ho hj hc
  ·
    refine ⟨1, _, _, by decide, ?_, ?_, fun d ad tl t lo o f0 hd ho => ?_, fun d ad th ro lo ma ap o hd => m_revoke_no hl (by omega) hσ hx⟩
    · first | exact trivial | exact bool01 (metW_le _ _ _ _) | exact bool01 (by split <;> omega) | exact Or.inl rfl
    · exact hσ
    · rw [if_neg (show ¬ (1 : Nat) = 0 by decide)]; exact w_revoke_no hl (by omega) hσ ho hx
theorem b_certifiedBy {l : Launch} {D : va_G} {ba : Nat} {σ : CS} (hl : l.stackTraces = false) (hσ : cOK σ) (x : Int32) : Bo l D ba yL_certifiedBy (wsH yL_certifiedBy cL_certifiedBy 4 (some .int) [(0, 9, 12, 21), (0, 9, 15, 15)]) yX7_certifiedBy (wsO yX7_certifiedBy cX7_certifiedBy 2 (some .int)) [.int x] anyY σ := by
  rcases nat_or (n := cN σ) x with ⟨j, hj, rfl⟩ | hx
  ·
    by_cases hc : hCe (cH σ j) = -1
    ·
      refine ⟨2, _, _, by decide, ?_, ?_, fun d ad tl t lo o f0 hd ho => ?_, fun d ad th ro lo ma ap o hd => m_certifiedBy_none hl (by omega) hσ hj hc⟩
      · first | exact trivial | exact bool01 (metW_le _ _ _ _) | exact bool01 (by split <;> omega) | exact Or.inl rfl
      · exact hσ
      · rw [if_neg (show ¬ (2 : Nat) = 0 by decide)]; exact w_certifiedBy_none hl (by omega) hσ ho hj hc
    ·
      refine ⟨0, _, _, by decide, ?_, ?_, fun d ad tl t lo o f0 hd ho => ?_, fun d ad th ro lo ma ap o hd => m_certifiedBy hl (by omega) hσ hj hc⟩
      · first | exact trivial | exact bool01 (metW_le _ _ _ _) | exact bool01 (by split <;> omega) | exact Or.inl rfl
      · exact hσ
      · rw [if_pos rfl]; exact w_certifiedBy hl (by omega) hσ ho hj hc
  ·
    refine ⟨1, _, _, by decide, ?_, ?_, fun d ad tl t lo o f0 hd ho => ?_, fun d ad th ro lo ma ap o hd => m_certifiedBy_no hl (by omega) hσ hx⟩
    · first | exact trivial | exact bool01 (metW_le _ _ _ _) | exact bool01 (by split <;> omega) | exact Or.inl rfl
    · exact hσ
    · rw [if_neg (show ¬ (1 : Nat) = 0 by decide)]; exact w_certifiedBy_no hl (by omega) hσ ho hx
theorem b_passDays {l : Launch} {D : va_G} {ba : Nat} {σ : CS} (hl : l.stackTraces = false) (hσ : cOK σ) (x : Int32) : Bo l D ba yL_passDays (wsH yL_passDays cL_passDays 4 (some .int) [(0, 9, 12, 13)]) yX7_passDays (wsO yX7_passDays cX7_passDays 3 (some .int)) [.int x] anyY σ := by
  rcases inR_or (a := 1) (b := 100) (by decide) (by decide) x with h | ⟨v, hv, rfl, hin⟩
  ·
    refine ⟨1, _, _, by decide, ?_, ?_, fun d ad tl t lo o f0 hd ho => ?_, fun d ad th ro lo ma ap o hd => m_pass_bad hl (by omega) hσ h⟩
    · first | exact trivial | exact bool01 (metW_le _ _ _ _) | exact bool01 (by split <;> omega) | exact Or.inl rfl
    · exact hσ
    · rw [if_neg (show ¬ (1 : Nat) = 0 by decide)]; exact w_passDays_bad hl (by omega) hσ ho h
  ·
    refine ⟨0, _, _, by decide, ?_, ?_, fun d ad tl t lo o f0 hd ho => ?_, fun d ad th ro lo ma ap o hd => m_pass hl (by omega) hσ hv hin⟩
    · first | exact trivial | exact bool01 (metW_le _ _ _ _) | exact bool01 (by split <;> omega) | exact Or.inl rfl
    · exact older_ok hσ
    · rw [if_pos rfl]; exact w_passDays hl (by omega) hσ ho hv hin
theorem b_surfacesOf {l : Launch} {D : va_G} {ba : Nat} {σ : CS} (hl : l.stackTraces = false) (hσ : cOK σ) (x : Int32) : Bo l D ba yL_surfacesOf (wsH yL_surfacesOf cL_surfacesOf 4 (some .int) [(0, 9, 12, 21)]) yX7_surfacesOf (wsO yX7_surfacesOf cX7_surfacesOf 2 (some .int)) [.int x] anyY σ := by
  rcases nat_or (n := cN σ) x with ⟨j, hj, rfl⟩ | hx
  ·
    refine ⟨0, _, _, by decide, ?_, ?_, fun d ad tl t lo o f0 hd ho => ?_, fun d ad th ro lo ma ap o hd => m_surfacesOf hl (by omega) hσ hj⟩
    · first | exact trivial | exact bool01 (metW_le _ _ _ _) | exact bool01 (by split <;> omega) | exact Or.inl rfl
    · exact hσ
    · rw [if_pos rfl]; exact w_surfacesOf hl (by omega) hσ ho hj
  ·
    refine ⟨1, _, _, by decide, ?_, ?_, fun d ad tl t lo o f0 hd ho => ?_, fun d ad th ro lo ma ap o hd => m_surfacesOf_no hl (by omega) hσ hx⟩
    · first | exact trivial | exact bool01 (metW_le _ _ _ _) | exact bool01 (by split <;> omega) | exact Or.inl rfl
    · exact hσ
    · rw [if_neg (show ¬ (1 : Nat) = 0 by decide)]; exact w_surfacesOf_no hl (by omega) hσ ho hx
theorem b_dampingOf {l : Launch} {D : va_G} {ba : Nat} {σ : CS} (hl : l.stackTraces = false) (hσ : cOK σ) (x : Int32) : Bo l D ba yL_dampingOf (wsH yL_dampingOf cL_dampingOf 4 (some .int) [(0, 9, 12, 21)]) yX7_dampingOf (wsO yX7_dampingOf cX7_dampingOf 2 (some .int)) [.int x] anyY σ := by
  rcases nat_or (n := cN σ) x with ⟨j, hj, rfl⟩ | hx
  ·
    refine ⟨0, _, _, by decide, ?_, ?_, fun d ad tl t lo o f0 hd ho => ?_, fun d ad th ro lo ma ap o hd => m_dampingOf hl (by omega) hσ hj⟩
    · first | exact trivial | exact bool01 (metW_le _ _ _ _) | exact bool01 (by split <;> omega) | exact Or.inl rfl
    · exact hσ
    · rw [if_pos rfl]; exact w_dampingOf hl (by omega) hσ ho hj
  ·
    refine ⟨1, _, _, by decide, ?_, ?_, fun d ad tl t lo o f0 hd ho => ?_, fun d ad th ro lo ma ap o hd => m_dampingOf_no hl (by omega) hσ hx⟩
    · first | exact trivial | exact bool01 (metW_le _ _ _ _) | exact bool01 (by split <;> omega) | exact Or.inl rfl
    · exact hσ
    · rw [if_neg (show ¬ (1 : Nat) = 0 by decide)]; exact w_dampingOf_no hl (by omega) hσ ho hx
theorem b_dustOf {l : Launch} {D : va_G} {ba : Nat} {σ : CS} (hl : l.stackTraces = false) (hσ : cOK σ) (x : Int32) : Bo l D ba yL_dustOf (wsH yL_dustOf cL_dustOf 4 (some .int) [(0, 9, 12, 21)]) yX7_dustOf (wsO yX7_dustOf cX7_dustOf 2 (some .int)) [.int x] anyY σ := by
  rcases nat_or (n := cN σ) x with ⟨j, hj, rfl⟩ | hx
  ·
    refine ⟨0, _, _, by decide, ?_, ?_, fun d ad tl t lo o f0 hd ho => ?_, fun d ad th ro lo ma ap o hd => m_dustOf hl (by omega) hσ hj⟩
    · first | exact trivial | exact bool01 (metW_le _ _ _ _) | exact bool01 (by split <;> omega) | exact Or.inl rfl
    · exact hσ
    · rw [if_pos rfl]; exact w_dustOf hl (by omega) hσ ho hj
  ·
    refine ⟨1, _, _, by decide, ?_, ?_, fun d ad tl t lo o f0 hd ho => ?_, fun d ad th ro lo ma ap o hd => m_dustOf_no hl (by omega) hσ hx⟩
    · first | exact trivial | exact bool01 (metW_le _ _ _ _) | exact bool01 (by split <;> omega) | exact Or.inl rfl
    · exact hσ
    · rw [if_neg (show ¬ (1 : Nat) = 0 by decide)]; exact w_dustOf_no hl (by omega) hσ ho hx
theorem b_daysLeft {l : Launch} {D : va_G} {ba : Nat} {σ : CS} (hl : l.stackTraces = false) (hσ : cOK σ) (x : Int32) : Bo l D ba yL_daysLeft (wsH yL_daysLeft cL_daysLeft 4 (some .int) [(0, 9, 12, 21)]) yX7_daysLeft (wsO yX7_daysLeft cX7_daysLeft 2 (some .int)) [.int x] anyY σ := by
  rcases nat_or (n := cN σ) x with ⟨j, hj, rfl⟩ | hx
  ·
    refine ⟨0, _, _, by decide, ?_, ?_, fun d ad tl t lo o f0 hd ho => ?_, fun d ad th ro lo ma ap o hd => m_daysLeft hl (by omega) hσ hj⟩
    · first | exact trivial | exact bool01 (metW_le _ _ _ _) | exact bool01 (by split <;> omega) | exact Or.inl rfl
    · exact hσ
    · rw [if_pos rfl]; exact w_daysLeft hl (by omega) hσ ho hj
  ·
    refine ⟨1, _, _, by decide, ?_, ?_, fun d ad tl t lo o f0 hd ho => ?_, fun d ad th ro lo ma ap o hd => m_daysLeft_no hl (by omega) hσ hx⟩
    · first | exact trivial | exact bool01 (metW_le _ _ _ _) | exact bool01 (by split <;> omega) | exact Or.inl rfl
    · exact hσ
    · rw [if_neg (show ¬ (1 : Nat) = 0 by decide)]; exact w_daysLeft_no hl (by omega) hσ ho hx
theorem b_isCertified {l : Launch} {D : va_G} {ba : Nat} {σ : CS} (hl : l.stackTraces = false) (hσ : cOK σ) (x : Int32) : Bo l D ba yL_isCertified (wsH yL_isCertified cL_isCertified 4 (some .int) [(0, 16, 19, 21)]) yX7_isCertified (wsO yX7_isCertified cX7_isCertified 2 (some .boolean)) [.int x] y01 σ := by
  rcases nat_or (n := cN σ) x with ⟨j, hj, rfl⟩ | hx
  ·
    refine ⟨0, _, _, by decide, ?_, ?_, fun d ad tl t lo o f0 hd ho => ?_, fun d ad th ro lo ma ap o hd => m_isCertified hl (by omega) hσ hj⟩
    · first | exact trivial | exact bool01 (metW_le _ _ _ _) | exact bool01 (by split <;> omega) | exact Or.inl rfl
    · exact hσ
    · rw [if_pos rfl]; exact w_isCertified hl (by omega) hσ ho hj
  ·
    refine ⟨1, _, _, by decide, ?_, ?_, fun d ad tl t lo o f0 hd ho => ?_, fun d ad th ro lo ma ap o hd => m_isCertified_no hl (by omega) hσ hx⟩
    · first | exact trivial | exact bool01 (metW_le _ _ _ _) | exact bool01 (by split <;> omega) | exact Or.inl rfl
    · exact hσ
    · rw [if_neg (show ¬ (1 : Nat) = 0 by decide)]; exact w_isCertified_no hl (by omega) hσ ho hx
theorem b_distanceOf {l : Launch} {D : va_G} {ba : Nat} {σ : CS} (hl : l.stackTraces = false) (hσ : cOK σ) (x y : Int32) : Bo l D ba yL_distanceOf (wsH yL_distanceOf cL_distanceOf 5 (some .int) [(0, 10, 13, 21)]) yX7_distanceOf (wsO yX7_distanceOf cX7_distanceOf 3 (some .int)) [.int x, .int y] anyY σ := by
  rcases nat_or (n := cN σ) x with ⟨j, hj, rfl⟩ | hx
  ·
    rcases nat_or (n := hSc (cH σ j)) y with ⟨k, hk, rfl⟩ | hx2
    ·
      refine ⟨0, _, _, by decide, ?_, ?_, fun d ad tl t lo o f0 hd ho => ?_, fun d ad th ro lo ma ap o hd => m_distanceOf hl (by omega) hσ hj hk⟩
      · first | exact trivial | exact bool01 (metW_le _ _ _ _) | exact bool01 (by split <;> omega) | exact Or.inl rfl
      · exact hσ
      · rw [if_pos rfl]; exact w_distanceOf hl (by omega) hσ ho hj hk
    ·
      refine ⟨1, _, _, by decide, ?_, ?_, fun d ad tl t lo o f0 hd ho => ?_, fun d ad th ro lo ma ap o hd => m_distanceOf_no2 hl (by omega) hσ hj hx2⟩
      · first | exact trivial | exact bool01 (metW_le _ _ _ _) | exact bool01 (by split <;> omega) | exact Or.inl rfl
      · exact hσ
      · rw [if_neg (show ¬ (1 : Nat) = 0 by decide)]; exact w_distanceOf_no2 hl (by omega) hσ ho hj hx2
  ·
    refine ⟨1, _, _, by decide, ?_, ?_, fun d ad tl t lo o f0 hd ho => ?_, fun d ad th ro lo ma ap o hd => m_distanceOf_no hl (by omega) hσ hx y⟩
    · first | exact trivial | exact bool01 (metW_le _ _ _ _) | exact bool01 (by split <;> omega) | exact Or.inl rfl
    · exact hσ
    · rw [if_neg (show ¬ (1 : Nat) = 0 by decide)]; exact w_distanceOf_no hl (by omega) hσ ho hx y
theorem b_hardnessOf {l : Launch} {D : va_G} {ba : Nat} {σ : CS} (hl : l.stackTraces = false) (hσ : cOK σ) (x y : Int32) : Bo l D ba yL_hardnessOf (wsH yL_hardnessOf cL_hardnessOf 5 (some .int) [(0, 10, 13, 21)]) yX7_hardnessOf (wsO yX7_hardnessOf cX7_hardnessOf 3 (some .int)) [.int x, .int y] anyY σ := by
  rcases nat_or (n := cN σ) x with ⟨j, hj, rfl⟩ | hx
  ·
    rcases nat_or (n := hSc (cH σ j)) y with ⟨k, hk, rfl⟩ | hx2
    ·
      refine ⟨0, _, _, by decide, ?_, ?_, fun d ad tl t lo o f0 hd ho => ?_, fun d ad th ro lo ma ap o hd => m_hardnessOf hl (by omega) hσ hj hk⟩
      · first | exact trivial | exact bool01 (metW_le _ _ _ _) | exact bool01 (by split <;> omega) | exact Or.inl rfl
      · exact hσ
      · rw [if_pos rfl]; exact w_hardnessOf hl (by omega) hσ ho hj hk
    ·
      refine ⟨1, _, _, by decide, ?_, ?_, fun d ad tl t lo o f0 hd ho => ?_, fun d ad th ro lo ma ap o hd => m_hardnessOf_no2 hl (by omega) hσ hj hx2⟩
      · first | exact trivial | exact bool01 (metW_le _ _ _ _) | exact bool01 (by split <;> omega) | exact Or.inl rfl
      · exact hσ
      · rw [if_neg (show ¬ (1 : Nat) = 0 by decide)]; exact w_hardnessOf_no2 hl (by omega) hσ ho hj hx2
  ·
    refine ⟨1, _, _, by decide, ?_, ?_, fun d ad tl t lo o f0 hd ho => ?_, fun d ad th ro lo ma ap o hd => m_hardnessOf_no hl (by omega) hσ hx y⟩
    · first | exact trivial | exact bool01 (metW_le _ _ _ _) | exact bool01 (by split <;> omega) | exact Or.inl rfl
    · exact hσ
    · rw [if_neg (show ¬ (1 : Nat) = 0 by decide)]; exact w_hardnessOf_no hl (by omega) hσ ho hx y
theorem b_echoes {l : Launch} {D : va_G} {ba : Nat} {σ : CS} (hl : l.stackTraces = false) (hσ : cOK σ) (x y : Int32) : Bo l D ba yL_echoes (wsH yL_echoes cL_echoes 5 (some .int) [(0, 10, 13, 21), (0, 10, 17, 13)]) yX7_echoes (wsO yX7_echoes cX7_echoes 3 (some .int)) [.int x, .int y] anyY σ := by
  rcases nat_or (n := cN σ) x with ⟨j, hj, rfl⟩ | hx
  ·
    rcases inR_or (a := 1) (b := 1000) (by decide) (by decide) y with h | ⟨v, hv, rfl, hin⟩
    ·
      refine ⟨2, _, _, by decide, ?_, ?_, fun d ad tl t lo o f0 hd ho => ?_, fun d ad th ro lo ma ap o hd => m_echoes_bad hl (by omega) hσ hj h⟩
      · first | exact trivial | exact bool01 (metW_le _ _ _ _) | exact bool01 (by split <;> omega) | exact Or.inl rfl
      · exact hσ
      · rw [if_neg (show ¬ (2 : Nat) = 0 by decide)]; exact w_echoes_bad hl (by omega) hσ ho hj h
    ·
      refine ⟨0, _, _, by decide, ?_, ?_, fun d ad tl t lo o f0 hd ho => ?_, fun d ad th ro lo ma ap o hd => m_echoes hl (by omega) hσ hj hv hin⟩
      · first | exact trivial | exact bool01 (metW_le _ _ _ _) | exact bool01 (by split <;> omega) | exact Or.inl rfl
      · exact hσ
      · rw [if_pos rfl]; exact w_echoes hl (by omega) hσ ho hj hv hin
  ·
    refine ⟨1, _, _, by decide, ?_, ?_, fun d ad tl t lo o f0 hd ho => ?_, fun d ad th ro lo ma ap o hd => m_echoes_no hl (by omega) hσ hx y⟩
    · first | exact trivial | exact bool01 (metW_le _ _ _ _) | exact bool01 (by split <;> omega) | exact Or.inl rfl
    · exact hσ
    · rw [if_neg (show ¬ (1 : Nat) = 0 by decide)]; exact w_echoes_no hl (by omega) hσ ho hx y
theorem b_firstEcho {l : Launch} {D : va_G} {ba : Nat} {σ : CS} (hl : l.stackTraces = false) (hσ : cOK σ) (x y : Int32) : Bo l D ba yL_firstEcho (wsH yL_firstEcho cL_firstEcho 5 (some .int) [(0, 10, 13, 21), (0, 10, 17, 13)]) yX7_firstEcho (wsO yX7_firstEcho cX7_firstEcho 3 (some .int)) [.int x, .int y] anyY σ := by
  rcases nat_or (n := cN σ) x with ⟨j, hj, rfl⟩ | hx
  ·
    rcases inR_or (a := 1) (b := 1000) (by decide) (by decide) y with h | ⟨v, hv, rfl, hin⟩
    ·
      refine ⟨2, _, _, by decide, ?_, ?_, fun d ad tl t lo o f0 hd ho => ?_, fun d ad th ro lo ma ap o hd => m_firstEcho_bad hl (by omega) hσ hj h⟩
      · first | exact trivial | exact bool01 (metW_le _ _ _ _) | exact bool01 (by split <;> omega) | exact Or.inl rfl
      · exact hσ
      · rw [if_neg (show ¬ (2 : Nat) = 0 by decide)]; exact w_firstEcho_bad hl (by omega) hσ ho hj h
    ·
      refine ⟨0, _, _, by decide, ?_, ?_, fun d ad tl t lo o f0 hd ho => ?_, fun d ad th ro lo ma ap o hd => m_firstEcho hl (by omega) hσ hj hv hin⟩
      · first | exact trivial | exact bool01 (metW_le _ _ _ _) | exact bool01 (by split <;> omega) | exact Or.inl rfl
      · exact hσ
      · rw [if_pos rfl]; exact w_firstEcho hl (by omega) hσ ho hj hv hin
  ·
    refine ⟨1, _, _, by decide, ?_, ?_, fun d ad tl t lo o f0 hd ho => ?_, fun d ad th ro lo ma ap o hd => m_firstEcho_no hl (by omega) hσ hx y⟩
    · first | exact trivial | exact bool01 (metW_le _ _ _ _) | exact bool01 (by split <;> omega) | exact Or.inl rfl
    · exact hσ
    · rw [if_neg (show ¬ (1 : Nat) = 0 by decide)]; exact w_firstEcho_no hl (by omega) hσ ho hx y
theorem b_lastEcho {l : Launch} {D : va_G} {ba : Nat} {σ : CS} (hl : l.stackTraces = false) (hσ : cOK σ) (x y : Int32) : Bo l D ba yL_lastEcho (wsH yL_lastEcho cL_lastEcho 5 (some .int) [(0, 10, 13, 21), (0, 10, 17, 13)]) yX7_lastEcho (wsO yX7_lastEcho cX7_lastEcho 3 (some .int)) [.int x, .int y] anyY σ := by
  rcases nat_or (n := cN σ) x with ⟨j, hj, rfl⟩ | hx
  ·
    rcases inR_or (a := 1) (b := 1000) (by decide) (by decide) y with h | ⟨v, hv, rfl, hin⟩
    ·
      refine ⟨2, _, _, by decide, ?_, ?_, fun d ad tl t lo o f0 hd ho => ?_, fun d ad th ro lo ma ap o hd => m_lastEcho_bad hl (by omega) hσ hj h⟩
      · first | exact trivial | exact bool01 (metW_le _ _ _ _) | exact bool01 (by split <;> omega) | exact Or.inl rfl
      · exact hσ
      · rw [if_neg (show ¬ (2 : Nat) = 0 by decide)]; exact w_lastEcho_bad hl (by omega) hσ ho hj h
    ·
      refine ⟨0, _, _, by decide, ?_, ?_, fun d ad tl t lo o f0 hd ho => ?_, fun d ad th ro lo ma ap o hd => m_lastEcho hl (by omega) hσ hj hv hin⟩
      · first | exact trivial | exact bool01 (metW_le _ _ _ _) | exact bool01 (by split <;> omega) | exact Or.inl rfl
      · exact hσ
      · rw [if_pos rfl]; exact w_lastEcho hl (by omega) hσ ho hj hv hin
  ·
    refine ⟨1, _, _, by decide, ?_, ?_, fun d ad tl t lo o f0 hd ho => ?_, fun d ad th ro lo ma ap o hd => m_lastEcho_no hl (by omega) hσ hx y⟩
    · first | exact trivial | exact bool01 (metW_le _ _ _ _) | exact bool01 (by split <;> omega) | exact Or.inl rfl
    · exact hσ
    · rw [if_neg (show ¬ (1 : Nat) = 0 by decide)]; exact w_lastEcho_no hl (by omega) hσ ho hx y
theorem b_loudestMoment {l : Launch} {D : va_G} {ba : Nat} {σ : CS} (hl : l.stackTraces = false) (hσ : cOK σ) (x y : Int32) : Bo l D ba yL_loudestMoment (wsH yL_loudestMoment cL_loudestMoment 5 (some .int) [(0, 10, 13, 21), (0, 10, 17, 13)]) yX7_loudestMoment (wsO yX7_loudestMoment cX7_loudestMoment 3 (some .int)) [.int x, .int y] anyY σ := by
  rcases nat_or (n := cN σ) x with ⟨j, hj, rfl⟩ | hx
  ·
    rcases inR_or (a := 1) (b := 1000) (by decide) (by decide) y with h | ⟨v, hv, rfl, hin⟩
    ·
      refine ⟨2, _, _, by decide, ?_, ?_, fun d ad tl t lo o f0 hd ho => ?_, fun d ad th ro lo ma ap o hd => m_loudestMoment_bad hl (by omega) hσ hj h⟩
      · first | exact trivial | exact bool01 (metW_le _ _ _ _) | exact bool01 (by split <;> omega) | exact Or.inl rfl
      · exact hσ
      · rw [if_neg (show ¬ (2 : Nat) = 0 by decide)]; exact w_loudestMoment_bad hl (by omega) hσ ho hj h
    ·
      refine ⟨0, _, _, by decide, ?_, ?_, fun d ad tl t lo o f0 hd ho => ?_, fun d ad th ro lo ma ap o hd => m_loudestMoment hl (by omega) hσ hj hv hin⟩
      · first | exact trivial | exact bool01 (metW_le _ _ _ _) | exact bool01 (by split <;> omega) | exact Or.inl rfl
      · exact hσ
      · rw [if_pos rfl]; exact w_loudestMoment hl (by omega) hσ ho hj hv hin
  ·
    refine ⟨1, _, _, by decide, ?_, ?_, fun d ad tl t lo o f0 hd ho => ?_, fun d ad th ro lo ma ap o hd => m_loudestMoment_no hl (by omega) hσ hx y⟩
    · first | exact trivial | exact bool01 (metW_le _ _ _ _) | exact bool01 (by split <;> omega) | exact Or.inl rfl
    · exact hσ
    · rw [if_neg (show ¬ (1 : Nat) = 0 by decide)]; exact w_loudestMoment_no hl (by omega) hσ ho hx y
theorem b_loudEchoes {l : Launch} {D : va_G} {ba : Nat} {σ : CS} (hl : l.stackTraces = false) (hσ : cOK σ) (x y z : Int32) : Bo l D ba yL_loudEchoes (wsH yL_loudEchoes cL_loudEchoes 6 (some .int) [(0, 12, 15, 21), (0, 12, 19, 13)]) yX7_loudEchoes (wsO yX7_loudEchoes cX7_loudEchoes 4 (some .int)) [.int x, .int y, .int z] anyY σ := by
  rcases nat_or (n := cN σ) x with ⟨j, hj, rfl⟩ | hx
  ·
    rcases inR_or (a := 1) (b := 1000) (by decide) (by decide) y with h | ⟨v, hv, rfl, hin⟩
    ·
      refine ⟨2, _, _, by decide, ?_, ?_, fun d ad tl t lo o f0 hd ho => ?_, fun d ad th ro lo ma ap o hd => m_loudEchoes_bad hl (by omega) hσ hj h z⟩
      · first | exact trivial | exact bool01 (metW_le _ _ _ _) | exact bool01 (by split <;> omega) | exact Or.inl rfl
      · exact hσ
      · rw [if_neg (show ¬ (2 : Nat) = 0 by decide)]; exact w_loudEchoes_bad hl (by omega) hσ ho hj h z
    ·
      by_cases h2 : inR z (nI 1) (nI 1000) = 0
      ·
        refine ⟨2, _, _, by decide, ?_, ?_, fun d ad tl t lo o f0 hd ho => ?_, fun d ad th ro lo ma ap o hd => m_loudEchoes_bad2 hl (by omega) hσ hj hv hin h2⟩
        · first | exact trivial | exact bool01 (metW_le _ _ _ _) | exact bool01 (by split <;> omega) | exact Or.inl rfl
        · exact hσ
        · rw [if_neg (show ¬ (2 : Nat) = 0 by decide)]; exact w_loudEchoes_bad2 hl (by omega) hσ ho hj hv hin h2
      ·
        refine ⟨0, _, _, by decide, ?_, ?_, fun d ad tl t lo o f0 hd ho => ?_, fun d ad th ro lo ma ap o hd => m_loudEchoes hl (by omega) hσ hj hv hin h2⟩
        · first | exact trivial | exact bool01 (metW_le _ _ _ _) | exact bool01 (by split <;> omega) | exact Or.inl rfl
        · exact hσ
        · rw [if_pos rfl]; exact w_loudEchoes hl (by omega) hσ ho hj hv hin h2
  ·
    refine ⟨1, _, _, by decide, ?_, ?_, fun d ad tl t lo o f0 hd ho => ?_, fun d ad th ro lo ma ap o hd => m_loudEchoes_no hl (by omega) hσ hx y z⟩
    · first | exact trivial | exact bool01 (metW_le _ _ _ _) | exact bool01 (by split <;> omega) | exact Or.inl rfl
    · exact hσ
    · rw [if_neg (show ¬ (1 : Nat) = 0 by decide)]; exact w_loudEchoes_no hl (by omega) hσ ho hx y z
theorem b_loudnessAt {l : Launch} {D : va_G} {ba : Nat} {σ : CS} (hl : l.stackTraces = false) (hσ : cOK σ) (x y z : Int32) : Bo l D ba yL_loudnessAt (wsH yL_loudnessAt cL_loudnessAt 6 (some .int) [(0, 12, 15, 21), (0, 12, 19, 13)]) yX7_loudnessAt (wsO yX7_loudnessAt cX7_loudnessAt 4 (some .int)) [.int x, .int y, .int z] anyY σ := by
  rcases nat_or (n := cN σ) x with ⟨j, hj, rfl⟩ | hx
  ·
    rcases inR_or (a := 1) (b := 1000) (by decide) (by decide) y with h | ⟨v, hv, rfl, hin⟩
    ·
      refine ⟨2, _, _, by decide, ?_, ?_, fun d ad tl t lo o f0 hd ho => ?_, fun d ad th ro lo ma ap o hd => m_loudnessAt_bad hl (by omega) hσ hj h z⟩
      · first | exact trivial | exact bool01 (metW_le _ _ _ _) | exact bool01 (by split <;> omega) | exact Or.inl rfl
      · exact hσ
      · rw [if_neg (show ¬ (2 : Nat) = 0 by decide)]; exact w_loudnessAt_bad hl (by omega) hσ ho hj h z
    ·
      rcases inR_or (a := 0) (b := 3000) (by decide) (by decide) z with h2 | ⟨m1, hm, rfl, h2⟩
      ·
        refine ⟨2, _, _, by decide, ?_, ?_, fun d ad tl t lo o f0 hd ho => ?_, fun d ad th ro lo ma ap o hd => m_loudnessAt_bad2 hl (by omega) hσ hj hv hin h2⟩
        · first | exact trivial | exact bool01 (metW_le _ _ _ _) | exact bool01 (by split <;> omega) | exact Or.inl rfl
        · exact hσ
        · rw [if_neg (show ¬ (2 : Nat) = 0 by decide)]; exact w_loudnessAt_bad2 hl (by omega) hσ ho hj hv hin h2
      ·
        refine ⟨0, _, _, by decide, ?_, ?_, fun d ad tl t lo o f0 hd ho => ?_, fun d ad th ro lo ma ap o hd => m_loudnessAt hl (by omega) hσ hj hv hin hm h2⟩
        · first | exact trivial | exact bool01 (metW_le _ _ _ _) | exact bool01 (by split <;> omega) | exact Or.inl rfl
        · exact hσ
        · rw [if_pos rfl]; exact w_loudnessAt hl (by omega) hσ ho hj hv hin hm h2
  ·
    refine ⟨1, _, _, by decide, ?_, ?_, fun d ad tl t lo o f0 hd ho => ?_, fun d ad th ro lo ma ap o hd => m_loudnessAt_no hl (by omega) hσ hx y z⟩
    · first | exact trivial | exact bool01 (metW_le _ _ _ _) | exact bool01 (by split <;> omega) | exact Or.inl rfl
    · exact hσ
    · rw [if_neg (show ¬ (1 : Nat) = 0 by decide)]; exact w_loudnessAt_no hl (by omega) hσ ho hx y z
theorem b_hallsMeeting {l : Launch} {D : va_G} {ba : Nat} {σ : CS} (hl : l.stackTraces = false) (hσ : cOK σ) (x : Int32) : Bo l D ba yL_hallsMeeting (wsH yL_hallsMeeting cL_hallsMeeting 4 (some .int) [(0, 9, 12, 21)]) yX7_hallsMeeting (wsO yX7_hallsMeeting cX7_hallsMeeting 4 (some .int)) [.int x] anyY σ := by
  rcases nat_or (n := cK σ) x with ⟨q, hq, rfl⟩ | hx2
  ·
    refine ⟨0, _, _, by decide, ?_, ?_, fun d ad tl t lo o f0 hd ho => ?_, fun d ad th ro lo ma ap o hd => m_hallsMeeting hl (by omega) hσ hq⟩
    · first | exact trivial | exact bool01 (metW_le _ _ _ _) | exact bool01 (by split <;> omega) | exact Or.inl rfl
    · exact hσ
    · rw [if_pos rfl]; exact w_hallsMeeting hl (by omega) hσ ho hq
  ·
    refine ⟨1, _, _, by decide, ?_, ?_, fun d ad tl t lo o f0 hd ho => ?_, fun d ad th ro lo ma ap o hd => m_hallsMeeting_no hl (by omega) hσ hx2⟩
    · first | exact trivial | exact bool01 (metW_le _ _ _ _) | exact bool01 (by split <;> omega) | exact Or.inl rfl
    · exact hσ
    · rw [if_neg (show ¬ (1 : Nat) = 0 by decide)]; exact w_hallsMeeting_no hl (by omega) hσ ho hx2
theorem b_easiestHall {l : Launch} {D : va_G} {ba : Nat} {σ : CS} (hl : l.stackTraces = false) (hσ : cOK σ) (x : Int32) : Bo l D ba yL_easiestHall (wsH yL_easiestHall cL_easiestHall 4 (some .int) [(0, 9, 12, 21)]) yX7_easiestHall (wsO yX7_easiestHall cX7_easiestHall 6 (some .int)) [.int x] anyY σ := by
  rcases nat_or (n := cK σ) x with ⟨q, hq, rfl⟩ | hx2
  ·
    refine ⟨0, _, _, by decide, ?_, ?_, fun d ad tl t lo o f0 hd ho => ?_, fun d ad th ro lo ma ap o hd => m_easiest hl (by omega) hσ hq⟩
    · first | exact trivial | exact bool01 (metW_le _ _ _ _) | exact bool01 (by split <;> omega) | exact Or.inl rfl
    · exact hσ
    · rw [if_pos rfl]; exact w_easiestHall hl (by omega) hσ ho hq
  ·
    refine ⟨1, _, _, by decide, ?_, ?_, fun d ad tl t lo o f0 hd ho => ?_, fun d ad th ro lo ma ap o hd => m_easiest_no hl (by omega) hσ hx2⟩
    · first | exact trivial | exact bool01 (metW_le _ _ _ _) | exact bool01 (by split <;> omega) | exact Or.inl rfl
    · exact hσ
    · rw [if_neg (show ¬ (1 : Nat) = 0 by decide)]; exact w_easiestHall_no hl (by omega) hσ ho hx2
