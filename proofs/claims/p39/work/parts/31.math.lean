/-! ===== what the law's checks rest on: a tally is told by the list of its echoes ===== -/
/-- how many of a list are as loud as x -/
def cnt (x : Int32) : List (Nat × Nat) → Nat
  | [] => 0
  | q :: E => (if nI q.2 < x then 0 else 1) + cnt x E
def oI : Option Nat → Int32
  | none => -1
  | some a => nI a
def omin : Option Nat → Option Nat → Option Nat
  | none, b => b
  | some a, none => some a
  | some a, some b => some (min a b)
def omax : Option Nat → Option Nat → Option Nat
  | none, b => b
  | some a, none => some a
  | some a, some b => some (max a b)
theorem omin_n {a : Option Nat} : omin a none = a := by cases a <;> rfl
theorem omax_n {a : Option Nat} : omax a none = a := by cases a <;> rfl
theorem omin_a {a b c : Option Nat} : omin (omin a b) c = omin a (omin b c) := by
  cases a <;> cases b <;> cases c <;> first | rfl | (show some _ = some _; rw [Nat.min_assoc])
theorem omax_a {a b c : Option Nat} : omax (omax a b) c = omax a (omax b c) := by
  cases a <;> cases b <;> cases c <;> first | rfl | (show some _ = some _; rw [Nat.max_assoc])
/-- the first, the last moment of a list -/
def mn : List (Nat × Nat) → Option Nat
  | [] => none
  | q :: E => omin (some q.1) (mn E)
def mx : List (Nat × Nat) → Option Nat
  | [] => none
  | q :: E => omax (some q.1) (mx E)
def oB (a : Option Nat) : Prop := ∀ b, a = some b → b < 2 ^ 31
theorem nI_nm1 {a : Nat} (h : a < 2 ^ 31) : nI a ≠ -1 := fun z => nI_pos h (by rw [z]; decide)
theorem tFi_o {c : Option Nat} {a : Nat} (ha : a < 2 ^ 31) (hc : oB c) : tFi (nI a) (oI c) = oI (omin c (some a)) := by
  cases c with
  | none => show tFi (nI a) (-1) = nI a; unfold tFi; rw [if_pos rfl]
  | some b =>
    have hb := hc b rfl
    show tFi (nI a) (nI b) = nI (min b a)
    unfold tFi
    rw [if_neg (nI_nm1 hb)]
    by_cases h : b ≤ a
    · rw [if_pos ((nI_leI hb ha).mpr h), Nat.min_eq_left h]
    · rw [if_neg (fun z => h ((nI_leI hb ha).mp z)), Nat.min_eq_right (by omega)]
theorem tLa_o {c : Option Nat} {a : Nat} (ha : a < 2 ^ 31) (hc : oB c) : tLa (nI a) (oI c) = oI (omax c (some a)) := by
  cases c with
  | none =>
    show tLa (nI a) (-1) = nI a
    unfold tLa
    rw [if_neg (fun z => absurd (Int32.le_trans (nI_pos' ha) z) (by decide))]
  | some b =>
    have hb := hc b rfl
    show tLa (nI a) (nI b) = nI (max b a)
    unfold tLa
    by_cases h : a ≤ b
    · rw [if_pos ((nI_leI ha hb).mpr h), Nat.max_eq_left h]
    · rw [if_neg (fun z => h ((nI_leI ha hb).mp z)), Nat.max_eq_right (by omega)]
theorem oB_min {c : Option Nat} {a : Nat} (ha : a < 2 ^ 31) (hc : oB c) : oB (omin c (some a)) := by
  intro b hb
  cases c with
  | none => cases hb; exact ha
  | some d => cases hb; have := hc d rfl; omega
theorem oB_max {c : Option Nat} {a : Nat} (ha : a < 2 ^ 31) (hc : oB c) : oB (omax c (some a)) := by
  intro b hb
  cases c with
  | none => cases hb; exact ha
  | some d => cases hb; have := hc d rfl; omega
theorem fold_gen {x : Int32} : ∀ (E : List (Nat × Nat)) (a b : Nat) (c d : Option Nat), (∀ q ∈ E, q.1 < 2 ^ 31) → oB c → oB d → List.foldl (hearT x) (nI a, nI b, oI c, oI d) E = (nI (a + E.length), nI (b + cnt x E), oI (omin c (mn E)), oI (omax d (mx E))) := by
  intro E
  induction E with
  | nil =>
    intro a b c d _ _ _
    show (nI a, nI b, oI c, oI d) = (nI (a + 0), nI (b + 0), oI (omin c none), oI (omax d none))
    rw [omin_n, omax_n]; rfl
  | cons q E ih =>
    intro a b c d hE hc hd
    have hq := hE q List.mem_cons_self
    have e : hearT x (nI a, nI b, oI c, oI d) q = (nI (a + 1), nI (b + (if nI q.2 < x then 0 else 1)), oI (omin c (some q.1)), oI (omax d (some q.1))) := by
      show (nI a + nI 1, tLo (nI q.2) x (nI b), tFi (nI q.1) (oI c), tLa (nI q.1) (oI d)) = _
      rw [nI_add, tFi_o hq hc, tLa_o hq hd]
      unfold tLo
      by_cases h : nI q.2 < x
      · rw [if_pos h, if_pos h]; rfl
      · rw [if_neg h, if_neg h, nI_add]
    rw [List.foldl_cons, e, ih _ _ _ _ (fun z hz => hE z (List.mem_cons_of_mem _ hz)) (oB_min hq hc) (oB_max hq hd), omin_a, omax_a, List.length_cons]
    show (nI (a + 1 + E.length), nI (b + _ + cnt x E), oI (omin c (mn (q :: E))), oI (omax d (mx (q :: E)))) = (nI (a + (E.length + 1)), nI (b + cnt x (q :: E)), oI (omin c (mn (q :: E))), oI (omax d (mx (q :: E))))
    rw [show a + 1 + E.length = a + (E.length + 1) by omega, Nat.add_assoc]
    rfl
/-- a tally of a list of echoes -/
def tal (x : Int32) (E : List (Nat × Nat)) : TT := List.foldl (hearT x) t00 E
theorem tal_is {x : Int32} {E : List (Nat × Nat)} (hE : ∀ q ∈ E, q.1 ≤ 3000) : tal x E = (nI E.length, nI (cnt x E), oI (mn E), oI (mx E)) := by
  have h := fold_gen (x := x) E 0 0 none none (fun q hq => Nat.lt_of_le_of_lt (hE q hq) (by decide)) (fun _ z => by cases z) (fun _ z => by cases z)
  rw [Nat.zero_add, Nat.zero_add] at h
  exact h
theorem cnt_app {x : Int32} : ∀ (A B : List (Nat × Nat)), cnt x (A ++ B) = cnt x A + cnt x B
  | [], B => (Nat.zero_add _).symm
  | q :: A, B => by
    show _ + cnt x (A ++ B) = _ + cnt x A + cnt x B
    rw [cnt_app A B, Nat.add_assoc]
theorem mn_app : ∀ (A B : List (Nat × Nat)), mn (A ++ B) = omin (mn A) (mn B)
  | [], B => rfl
  | q :: A, B => by
    show omin _ (mn (A ++ B)) = omin (omin _ (mn A)) (mn B)
    rw [mn_app A B, omin_a]
theorem mx_app : ∀ (A B : List (Nat × Nat)), mx (A ++ B) = omax (mx A) (mx B)
  | [], B => rfl
  | q :: A, B => by
    show omax _ (mx (A ++ B)) = omax (omax _ (mx A)) (mx B)
    rw [mx_app A B, omax_a]
/-- the echoes of the first m surfaces, one surface behind another -/
def AE (su : Nat → Nat × Nat) (dm du cl : Nat) : Nat → List (Nat × Nat)
  | 0 => []
  | m + 1 => AE su dm du cl m ++ rowE ((su m).1 - du / 5) dm (su m).2 500 1 cl
theorem AE_s {su : Nat → Nat × Nat} {dm du cl m : Nat} : AE su dm du cl (m + 1) = AE su dm du cl m ++ rowE ((su m).1 - du / 5) dm (su m).2 500 1 cl := rfl
theorem AE_mo {su : Nat → Nat × Nat} {dm du cl : Nat} : ∀ m, ∀ q ∈ AE su dm du cl m, q.1 ≤ 3000 := by
  intro m
  induction m with
  | zero => intro q hq; cases hq
  | succ m ih =>
    intro q hq
    rw [AE_s] at hq
    rcases List.mem_append.mp hq with h | h
    · exact ih q h
    · exact rowE_mo _ _ _ q h
theorem upF_AE {x : Int32} {su : Nat → Nat × Nat} {dm du cl : Nat} : ∀ m, upF (rowsT x dm du cl su) m t00 = tal x (AE su dm du cl m) := by
  intro m
  induction m with
  | zero => rfl
  | succ m ih =>
    rw [upF_succ, rowsT_q, ih, AE_s]
    generalize rowE ((su m).1 - du / 5) dm (su m).2 500 1 cl = B
    generalize AE su dm du cl m = A
    unfold tal
    rw [List.foldl_append]
/-! one surface in a hall of its own -/
def oneH (h : HallS) (k : Nat) : HallS := (1, hDm h, 0, -1, 0, fup (fun _ => (0, 0)) 0 ((hSu h k).1 - hDu h / 5, (hSu h k).2))
abbrev EK (h : HallS) (cl k : Nat) : List (Nat × Nat) := rowE ((hSu h k).1 - hDu h / 5) (hDm h) (hSu h k).2 500 1 cl
abbrev AK (h : HallS) (cl k : Nat) : List (Nat × Nat) := AE (hSu h) (hDm h) (hDu h) cl k
theorem one_AE {h : HallS} {cl k : Nat} : AE (hSu (oneH h k)) (hDm (oneH h k)) (hDu (oneH h k)) cl (hSc (oneH h k)) = EK h cl k := by
  show AE (fup (fun _ => (0, 0)) 0 ((hSu h k).1 - hDu h / 5, (hSu h k).2)) (hDm h) 0 cl 1 = _
  rw [AE_s, fup_s]
  show [] ++ rowE ((hSu h k).1 - hDu h / 5 - 0 / 5) (hDm h) (hSu h k).2 500 1 cl = _
  rw [Nat.zero_div, Nat.sub_zero, List.nil_append]
theorem one_T {h : HallS} {x : Int32} {cl k : Nat} : tly (oneH h k) x cl = tal x (EK h cl k) := by
  unfold tly
  rw [upF_AE, one_AE]
theorem tly_T {h : HallS} {x : Int32} {cl : Nat} : tly h x cl = tal x (AK h cl (hSc h)) := by
  unfold tly
  rw [upF_AE]
theorem EK_mo {h : HallS} {cl k : Nat} : ∀ q ∈ EK h cl k, q.1 ≤ 3000 := fun q hq => rowE_mo _ _ _ q hq
theorem AK_s {h : HallS} {cl k : Nat} : AK h cl (k + 1) = AK h cl k ++ EK h cl k := rfl
/-- the law's sums, a surface more -/
theorem st_co {h : HallS} {x : Int32} {cl k : Nat} : (tal x (AK h cl k)).1 + (tly (oneH h k) x cl).1 = (tal x (AK h cl (k + 1))).1 := by
  rw [one_T, tal_is (AE_mo k), tal_is EK_mo, tal_is (AE_mo (k + 1))]
  show nI (AE (hSu h) (hDm h) (hDu h) cl k).length + nI (EK h cl k).length = nI (AE (hSu h) (hDm h) (hDu h) cl (k + 1)).length
  rw [AE_s, List.length_append, nI_add]
theorem st_lo {h : HallS} {x : Int32} {cl k : Nat} : (tal x (AK h cl k)).2.1 + (tly (oneH h k) x cl).2.1 = (tal x (AK h cl (k + 1))).2.1 := by
  rw [one_T, tal_is (AE_mo k), tal_is EK_mo, tal_is (AE_mo (k + 1))]
  show nI (cnt x (AE (hSu h) (hDm h) (hDu h) cl k)) + nI (cnt x (EK h cl k)) = nI (cnt x (AE (hSu h) (hDm h) (hDu h) cl (k + 1)))
  rw [AE_s, cnt_app, nI_add]
theorem mn_B {E : List (Nat × Nat)} (hE : ∀ q ∈ E, q.1 ≤ 3000) : oB (mn E) := by
  induction E with
  | nil => intro b hb; cases hb
  | cons q E ih =>
    have h1 := ih (fun z hz => hE z (List.mem_cons_of_mem _ hz))
    have h2 := hE q List.mem_cons_self
    intro b hb
    have hb2 : omin (some q.1) (mn E) = some b := hb
    cases hm : mn E with
    | none => rw [hm] at hb2; cases hb2; omega
    | some d => rw [hm] at hb2; cases hb2; omega
theorem mx_B {E : List (Nat × Nat)} (hE : ∀ q ∈ E, q.1 ≤ 3000) : oB (mx E) := by
  induction E with
  | nil => intro b hb; cases hb
  | cons q E ih =>
    have h1 := ih (fun z hz => hE z (List.mem_cons_of_mem _ hz))
    have h2 := hE q List.mem_cons_self
    intro b hb
    have hb2 : omax (some q.1) (mx E) = some b := hb
    cases hm : mx E with
    | none => rw [hm] at hb2; cases hb2; omega
    | some d => rw [hm] at hb2; cases hb2; have := h1 d hm; omega
theorem oI_neg {a : Option Nat} (ha : oB a) : (oI a < 0 ↔ a = none) := by
  cases a with
  | none => exact ⟨fun _ => rfl, fun _ => by decide⟩
  | some b => exact ⟨fun z => absurd z (nI_pos (ha b rfl)), fun z => by cases z⟩
/-- the first of two: there is none here; none ahead; this one is earlier; it isn't -/
theorem st_fi1 {a b : Option Nat} (hb : oB b) (h : oI b < 0) : oI a = oI (omin a b) := by
  rw [(oI_neg hb).mp h, omin_n]
theorem st_fi2 {a b : Option Nat} (ha : oB a) (h : oI a < 0) : oI b = oI (omin a b) := by
  rw [(oI_neg ha).mp h]; rfl
theorem st_fi3 {a b : Option Nat} (ha : oB a) (hb : oB b) (h1 : ¬ oI b < 0) (h2 : ¬ oI a < 0) (h : oI b < oI a) : oI b = oI (omin a b) := by
  cases a with
  | none => rfl
  | some a =>
    cases b with
    | none => exact absurd (by decide) h1
    | some b =>
      have h3 := (nI_ltI (hb b rfl) (ha a rfl)).mp h
      show nI b = nI (min a b)
      rw [Nat.min_eq_right (by omega)]
theorem st_fi4 {a b : Option Nat} (ha : oB a) (hb : oB b) (h1 : ¬ oI b < 0) (h2 : ¬ oI a < 0) (h : oI a ≤ oI b) : oI a = oI (omin a b) := by
  cases a with
  | none => exact absurd (by decide) h2
  | some a =>
    cases b with
    | none => rfl
    | some b =>
      have h3 := (nI_leI (ha a rfl) (hb b rfl)).mp h
      show nI a = nI (min a b)
      rw [Nat.min_eq_left (by omega)]
theorem st_la {a b : Option Nat} (ha : oB a) (hb : oB b) : (if oI a < oI b then oI b else oI a) = oI (omax a b) := by
  cases a with
  | none =>
    cases b with
    | none => rfl
    | some b =>
      show (if (-1 : Int32) < nI b then nI b else -1) = nI b
      rw [if_pos (Int32.lt_of_lt_of_le (by decide) (nI_pos' (hb b rfl)))]
  | some a =>
    cases b with
    | none =>
      show (if nI a < (-1 : Int32) then -1 else nI a) = nI a
      rw [if_neg (fun z => absurd (Int32.lt_of_le_of_lt (nI_pos' (ha a rfl)) z) (by decide))]
    | some b =>
      show (if nI a < nI b then nI b else nI a) = nI (max a b)
      exact nI_max (ha a rfl) (hb b rfl)
theorem AK_fi {h : HallS} {x : Int32} {cl k : Nat} : (tal x (AK h cl k)).2.2.1 = oI (mn (AK h cl k)) := by rw [tal_is (AE_mo k)]
theorem AK_la {h : HallS} {x : Int32} {cl k : Nat} : (tal x (AK h cl k)).2.2.2 = oI (mx (AK h cl k)) := by rw [tal_is (AE_mo k)]
theorem one_fi {h : HallS} {x : Int32} {cl k : Nat} : (tly (oneH h k) x cl).2.2.1 = oI (mn (EK h cl k)) := by rw [one_T, tal_is EK_mo]
theorem one_la {h : HallS} {x : Int32} {cl k : Nat} : (tly (oneH h k) x cl).2.2.2 = oI (mx (EK h cl k)) := by rw [one_T, tal_is EK_mo]
theorem AK_fis {h : HallS} {x : Int32} {cl k : Nat} : (tal x (AK h cl (k + 1))).2.2.1 = oI (omin (mn (AK h cl k)) (mn (EK h cl k))) := by rw [AK_fi, AK_s, mn_app]
theorem fi_no {h : HallS} {x : Int32} {cl k : Nat} (h1 : (tly (oneH h k) x cl).2.2.1 < 0) : (tal x (AK h cl k)).2.2.1 = (tal x (AK h cl (k + 1))).2.2.1 := by
  rw [one_fi] at h1
  rw [AK_fis, AK_fi]; exact st_fi1 (mn_B EK_mo) h1
theorem fi_new {h : HallS} {x : Int32} {cl k : Nat} (h2 : (tal x (AK h cl k)).2.2.1 < 0) : (tly (oneH h k) x cl).2.2.1 = (tal x (AK h cl (k + 1))).2.2.1 := by
  rw [AK_fi] at h2
  rw [AK_fis, one_fi]; exact st_fi2 (mn_B (AE_mo k)) h2
theorem fi_less {h : HallS} {x : Int32} {cl k : Nat} (h1 : ¬ (tly (oneH h k) x cl).2.2.1 < 0) (h2 : ¬ (tal x (AK h cl k)).2.2.1 < 0) (h3 : (tly (oneH h k) x cl).2.2.1 < (tal x (AK h cl k)).2.2.1) : (tly (oneH h k) x cl).2.2.1 = (tal x (AK h cl (k + 1))).2.2.1 := by
  rw [one_fi] at h1 h3
  rw [AK_fi] at h2 h3
  rw [AK_fis, one_fi]; exact st_fi3 (mn_B (AE_mo k)) (mn_B EK_mo) h1 h2 h3
theorem fi_more {h : HallS} {x : Int32} {cl k : Nat} (h1 : ¬ (tly (oneH h k) x cl).2.2.1 < 0) (h2 : ¬ (tal x (AK h cl k)).2.2.1 < 0) (h3 : (tal x (AK h cl k)).2.2.1 ≤ (tly (oneH h k) x cl).2.2.1) : (tal x (AK h cl k)).2.2.1 = (tal x (AK h cl (k + 1))).2.2.1 := by
  rw [one_fi] at h1 h3
  rw [AK_fi] at h2 h3
  rw [AK_fis, AK_fi]; exact st_fi4 (mn_B (AE_mo k)) (mn_B EK_mo) h1 h2 h3
theorem la_s {h : HallS} {x : Int32} {cl k : Nat} : (if (tal x (AK h cl k)).2.2.2 < (tly (oneH h k) x cl).2.2.2 then (tly (oneH h k) x cl).2.2.2 else (tal x (AK h cl k)).2.2.2) = (tal x (AK h cl (k + 1))).2.2.2 := by
  rw [AK_la, one_la, AK_la, AK_s, mx_app]
  exact st_la (mx_B (AE_mo k)) (mx_B EK_mo)
/-! how loud at one moment -/
def LK (h : HallS) (cl k : Nat) : Nat → Int32 := upF (rowsL (hDm h) (hDu h) cl (hSu h)) k (fun _ => nI 0)
theorem foldL_add : ∀ (E : List (Nat × Nat)) (f : Nat → Int32) (y : Nat), List.foldl hearL f E y = f y + List.foldl hearL (fun _ => nI 0) E y := by
  intro E
  induction E with
  | nil => intro f y; show f y = f y + nI 0; rw [nI_0, Int32.add_zero]
  | cons q E ih =>
    intro f y
    rw [List.foldl_cons, List.foldl_cons, ih (hearL f q) y, ih (hearL (fun _ => nI 0) q) y, ← Int32.add_assoc]
    congr 1
    show upd f (q.1 / 6) (f (q.1 / 6) + nI q.2) y = f y + upd (fun _ => nI 0) (q.1 / 6) (nI 0 + nI q.2) y
    unfold upd
    by_cases hy : y = q.1 / 6
    · rw [if_pos hy, if_pos hy, hy, nI_0, Int32.zero_add]
    · rw [if_neg hy, if_neg hy, nI_0, Int32.add_zero]
theorem rowsL_q {dm du cl u : Nat} {su : Nat → Nat × Nat} {f : Nat → Int32} : rowsL dm du cl su u f = List.foldl hearL f (rowE ((su u).1 - du / 5) dm (su u).2 500 1 cl) := rfl
theorem one_L {h : HallS} {cl k : Nat} : ldz (oneH h k) cl = List.foldl hearL (fun _ => nI 0) (EK h cl k) := by
  unfold ldz
  show upF (rowsL (hDm h) 0 cl (fup (fun _ => (0, 0)) 0 ((hSu h k).1 - hDu h / 5, (hSu h k).2))) 1 (fun _ => nI 0) = _
  rw [upF_succ, upF_zero, rowsL_q, fup_s]
  show List.foldl hearL (fun _ => nI 0) (rowE ((hSu h k).1 - hDu h / 5 - 0 / 5) (hDm h) (hSu h k).2 500 1 cl) = _
  rw [Nat.zero_div, Nat.sub_zero]
theorem st_at {h : HallS} {cl k y : Nat} : LK h cl k y + ldz (oneH h k) cl y = LK h cl (k + 1) y := by
  rw [one_L]
  unfold LK
  rw [upF_succ, rowsL_q]
  exact (foldL_add _ _ _).symm
theorem ldz_L {h : HallS} {cl : Nat} : ldz h cl = LK h cl (hSc h) := rfl
theorem at6 {f : Nat → Int32} {z : Int32} {m : Nat} : (if 6 * m % 6 = 0 then f (6 * m / 6) else z) = f m := by
  rw [if_pos (Nat.mul_mod_right 6 m), Nat.mul_div_cancel_left m (by decide)]
/-! loud ones -/
theorem cnt_mono {a b : Nat} (hab : a ≤ b) (hb : b < 2 ^ 31) : ∀ E : List (Nat × Nat), cnt (nI b) E ≤ cnt (nI a) E
  | [] => Nat.le_refl _
  | q :: E => by
    have ih := cnt_mono hab hb E
    show (if nI q.2 < nI b then 0 else 1) + cnt (nI b) E ≤ (if nI q.2 < nI a then 0 else 1) + cnt (nI a) E
    by_cases h : nI q.2 < nI a
    · rw [if_pos h, if_pos (Int32.lt_of_lt_of_le h (nI_le hab hb))]; omega
    · rw [if_neg h]; split <;> omega
theorem cnt_le {x : Int32} : ∀ E : List (Nat × Nat), cnt x E ≤ E.length
  | [] => Nat.le_refl _
  | q :: E => by
    have ih := cnt_le (x := x) E
    show _ + cnt x E ≤ E.length + 1
    split <;> omega
theorem cnt_0 {x : Int32} : ∀ E : List (Nat × Nat), (∀ q ∈ E, nI q.2 < x) → cnt x E = 0
  | [], _ => rfl
  | q :: E, h => by
    show (if nI q.2 < x then 0 else 1) + cnt x E = 0
    rw [if_pos (h q List.mem_cons_self), cnt_0 E (fun z hz => h z (List.mem_cons_of_mem _ hz))]
theorem cnt_all {x : Int32} : ∀ E : List (Nat × Nat), (∀ q ∈ E, ¬ nI q.2 < x) → cnt x E = E.length
  | [], _ => rfl
  | q :: E, h => by
    show (if nI q.2 < x then 0 else 1) + cnt x E = E.length + 1
    rw [if_neg (h q List.mem_cons_self), cnt_all E (fun z hz => h z (List.mem_cons_of_mem _ hz)), Nat.add_comm]
theorem nx_le {hd dm l : Nat} (h1 : hd ≤ 99) : nx hd dm l ≤ l := by
  unfold nx
  have a1 : l * hd ≤ l * 99 := Nat.mul_le_mul_left _ h1
  have a2 : l * hd / 100 ≤ l := by omega
  have a3 : l * hd / 100 * (100 - dm) ≤ l * 100 := Nat.mul_le_mul a2 (by omega)
  omega
theorem rowE_lo {hd dm ds : Nat} (h9 : hd ≤ 99) : ∀ n k l, ∀ q ∈ rowE hd dm ds n k l, 1 ≤ q.2 ∧ q.2 ≤ l
  | 0, _, _, q, hq => by cases hq
  | n + 1, k, l, q, hq => by
    have hl := nx_le (hd := hd) (dm := dm) (l := l) h9
    rw [rowE] at hq
    by_cases h0 : nx hd dm l = 0
    · rw [if_pos h0] at hq; cases hq
    · rw [if_neg h0] at hq
      by_cases h3 : k * 6 * ds ≤ 3000
      · rw [if_pos h3] at hq
        rcases List.mem_cons.mp hq with rfl | hq
        · exact ⟨by show 1 ≤ nx hd dm l; omega, hl⟩
        · have := rowE_lo h9 n (k + 1) (nx hd dm l) q hq
          omega
      · rw [if_neg h3] at hq; cases hq
theorem AE_lo {su : Nat → Nat × Nat} {dm du cl : Nat} : ∀ m, (∀ k, k < m → (su k).1 ≤ 99) → ∀ q ∈ AE su dm du cl m, 1 ≤ q.2 ∧ q.2 ≤ cl := by
  intro m
  induction m with
  | zero => intro _ q hq; cases hq
  | succ m ih =>
    intro hs q hq
    rw [AE_s] at hq
    rcases List.mem_append.mp hq with h | h
    · exact ih (fun k hk => hs k (by omega)) q h
    · exact rowE_lo (by have := hs m (by omega); omega) _ _ _ q h
theorem AE_len {su : Nat → Nat × Nat} {dm du cl : Nat} : ∀ m, (AE su dm du cl m).length ≤ 500 * m := by
  intro m
  induction m with
  | zero => exact Nat.le_refl 0
  | succ m ih =>
    rw [AE_s, List.length_append]
    have := rowE_len (hd := (su m).1 - du / 5) (dm := dm) (ds := (su m).2) 500 1 cl
    omega
/-- how many as loud as z -/
def LO (h : HallS) (cl z : Nat) : Nat := cnt (nI z) (AK h cl (hSc h))
theorem LO_is {h : HallS} {cl z : Nat} : (tly h (nI z) cl).2.1 = nI (LO h cl z) := by rw [tly_T, tal_is (AE_mo _)]; rfl
theorem LO_le {h : HallS} {cl z : Nat} (hs : hSc h ≤ 6) : LO h cl z ≤ 3000 := by
  unfold LO
  have h1 := cnt_le (x := nI z) (AK h cl (hSc h))
  have h2 : (AK h cl (hSc h)).length ≤ 500 * hSc h := AE_len _
  have h3 : 500 * hSc h ≤ 500 * 6 := Nat.mul_le_mul_left _ hs
  omega
theorem LO_mono {h : HallS} {cl a b : Nat} (hab : a ≤ b) (hb : b < 2 ^ 31) : LO h cl b ≤ LO h cl a := cnt_mono hab hb _
theorem LO_none {h : HallS} {cl z : Nat} (hh : hOK h) (hcl : cl < z) (hz : z < 2 ^ 31) : LO h cl z = 0 :=
  cnt_0 _ (fun q hq => nI_lt (Nat.lt_of_le_of_lt (AE_lo (hSc h) (fun k hk => (hh.2.2.2.2 k hk).1) q hq).2 hcl) hz)
theorem LO_1 {h : HallS} {cl : Nat} (hh : hOK h) (hcl : cl ≤ 1000) : (tly h (nI 1) cl).2.1 = (tly h (nI 1) cl).1 := by
  rw [tly_T, tal_is (AE_mo _)]
  show nI (cnt (nI 1) _) = nI _
  rw [cnt_all _ (fun q hq => nI_nlt (AE_lo (hSc h) (fun k hk => (hh.2.2.2.2 k hk).1) q hq).1 (by have := (AE_lo (hSc h) (fun k hk => (hh.2.2.2.2 k hk).1) q hq).2; omega))]
/-! with more damping -/
theorem nx_mono {hd dm dm' l l' : Nat} (h1 : dm ≤ dm') (h2 : l' ≤ l) : nx hd dm' l' ≤ nx hd dm l := by
  unfold nx
  exact Nat.div_le_div_right (Nat.mul_le_mul (Nat.div_le_div_right (Nat.mul_le_mul_right _ h2)) (by omega))
theorem row_mono {x : Int32} {hd dm dm' ds : Nat} (h9 : hd ≤ 99) (h1 : dm ≤ dm') : ∀ n k l l', l' ≤ l → l ≤ 1000 → (∀ q' ∈ rowE hd dm' ds n k l', ∃ q ∈ rowE hd dm ds n k l, q.1 = q'.1) ∧ cnt x (rowE hd dm' ds n k l') ≤ cnt x (rowE hd dm ds n k l)
  | 0, _, _, _, _, _ => ⟨fun q hq => (by cases hq), Nat.le_refl _⟩
  | n + 1, k, l, l', hl, hl1 => by
    have hm := nx_mono (hd := hd) h1 hl
    have hn := nx_le (hd := hd) (dm := dm) (l := l) h9
    by_cases h0 : nx hd dm' l' = 0
    · rw [rowE_nil (Or.inl h0)]; exact ⟨fun q hq => (by cases hq), Nat.zero_le _⟩
    · by_cases h3 : k * 6 * ds ≤ 3000
      · rw [rowE_cons h0 h3, rowE_cons (show ¬ nx hd dm l = 0 by omega) h3]
        obtain ⟨i1, i2⟩ := row_mono (x := x) (ds := ds) h9 h1 n (k + 1) (nx hd dm l) (nx hd dm' l') hm (by omega)
        refine ⟨fun q hq => ?_, ?_⟩
        · rcases List.mem_cons.mp hq with rfl | hq
          · exact ⟨_, List.mem_cons_self, rfl⟩
          · obtain ⟨z, hz, e⟩ := i1 q hq
            exact ⟨z, List.mem_cons_of_mem _ hz, e⟩
        · show (if nI (nx hd dm' l') < x then 0 else 1) + _ ≤ (if nI (nx hd dm l) < x then 0 else 1) + _
          by_cases hx : nI (nx hd dm l) < x
          · rw [if_pos hx, if_pos (Int32.lt_of_le_of_lt (nI_le hm (by omega)) hx)]; omega
          · rw [if_neg hx]; split <;> omega
      · rw [rowE_nil (Or.inr (by omega))]; exact ⟨fun q hq => (by cases hq), Nat.zero_le _⟩
theorem AE_mono {x : Int32} {su : Nat → Nat × Nat} {dm dm' du cl : Nat} (h1 : dm ≤ dm') (hcl : cl ≤ 1000) : ∀ m, (∀ k, k < m → (su k).1 ≤ 99) → (∀ q' ∈ AE su dm' du cl m, ∃ q ∈ AE su dm du cl m, q.1 = q'.1) ∧ cnt x (AE su dm' du cl m) ≤ cnt x (AE su dm du cl m) := by
  intro m
  induction m with
  | zero => intro _; exact ⟨fun q hq => (by cases hq), Nat.le_refl _⟩
  | succ m ih =>
    intro hs
    obtain ⟨i1, i2⟩ := ih (fun k hk => hs k (by omega))
    obtain ⟨r1, r2⟩ := row_mono (x := x) (hd := (su m).1 - du / 5) (ds := (su m).2) (by have := hs m (by omega); omega) h1 500 1 cl cl (Nat.le_refl _) hcl
    rw [AE_s, AE_s, cnt_app, cnt_app]
    refine ⟨fun q hq => ?_, by omega⟩
    rcases List.mem_append.mp hq with h | h
    · obtain ⟨z, hz, e⟩ := i1 q h
      exact ⟨z, List.mem_append_left _ hz, e⟩
    · obtain ⟨z, hz, e⟩ := r1 q h
      exact ⟨z, List.mem_append_right _ hz, e⟩
theorem mn_spec : ∀ E : List (Nat × Nat), (E = [] ∧ mn E = none) ∨ ∃ a, mn E = some a ∧ ∀ e, e ≤ a ↔ ∀ q ∈ E, e ≤ q.1
  | [] => Or.inl ⟨rfl, rfl⟩
  | q :: E => by
    refine Or.inr ?_
    rcases mn_spec E with ⟨h1, h2⟩ | ⟨a, h1, h2⟩
    · refine ⟨q.1, by show omin (some q.1) (mn E) = _; rw [h2]; rfl, fun e => ⟨fun h z hz => ?_, fun h => h q List.mem_cons_self⟩⟩
      rw [h1] at hz
      rcases List.mem_cons.mp hz with rfl | hz
      · exact h
      · cases hz
    · refine ⟨min q.1 a, by show omin (some q.1) (mn E) = _; rw [h1]; rfl, fun e => ⟨fun h z hz => ?_, fun h => ?_⟩⟩
      · rcases List.mem_cons.mp hz with rfl | hz
        · omega
        · exact (h2 e).mp (by omega) z hz
      · have g1 := h q List.mem_cons_self
        have g2 := (h2 e).mpr (fun z hz => h z (List.mem_cons_of_mem _ hz))
        omega
theorem mx_spec : ∀ E : List (Nat × Nat), (E = [] ∧ mx E = none) ∨ ∃ a, mx E = some a ∧ ∀ e, a ≤ e ↔ ∀ q ∈ E, q.1 ≤ e
  | [] => Or.inl ⟨rfl, rfl⟩
  | q :: E => by
    refine Or.inr ?_
    rcases mx_spec E with ⟨h1, h2⟩ | ⟨a, h1, h2⟩
    · refine ⟨q.1, by show omax (some q.1) (mx E) = _; rw [h2]; rfl, fun e => ⟨fun h z hz => ?_, fun h => h q List.mem_cons_self⟩⟩
      rw [h1] at hz
      rcases List.mem_cons.mp hz with rfl | hz
      · exact h
      · cases hz
    · refine ⟨max q.1 a, by show omax (some q.1) (mx E) = _; rw [h1]; rfl, fun e => ⟨fun h z hz => ?_, fun h => ?_⟩⟩
      · rcases List.mem_cons.mp hz with rfl | hz
        · omega
        · exact (h2 e).mp (by omega) z hz
      · have g1 := h q List.mem_cons_self
        have g2 := (h2 e).mpr (fun z hz => h z (List.mem_cons_of_mem _ hz))
        omega
/-- a hall meets a standard, told by its echoes -/
theorem okS_is {ea mo lt : Nat} {x : Int32} {E : List (Nat × Nat)} (hE : ∀ q ∈ E, q.1 ≤ 3000) (hl : E.length < 2 ^ 31) (h1 : ea < 2 ^ 31) (h2 : mo < 2 ^ 31) (h3 : lt < 2 ^ 31) : (okS ea mo lt (tal x E).1 (tal x E).2.1 (tal x E).2.2.1 (tal x E).2.2.2 = 1 ↔ (∀ q ∈ E, ea ≤ q.1 ∧ q.1 ≤ lt) ∧ cnt x E ≤ mo) := by
  rw [tal_is hE]
  show okS ea mo lt (nI E.length) (nI (cnt x E)) (oI (mn E)) (oI (mx E)) = 1 ↔ _
  have hc := cnt_le (x := x) E
  unfold okS
  rcases mn_spec E with ⟨e1, e2⟩ | ⟨a, e1, e2⟩
  · subst e1
    exact ⟨fun _ => ⟨fun q hq => (by cases hq), Nat.zero_le _⟩, fun _ => if_pos rfl⟩
  · rcases mx_spec E with ⟨f1, f2⟩ | ⟨b, f1, f2⟩
    · subst f1; cases e1
    · have hne : E.length ≠ 0 := by
        intro z
        have : E = [] := List.length_eq_zero_iff.mp z
        subst this; cases e1
      have ha : a < 2 ^ 31 := mn_B hE a e1
      have hb : b < 2 ^ 31 := mx_B hE b f1
      rw [if_neg (nI_ne0 (Nat.pos_of_ne_zero hne) hl), e1, f1]
      show (if nI a < nI ea then 0 else if nI lt < nI b then 0 else if nI mo < nI (cnt x E) then 0 else 1) = 1 ↔ _
      by_cases g1 : nI a < nI ea
      · rw [if_pos g1]
        have g2 := (nI_ltI ha h1).mp g1
        exact ⟨fun z => absurd z (by decide), fun z => absurd ((e2 ea).mpr (fun q hq => (z.1 q hq).1)) (by omega)⟩
      · rw [if_neg g1]
        have g2 : ea ≤ a := Nat.not_lt.mp (fun z => g1 ((nI_ltI ha h1).mpr z))
        by_cases g3 : nI lt < nI b
        · rw [if_pos g3]
          have g4 := (nI_ltI h3 hb).mp g3
          exact ⟨fun z => absurd z (by decide), fun z => absurd ((f2 lt).mpr (fun q hq => (z.1 q hq).2)) (by omega)⟩
        · rw [if_neg g3]
          have g4 : b ≤ lt := Nat.not_lt.mp (fun z => g3 ((nI_ltI h3 hb).mpr z))
          by_cases g5 : nI mo < nI (cnt x E)
          · rw [if_pos g5]
            have g6 := (nI_ltI h2 (by omega)).mp g5
            exact ⟨fun z => absurd z (by decide), fun z => absurd z.2 (by omega)⟩
          · rw [if_neg g5]
            have g6 : cnt x E ≤ mo := Nat.not_lt.mp (fun z => g5 ((nI_ltI h2 (by omega)).mpr z))
            exact ⟨fun _ => ⟨fun q hq => ⟨(e2 ea).mp g2 q hq, (f2 lt).mp g4 q hq⟩, g6⟩, fun _ => rfl⟩
theorem metW_is {h : HallS} {s : StdS} {dm du : Nat} (hh : hOK h) (hs : dOK s) : (metW h s dm du = 1 ↔ (∀ q ∈ AE (hSu h) dm du 1000 (hSc h), s.1 ≤ q.1 ∧ q.1 ≤ s.2.2.2.1) ∧ cnt (nI s.2.1) (AE (hSu h) dm du 1000 (hSc h)) ≤ s.2.2.1) := by
  have e : tlyW h s dm du = tal (nI s.2.1) (AE (hSu h) dm du 1000 (hSc h)) := by
    unfold tlyW
    exact upF_AE _
  have hl := AE_len (su := hSu h) (dm := dm) (du := du) (cl := 1000) (hSc h)
  have h6 : 500 * hSc h ≤ 500 * 6 := Nat.mul_le_mul_left _ hh.1
  have d1 := hs.1
  have d2 := hs.2.2.2.1
  have d3 := hs.2.2.2.2.1
  unfold metW okT
  rw [e]
  exact okS_is (AE_mo _) (by omega) (by omega) (by omega) (by omega)
/-- more damping: what met the standard meets it -/
theorem metW_mono {h : HallS} {s : StdS} {dm dm' du : Nat} (hh : hOK h) (hs : dOK s) (h1 : dm ≤ dm') (hm : metW h s dm du = 1) : metW h s dm' du = 1 := by
  obtain ⟨g1, g2⟩ := (metW_is hh hs).mp hm
  obtain ⟨m1, m2⟩ := AE_mono (x := nI s.2.1) (su := hSu h) (du := du) (cl := 1000) h1 (Nat.le_refl _) (hSc h) (fun k hk => (hh.2.2.2.2 k hk).1)
  refine (metW_is hh hs).mpr ⟨fun q hq => ?_, by omega⟩
  obtain ⟨z, hz, e⟩ := m1 q hq
  rw [← e]
  exact g1 z hz
/-- a surface is as hard as it was built, or less by 20 at most -/
theorem hard20 {hb du : Nat} (h1 : hb ≤ 99) (h2 : du ≤ 100) : ¬ nI (hb - du / 5) < nI hb - nI 20 := by
  intro z
  rw [Int32.lt_iff_toInt_lt, pk_sub_toInt (by omega) (by decide), nI_toInt (by omega)] at z
  omega
