
abbrev RPa (i : Nat) (ad : Adr) (σ : CS) (o : Wd) (v : Option Value) : Option Value → Adr → Wd → Prop := fun v' ad' w' => v' = v ∧ ((∀ k r, k ≠ i → ad' (k :: r) = ad (k :: r)) ∧ ad' [i] = ad [i]) ∧ ∃ tl t lo, w' = PW i ad' σ tl t lo o
section C19
variable {l : Launch} {D : va_G} {ba d : Nat} {ad : Adr} {w : Wd}
theorem c_sInit' (hl : l.stackTraces = false) (hd : 1 ≤ d) {LU : Lab} {a : Nat} (ha : a = ad LU) (hU : w LU = some (.inr (3, [.int 0, .int 0]))) (ds hb : Nat) : CT l yX4_init (wsO yX4_init cX4_init 3 none) d 0 0 D ba [.ref a, .int (nI ds), .int (nI hb)] ad w (isR none ad (wset w LU (.inr (3, [.int (nI hb), .int (nI ds)])))) noX := by
  subst ha; exact c_sInit hl hd hU ds hb
theorem c_dInit' (hl : l.stackTraces = false) (hd : 1 ≤ d) {LD : Lab} {a : Nat} (ha : a = ad LD) (hD : w LD = some (.inr (2, [.int 0, .int 0, .int 0, .int 0, .int 0]))) (ea li mo lt dy : Nat) : CT l yX3_init (wsO yX3_init cX3_init 6 none) d 0 0 D ba [.ref a, .int (nI ea), .int (nI li), .int (nI mo), .int (nI lt), .int (nI dy)] ad w (isR none ad (wset w LD (.inr (2, [.int (nI ea), .int (nI li), .int (nI mo), .int (nI lt), .int (nI dy)])))) noX := by
  subst ha; exact c_dInit hl hd hD ea li mo lt dy
theorem c_hInit' (hl : l.stackTraces = false) (hd : 1 ≤ d) {LH LS : Lab} {a : Nat} (ha : a = ad LH) (hH : w LH = some (.inr (0, [.null, .int 0, .int 0, .int 0, .int 0, .int 0]))) (hS : w LS = none) (hHS : LH ≠ LS) (dm : Nat) : CT l yX0_init (wsO yX0_init cX0_init 2 none) d 1 6 D ba [.ref a, .int (nI dm)] ad w (fun v ad' w' => v = none ∧ ∃ q, ad' = aset ad LS q ∧ w' = wset (wset w LS (eQ RX4 6 (fun _ => none))) LH (.inr (0, [.ref q, .int (nI 0), .int (nI dm), .int (nI 0), .int (-1), .int (nI 0)]))) noX := by
  subst ha; exact c_hInit hl hd hH hS hHS dm
theorem c_lInit' (hl : l.stackTraces = false) (hd : 1 ≤ d) {LL LA : Lab} {a : Nat} (ha : a = ad LL) (hL : w LL = some (.inr (1, [.null]))) (hA : w LA = none) (hLA : LL ≠ LA) : CT l yX2_init (wsO yX2_init cX2_init 1 none) d 1 501 D ba [.ref a] ad w (fun v ad' w' => v = none ∧ ∃ q, ad' = aset ad LA q ∧ w' = wset (wset w LA (eI 501 (fun _ => 0))) LL (.inr (1, [.ref q]))) noX := by
  subst ha; exact c_lInit hl hd hL hA hLA
theorem c_build' (hl : l.stackTraces = false) (hd : 1 ≤ d) {LH LS : Lab} {a b sa : Nat} {sc dm du dy : Nat} {ce : Int32} {fs : Nat → Option Nat} {Lu : Lab} {us : List Value} (ha : a = ad LH) (hb : b = ad Lu) (hsa : sa = ad LS) (hH : w LH = some (.inr (0, [.ref sa, .int (nI sc), .int (nI dm), .int (nI du), .int ce, .int (nI dy)]))) (hS : w LS = some (eQ RX4 6 fs)) (hu : w Lu = some (.inr (3, us))) (hHS : LH ≠ LS) (huS : Lu ≠ LS) (huH : Lu ≠ LH) (hsc : sc < 6) : CT l yX0_build (wsO yX0_build cX0_build 3 (some .int)) d 0 0 D ba [.ref a, .ref b] ad w (isR (some (.int (nI sc))) ad (wset (wset w LS (eQ RX4 6 (va_up fs sc (some b)))) LH (.inr (0, [.ref sa, .int (nI (sc + 1)), .int (nI dm), .int (nI du), .int ce, .int (nI dy)])))) noX := by
  subst ha; subst hb; subst hsa; exact c_build hl hd hH hS hu hHS huS huH hsc
variable {p : Program} {e : Env} {s : State} {m : MethodId} {args : Array Value} {below : List Frame} {meth : Method} {c : Code} {mc ms nL pc cells slots : Nat} {Q : State → Prop} {lv : List (Nat × Value)}
theorem V_stE {st st' : List Value} (h : st = st') (k : V p l e s m args below meth c D ba d mc ms Q nL ad w pc lv st' cells slots) : V p l e s m args below meth c D ba d mc ms Q nL ad w pc lv st cells slots := h ▸ k
end C19
section P19
variable {i : Nat} {ad : Adr} {σ : CS} {tl : Int32} {t : TT} {lo : Nat → Int32} {o : Wd}
theorem PW_hf {j : Nat} (h : cN σ ≤ j) : PW i ad σ tl t lo o [i, 6, j] = none := put_s.trans (by simp [WC, Nat.not_lt.mpr h])
theorem PW_sf {j : Nat} (h : cN σ ≤ j) : PW i ad σ tl t lo o [i, 7, j] = none := put_s.trans (by simp [WC, Nat.not_lt.mpr h])
theorem PW_uf {j k : Nat} (h : hSc (cH σ j) ≤ k) : PW i ad σ tl t lo o [i, 8, j, k] = none := put_s.trans (by simp [WC, Nat.not_lt.mpr h])
theorem PW_df {j : Nat} (h : cK σ ≤ j) : PW i ad σ tl t lo o [i, 9, j] = none := put_s.trans (by simp [WC, Nat.not_lt.mpr h])
abbrev addH (σ : CS) (v : Nat) : CS := (cN σ + 1, cK σ, cDay σ, cIns σ, fup (cH σ) (cN σ) (0, v, 0, -1, 0, fun _ => (0, 0)), cS σ)
abbrev addD (σ : CS) (s : StdS) : CS := (cN σ, cK σ + 1, cDay σ, cIns σ, cH σ, fup (cS σ) (cK σ) s)
theorem PW_addH {q q2 v : Nat} {e0 : Ent} : wset (wset (wset (wset (wset (PW i ad σ tl t lo o) [i, 6, cN σ] e0) [i, 7, cN σ] (eQ RX4 6 (fun _ => none))) [i, 6, cN σ] (eHall q2 0 v 0 (-1) 0)) [i, 1] (eQ RX0 8 (va_up (adN (cN σ) (fun j => ad [i, 6, j])) (cN σ) (some q)))) [i] (eBur (ad [i, 1]) (ad [i, 2]) (cN σ + 1) (cK σ) (cDay σ) (cIns σ) (ad [i, 3]) (ad [i, 4])) = PW i (aset (aset ad [i, 6, cN σ] q) [i, 7, cN σ] q2) (addH σ v) tl t lo o := by
  obtain ⟨n0, K0, day0, ins0, H0, S0⟩ := σ
  simp only [addH, addD, setH, cN, cK, cDay, cIns, cH, cS, hSc, hDm, hDu, hCe, hDy, hSu] at *
  rw [put_wset, put_wset, put_wset, put_wset, put_wset]
  have hrow : va_up (adN (n0) (fun j => ad [i, 6, j])) (n0) (some q) = adN (n0 + 1) (fun j => aset (aset ad [i, 6, n0] q) [i, 7, n0] q2 [i, 6, j]) := by
    rw [show adN (n0) (fun j => ad [i, 6, j]) = adN (n0) (fun j => aset (aset ad [i, 6, n0] q) [i, 7, n0] q2 [i, 6, j]) from adN_congr (fun j hj => by simp [aset, Nat.ne_of_lt hj])]
    exact adN_up (by simp [aset])
  rw [hrow]
  congr 1
  funext L
  rcases L with _ | ⟨c, _ | ⟨j, _ | ⟨k, _ | ⟨x, y⟩⟩⟩⟩
  · simp [wset, WC, aset, addH, cN, cK, cDay, cIns, cH, cS, hSc, hDm, hDu, hCe, hDy, hSu]
  · by_cases h1 : c = 1
    · subst h1; simp [wset, WC, aset, addH, cN, cK, cDay, cIns, cH, cS, hSc, hDm, hDu, hCe, hDy, hSu]
    · simp [wset, WC, aset, addH, cN, cK, cDay, cIns, cH, cS, hSc, hDm, hDu, hCe, hDy, hSu, h1]
  · by_cases hj : j = n0
    · subst hj
      by_cases h6 : c = 6
      · subst h6; simp [wset, WC, aset, addH, cN, cK, cDay, cIns, cH, cS, hSc, hDm, hDu, hCe, hDy, hSu, fup]
      · by_cases h7 : c = 7
        · subst h7
          simp only [wset, WC, aset, addH, fup, cN, cK, cDay, cIns, cH, cS, hSc, hDm, hDu, hCe, hDy, hSu]
          simp
          funext k
          simp [adN]
        · simp [wset, WC, aset, addH, cN, cK, cDay, cIns, cH, cS, hSc, hDm, hDu, hCe, hDy, hSu, h6, h7]
    · have hlt : (j < n0 + 1) = (j < n0) := by simp only [eq_iff_iff]; omega
      simp [wset, WC, aset, addH, cN, cK, cDay, cIns, cH, cS, hSc, hDm, hDu, hCe, hDy, hSu, hj, fup, hlt]
  · by_cases hj : j = n0
    · subst hj; simp [wset, WC, aset, addH, cN, cK, cDay, cIns, cH, cS, hSc, hDm, hDu, hCe, hDy, hSu, fup]
    · have hlt : (j < n0 + 1) = (j < n0) := by simp only [eq_iff_iff]; omega
      simp [wset, WC, aset, addH, cN, cK, cDay, cIns, cH, cS, hSc, hDm, hDu, hCe, hDy, hSu, hj, fup, hlt]
  · simp [wset, WC]
theorem PW_addD {q ea li mo lt dy : Nat} : wset (wset (wset (PW i ad σ tl t lo o) [i, 9, cK σ] (eStd ea li mo lt dy)) [i, 2] (eQ RX3 5 (va_up (adN (cK σ) (fun j => ad [i, 9, j])) (cK σ) (some q)))) [i] (eBur (ad [i, 1]) (ad [i, 2]) (cN σ) (cK σ + 1) (cDay σ) (cIns σ) (ad [i, 3]) (ad [i, 4])) = PW i (aset ad [i, 9, cK σ] q) (addD σ (ea, li, mo, lt, dy)) tl t lo o := by
  obtain ⟨n0, K0, day0, ins0, H0, S0⟩ := σ
  simp only [addH, addD, setH, cN, cK, cDay, cIns, cH, cS, hSc, hDm, hDu, hCe, hDy, hSu] at *
  rw [put_wset, put_wset, put_wset]
  have hrow : va_up (adN (K0) (fun j => ad [i, 9, j])) (K0) (some q) = adN (K0 + 1) (fun j => aset ad [i, 9, K0] q [i, 9, j]) := by
    rw [show adN (K0) (fun j => ad [i, 9, j]) = adN (K0) (fun j => aset ad [i, 9, K0] q [i, 9, j]) from adN_congr (fun j hj => by simp [aset, Nat.ne_of_lt hj])]
    exact adN_up (by simp [aset])
  rw [hrow]
  congr 1
  funext L
  rcases L with _ | ⟨c, _ | ⟨j, _ | ⟨k, _ | ⟨x, y⟩⟩⟩⟩
  · simp [wset, WC, aset, addD, cN, cK, cDay, cIns, cH, cS, hSc, hDm, hDu, hCe, hDy, hSu]
  · by_cases h1 : c = 2
    · subst h1; simp [wset, WC, aset, addD, cN, cK, cDay, cIns, cH, cS, hSc, hDm, hDu, hCe, hDy, hSu]
    · simp [wset, WC, aset, addD, cN, cK, cDay, cIns, cH, cS, hSc, hDm, hDu, hCe, hDy, hSu, h1]
  · by_cases hj : j = K0
    · subst hj
      by_cases h6 : c = 9
      · subst h6; simp [wset, WC, aset, addD, cN, cK, cDay, cIns, cH, cS, hSc, hDm, hDu, hCe, hDy, hSu, fup]
      · simp [wset, WC, aset, addD, cN, cK, cDay, cIns, cH, cS, hSc, hDm, hDu, hCe, hDy, hSu, h6]
    · have hlt : (j < K0 + 1) = (j < K0) := by simp only [eq_iff_iff]; omega
      simp [wset, WC, aset, addD, cN, cK, cDay, cIns, cH, cS, hSc, hDm, hDu, hCe, hDy, hSu, hj, fup, hlt]
  · simp [wset, WC, aset, addD, cN, cK, cDay, cIns, cH, cS, hSc, hDm, hDu, hCe, hDy, hSu]
  · simp [wset, WC]
theorem PW_addS {j q hb ds : Nat} (hj : j < cN σ) : wset (wset (wset (wset (PW i ad σ tl t lo o) [i, 6, j] (eHall (ad [i, 7, j]) (hSc (cH σ j)) (hDm (cH σ j)) (hDu (cH σ j)) (-1) 0)) [i, 8, j, hSc (cH σ j)] (eSurf hb ds)) [i, 7, j] (eQ RX4 6 (va_up (adN (hSc (cH σ j)) (fun k => ad [i, 8, j, k])) (hSc (cH σ j)) (some q)))) [i, 6, j] (eHall (ad [i, 7, j]) (hSc (cH σ j) + 1) (hDm (cH σ j)) (hDu (cH σ j)) (-1) 0) = PW i (aset ad [i, 8, j, hSc (cH σ j)] q) (setH σ j (hSc (cH σ j) + 1, hDm (cH σ j), hDu (cH σ j), -1, 0, fup (hSu (cH σ j)) (hSc (cH σ j)) (hb, ds))) tl t lo o := by
  obtain ⟨n0, K0, day0, ins0, H0, S0⟩ := σ
  simp only [addH, addD, setH, cN, cK, cDay, cIns, cH, cS, hSc, hDm, hDu, hCe, hDy, hSu] at *
  rw [put_wset, put_wset, put_wset, put_wset]
  have hrow : va_up (adN ((H0 j).1) (fun k => ad [i, 8, j, k])) ((H0 j).1) (some q) = adN ((H0 j).1 + 1) (fun k => aset ad [i, 8, j, (H0 j).1] q [i, 8, j, k]) := by
    rw [show adN ((H0 j).1) (fun k => ad [i, 8, j, k]) = adN ((H0 j).1) (fun k => aset ad [i, 8, j, (H0 j).1] q [i, 8, j, k]) from adN_congr (fun k hk => by simp [aset, Nat.ne_of_lt hk])]
    exact adN_up (by simp [aset])
  rw [hrow]
  congr 1
  funext L
  rcases L with _ | ⟨c, _ | ⟨a, _ | ⟨k, _ | ⟨x, y⟩⟩⟩⟩
  · simp [wset, WC, aset, setH, cN, cK, cDay, cIns, cH, cS, hSc, hDm, hDu, hCe, hDy, hSu]
  · simp [wset, WC, aset, setH, cN, cK, cDay, cIns, cH, cS, hSc, hDm, hDu, hCe, hDy, hSu]
  · by_cases ha : a = j
    · subst ha
      by_cases h6 : c = 6
      · subst h6; simp [wset, WC, aset, setH, cN, cK, cDay, cIns, cH, cS, hSc, hDm, hDu, hCe, hDy, hSu, fup, hj]
      · by_cases h7 : c = 7
        · subst h7
          simp [wset, WC, aset, setH, cN, cK, cDay, cIns, cH, cS, hSc, hDm, hDu, hCe, hDy, hSu, fup, hj]
        · simp [wset, WC, aset, h6, h7, cN, cK, cDay, cIns, cH, cS, hSc, hDm, hDu, hCe, hDy, hSu]
    · simp [wset, WC, aset, fup, ha, cN, cK, cDay, cIns, cH, cS, hSc, hDm, hDu, hCe, hDy, hSu]
  · by_cases ha : a = j
    · subst ha
      by_cases h8 : c = 8
      · subst h8
        by_cases hk : k = (H0 a).1
        · subst hk; simp [wset, WC, cN, cK, cDay, cIns, cH, cS, hSc, hDm, hDu, hCe, hDy, hSu, fup, hj]
        · have hlt : (k < (H0 a).1 + 1) = (k < (H0 a).1) := by simp only [eq_iff_iff]; omega
          simp [wset, WC, cN, cK, cDay, cIns, cH, cS, hSc, hDm, hDu, hCe, hDy, hSu, fup, hj, hk, hlt]
      · simp [wset, WC, h8, cN, cK, cDay, cIns, cH, cS, hSc, hDm, hDu, hCe, hDy, hSu]
    · simp [wset, WC, cN, cK, cDay, cIns, cH, cS, hSc, hDm, hDu, hCe, hDy, hSu, fup, ha]
  · simp [wset, WC]
end P19
set_option maxHeartbeats 4000000 in
theorem p_addHall {l : Launch} {D : va_G} {ba d : Nat} {ad : Adr} (hl : l.stackTraces = false) (hd : 9 ≤ d) {i : Nat} {σ : CS} {tl : Int32} {t : TT} {lo : Nat → Int32} {o : Wd} (hσ : cOK σ) {v : Nat} (hv : v ≤ 90) (hin : ¬ inR (nI v) (nI 0) (nI 90) = 0) (h8 : cN σ < 8)  : CT l yX6_addHall (wsO yX6_addHall cX6_addHall 3 (some .int)) d 8 64 D ba [.ref (ad [i]), .int (nI v)] ad (PW i ad σ tl t lo o) (RPa i ad (addH σ v) o (some (.int (nI (cN σ))))) noX := by
  refine CT_of RX6 rfl (by decide +kernel) hl (Nat.le_of_ble_eq_true rfl) ?_
  intro p e s m args below meth c C hr hnm
  refine V_lvE (lv' := [(0, .ref (ad [i])), (1, .int (nI v))]) rfl ?_
  have hσ1 := hσ.1
  have hσ2 := hσ.2.1
  refine V_iload_n C dX6_addHall_0 1 rfl ?_
  refine V_callS C [.int (nI v)] dX6_addHall_1 m_X6_checkDamping k_X6_checkDamping tw_99 rfl rfl (Nat.le_of_ble_eq_true rfl) ⟨by omega, by omega, by omega, by omega⟩ (c_ckDamp_ok hl (by omega) _ hin) (kr_none ?_) kx_no
  refine V_aload_n C dX6_addHall_4 0 rfl ?_
  refine V_get (ci := 5) (k := 2) C dX6_addHall_5 RX6 RX6 TX6 8 fw_X6 rfl (by decide) tw_72 rfl rfl PW_b rfl ?_
  refine V_aload_n C dX6_addHall_8 0 rfl ?_
  refine V_get (ci := 5) (k := 0) C dX6_addHall_9 RX6 RX6 TX6 8 fw_X6 rfl (by decide) tw_70 rfl rfl PW_b rfl ?_
  refine V_alen (v := nI 8) C dX6_addHall_12 rfl PW_hr rfl ?_
  refine V_icmpn_lt (tgt := 26) C dX6_addHall_13 (by decide) (by omega) (by decide) (fun hb1 => ?_) (fun hb1 => by exfalso; omega)
  refine V_aload_n C dX6_addHall_26 0 rfl ?_
  refine V_get (ci := 5) (k := 2) C dX6_addHall_27 RX6 RX6 TX6 8 fw_X6 rfl (by decide) tw_72 rfl rfl PW_b rfl ?_
  refine V_istore_n C [(2, .int (nI (cN σ))), (0, .ref (ad [i])), (1, .int (nI v))] dX6_addHall_30 (by decide) rfl ?_
  refine V_aload_n C dX6_addHall_31 1 rfl ?_
  refine V_get (ci := 5) (k := 0) C dX6_addHall_32 RX6 RX6 TX6 8 fw_X6 rfl (by decide) tw_70 rfl rfl PW_b rfl ?_
  refine V_iload_n C dX6_addHall_35 0 rfl ?_
  refine V_new (ci := 0) (fs := [.null, .int 0, .int 0, .int 0, .int 0, .int 0]) C ([i, 6, cN σ]) dX6_addHall_36 RX0 TX0 6 tyX0 tyX0_ok fw_X0 rfl tw_25 tw_189 tw_11 (fun j hj => by rcases (show j = 0 ∨ j = 1 ∨ j = 2 ∨ j = 3 ∨ j = 4 ∨ j = 5 by omega) with rfl | rfl | rfl | rfl | rfl | rfl <;> rfl) (PW_hf (Nat.le_refl _)) (by omega) (by omega) (fun q1 => ?_)
  refine V_dup C dX6_addHall_39 rfl ?_
  refine V_iload_n C dX6_addHall_40 2 rfl ?_
  refine V_callIN C RX6 [.int (nI v)] dX6_addHall_41 m_X0_init k_X0_init tw_190 rfl rfl (Nat.le_of_ble_eq_true rfl) ⟨by omega, by omega, by omega, by omega⟩ (c_hInit' (LS := [i, 7, cN σ]) hl (by omega) aset_s.symm wset_s ((wset_n (by simp)).trans (PW_sf (Nat.le_refl _))) (by simp) v) ?_ kx_no
  rintro v2 ad2 w2 ⟨rfl, q2, rfl, rfl⟩
  refine V_stE (st' := [.ref q1, .int (nI (cN σ)), .ref (ad [i, 1])]) rfl ?_
  refine V_aastn (r := (RX0, TX0, 6)) C dX6_addHall_44 ((aset_n (by simp)).symm.trans (aset_n (by simp)).symm) ((wset_n (by simp)).trans ((wset_n (by simp)).trans ((wset_n (by simp)).trans PW_hr))) (aset_s.symm.trans (aset_n (by simp)).symm) wset_s rfl (by omega) (by decide) ?_
  refine V_wd (w' := wset (wset (wset (wset (PW i ad σ tl t lo o) ([i, 6, cN σ]) (.inr (0, [.null, .int 0, .int 0, .int 0, .int 0, .int 0]))) [i, 7, cN σ] (eQ RX4 6 (fun _ => none))) [i, 6, cN σ] (eHall q2 0 v 0 (-1) 0)) ([i, 1]) (eQ RX0 8 (va_up (adN (cN σ) (fun j => ad [i, 6, j])) (cN σ) (some q1)))) rfl ?_
  refine V_aload_n C dX6_addHall_45 1 rfl ?_
  refine V_dup C dX6_addHall_46 rfl ?_
  refine V_get (ci := 5) (k := 2) C dX6_addHall_47 RX6 RX6 TX6 8 fw_X6 rfl (by decide) tw_72 rfl ((aset_n (by simp)).symm.trans (aset_n (by simp)).symm) ((wset_n (by simp)).trans ((wset_n (by simp)).trans ((wset_n (by simp)).trans ((wset_n (by simp)).trans PW_b)))) rfl ?_
  refine V_iconst (v := nI 1) C dX6_addHall_50 (by decide) ?_
  refine V_iaddn C dX6_addHall_51 ?_
  refine V_put (ci := 5) (k := 2) C dX6_addHall_52 RX6 RX6 TX6 8 tyX6 tyX6_ok nmX6 fw_X6 rfl (by decide) tw_72 rfl (Or.inl rfl) rfl rfl ((aset_n (by simp)).symm.trans (aset_n (by simp)).symm) ((wset_n (by simp)).trans ((wset_n (by simp)).trans ((wset_n (by simp)).trans ((wset_n (by simp)).trans PW_b)))) (Nat.le_of_ble_eq_true rfl) ?_
  refine V_wd (w' := wset (wset (wset (wset (wset (PW i ad σ tl t lo o) ([i, 6, cN σ]) (.inr (0, [.null, .int 0, .int 0, .int 0, .int 0, .int 0]))) [i, 7, cN σ] (eQ RX4 6 (fun _ => none))) [i, 6, cN σ] (eHall q2 0 v 0 (-1) 0)) ([i, 1]) (eQ RX0 8 (va_up (adN (cN σ) (fun j => ad [i, 6, j])) (cN σ) (some q1)))) ([i]) (.inr (5, [.ref (ad [i, 1]), .ref (ad [i, 2]), .int (nI ((cN σ) + 1)), .int (nI (cK σ)), .int (cDay σ), .int (cIns σ), .ref (ad [i, 3]), .ref (ad [i, 4])]))) rfl ?_
  refine V_iload_n C dX6_addHall_55 0 rfl ?_
  exact V_iret C .int dX6_addHall_56 hr rfl ⟨rfl, ⟨fun k r hk => by simp [aset, hk], by simp [aset]⟩, _, _, _, PW_addH⟩ (by omega) (by omega)
set_option maxHeartbeats 4000000 in
theorem p_addSurface {l : Launch} {D : va_G} {ba d : Nat} {ad : Adr} (hl : l.stackTraces = false) (hd : 9 ≤ d) {i : Nat} {σ : CS} {tl : Int32} {t : TT} {lo : Nat → Int32} {o : Wd} (hσ : cOK σ) {j : Nat} (hj : j < cN σ) {a b : Nat} (ha : a ≤ 60) (hb : b ≤ 99) (hin1 : ¬ inR (nI a) (nI 1) (nI 60) = 0) (hin2 : ¬ inR (nI b) (nI 0) (nI 99) = 0) (h6 : hSc (cH σ j) < 6)  : CT l yX6_addSurface (wsO yX6_addSurface cX6_addSurface 5 (some .int)) d 8 64 D ba [.ref (ad [i]), .int (nI j), .int (nI a), .int (nI b)] ad (PW i ad σ tl t lo o) (RPa i ad (setH σ j (hSc (cH σ j) + 1, hDm (cH σ j), hDu (cH σ j), -1, 0, fup (hSu (cH σ j)) (hSc (cH σ j)) (b, a))) o (some (.int (nI (hSc (cH σ j)))))) noX := by
  refine CT_of RX6 rfl (by decide +kernel) hl (Nat.le_of_ble_eq_true rfl) ?_
  intro p e s m args below meth c C hr hnm
  refine V_lvE (lv' := [(0, .ref (ad [i])), (1, .int (nI j)), (2, .int (nI a)), (3, .int (nI b))]) rfl ?_
  have hσ1 := hσ.1
  have hσ2 := hσ.2.1
  have hu := hσ.2.2.1 j hj
  have hu1 := hu.1
  have hu2 := hu.2.1
  have hu3 := hu.2.2.1
  have hu4 := hu.2.2.2.1
  refine V_aload_n C dX6_addSurface_0 0 rfl ?_
  refine V_iload_n C dX6_addSurface_1 1 rfl ?_
  refine V_callV (r := (RX6, TX6, 8)) C [.int (nI j)] dX6_addSurface_2 m_X6_findHall k_X6_findHall tw_225 rfl rfl rfl PW_b rfl rfl (Nat.le_of_ble_eq_true rfl) ⟨by omega, by omega, by omega, by omega⟩ (c_findHall hl (by omega) hσ hj) (kr_some (x := .ref (ad [i, 6, j])) ?_) kx_no
  refine V_astore C [(4, .ref (ad [i, 6, j])), (0, .ref (ad [i])), (1, .int (nI j)), (2, .int (nI a)), (3, .int (nI b))] dX6_addSurface_5 (by decide) rfl ?_
  refine V_iload_n C dX6_addSurface_7 3 rfl ?_
  refine V_callS C [.int (nI a)] dX6_addSurface_8 m_X6_checkDistance k_X6_checkDistance tw_246 rfl rfl (Nat.le_of_ble_eq_true rfl) ⟨by omega, by omega, by omega, by omega⟩ (c_ckDist_ok hl (by omega) _ hin1) (kr_none ?_) kx_no
  refine V_iload_n C dX6_addSurface_11 4 rfl ?_
  refine V_iconst (v := nI 0) C dX6_addSurface_12 (by decide) ?_
  refine V_bipush (v := nI 99) C dX6_addSurface_13 (by decide) ?_
  have hin15 := inR_le (nI b) (nI 0) (nI 99)
  refine V_callS C [.int (nI b), .int (nI 0), .int (nI 99)] dX6_addSurface_15 m_X6_isWithin k_X6_isWithin tw_102 rfl rfl (Nat.le_of_ble_eq_true rfl) ⟨by omega, by omega, by omega, by omega⟩ (c_isWithin hl (by omega) (nI b) (nI 0) (nI 99)) (kr_some (x := .int (nI (inR (nI b) (nI 0) (nI 99)))) ?_) kx_no
  refine V_ifn_ne (tgt := 31) C dX6_addSurface_18 (by decide) (by omega) (fun hb1 => ?_) (fun hb1 => by exfalso; exact hin2 hb1)
  refine V_aload C dX6_addSurface_31 0 rfl ?_
  refine V_callVN (r := (RX0, TX0, 6)) C RX6 [] dX6_addSurface_33 m_X0_isFull k_X0_isFull tw_251 rfl rfl rfl (PW_h hj) rfl rfl (Nat.le_of_ble_eq_true rfl) ⟨by omega, by omega, by omega, by omega⟩ (c_isFull hl (by omega) (PW_h hj) (PW_hs hj) hu1) (kr_some (x := .int (nI (if hSc (cH σ j) < 6 then 0 else 1))) ?_) kx_no
  have hle6 : (if hSc (cH σ j) < 6 then 0 else 1) ≤ 1 := by split <;> omega
  refine V_ifn_eq (tgt := 49) C dX6_addSurface_36 (by decide) (by omega) (fun hb2 => ?_) (fun hb2 => by exfalso; rw [if_pos h6] at hb2; omega)
  refine V_aload C dX6_addSurface_49 0 rfl ?_
  refine V_callVN (r := (RX0, TX0, 6)) C RX6 [] dX6_addSurface_51 m_X0_loseCertificate k_X0_loseCertificate tw_256 rfl rfl rfl (PW_h hj) rfl rfl (Nat.le_of_ble_eq_true rfl) ⟨by omega, by omega, by omega, by omega⟩ (c_loseCert hl (by omega) (PW_h hj)) (kr_none ?_) kx_no
  refine V_wd (w' := wset (PW i ad σ tl t lo o) ([i, 6, j]) (.inr (0, [.ref (ad [i, 7, j]), .int (nI (hSc (cH σ j))), .int (nI (hDm (cH σ j))), .int (nI (hDu (cH σ j))), .int (-1), .int (nI 0)]))) rfl ?_
  refine V_aload C dX6_addSurface_54 0 rfl ?_
  refine V_new (ci := 3) (fs := [.int 0, .int 0]) C ([i, 8, j, hSc (cH σ j)]) dX6_addSurface_56 RX4 TX4 2 tyX4 tyX4_ok fw_X4 rfl tw_260 tw_261 tw_13 (fun j hj => by rcases (show j = 0 ∨ j = 1 by omega) with rfl | rfl <;> rfl) ((wset_n (by simp)).trans (PW_uf (Nat.le_refl _))) (by omega) (by omega) (fun q1 => ?_)
  refine V_dup C dX6_addSurface_59 rfl ?_
  refine V_iload_n C dX6_addSurface_60 3 rfl ?_
  refine V_iload_n C dX6_addSurface_61 4 rfl ?_
  refine V_callIN C RX6 [.int (nI a), .int (nI b)] dX6_addSurface_62 m_X4_init k_X4_init tw_262 rfl rfl (Nat.le_of_ble_eq_true rfl) ⟨by omega, by omega, by omega, by omega⟩ (c_sInit' hl (by omega) aset_s.symm wset_s a b) (kr_none ?_) kx_no
  refine V_wd (w' := wset (wset (PW i ad σ tl t lo o) ([i, 6, j]) (.inr (0, [.ref (ad [i, 7, j]), .int (nI (hSc (cH σ j))), .int (nI (hDm (cH σ j))), .int (nI (hDu (cH σ j))), .int (-1), .int (nI 0)]))) ([i, 8, j, hSc (cH σ j)]) (.inr (3, [.int (nI b), .int (nI a)]))) wset_wset ?_
  refine V_callVN (r := (RX0, TX0, 6)) C RX6 [.ref q1] dX6_addSurface_65 m_X0_build k_X0_build tw_274 (aset_n (by simp)).symm rfl rfl ((wset_n (by simp)).trans wset_s) rfl rfl (Nat.le_of_ble_eq_true rfl) ⟨by omega, by omega, by omega, by omega⟩ (c_build' (LH := [i, 6, j]) (LS := [i, 7, j]) hl (by omega) (aset_n (by simp)).symm aset_s.symm (aset_n (by simp)).symm ((wset_n (by simp)).trans wset_s) ((wset_n (by simp)).trans ((wset_n (by simp)).trans (PW_hs hj))) wset_s (by simp) (by simp) (by simp) h6) (kr_some (x := .int (nI (hSc (cH σ j)))) ?_) kx_no
  exact V_iret C .int dX6_addSurface_68 hr rfl ⟨rfl, ⟨fun k r hk => by simp [aset, hk], by simp [aset]⟩, _, _, _, PW_addS hj⟩ (by omega) (by omega)
set_option maxHeartbeats 4000000 in
theorem p_addStd {l : Launch} {D : va_G} {ba d : Nat} {ad : Adr} (hl : l.stackTraces = false) (hd : 9 ≤ d) {i : Nat} {σ : CS} {tl : Int32} {t : TT} {lo : Nat → Int32} {o : Wd} (hσ : cOK σ) {ea li mo lt dy : Nat} (h_ea : ea ≤ 500) (h_li : li ≤ 1000) (h_mo : mo ≤ 99) (h_lt : lt ≤ 3000) (h_dy : dy ≤ 100) (g_ea : ¬ inR (nI ea) (nI 0) (nI 500) = 0) (g_li : ¬ inR (nI li) (nI 1) (nI 1000) = 0) (g_mo : ¬ inR (nI mo) (nI 0) (nI 99) = 0) (g_lt : ¬ inR (nI lt) (nI 0) (nI 3000) = 0) (g_dy : ¬ inR (nI dy) (nI 1) (nI 100) = 0) (h5 : cK σ < 5)  : CT l yX6_addStandard (wsO yX6_addStandard cX6_addStandard 8 (some .int)) d 8 64 D ba [.ref (ad [i]), .int (nI ea), .int (nI li), .int (nI mo), .int (nI lt), .int (nI dy)] ad (PW i ad σ tl t lo o) (RPa i ad (addD σ (ea, li, mo, lt, dy)) o (some (.int (nI (cK σ))))) noX := by
  refine CT_of RX6 rfl (by decide +kernel) hl (Nat.le_of_ble_eq_true rfl) ?_
  intro p e s m args below meth c C hr hnm
  refine V_lvE (lv' := [(0, .ref (ad [i])), (1, .int (nI ea)), (2, .int (nI li)), (3, .int (nI mo)), (4, .int (nI lt)), (5, .int (nI dy))]) rfl ?_
  have hσ1 := hσ.1
  have hσ2 := hσ.2.1
  refine V_iload_n C dX6_addStandard_0 1 rfl ?_
  refine V_iconst (v := nI 0) C dX6_addStandard_1 (by decide) ?_
  refine V_sipush (v := nI 500) C dX6_addStandard_2 (by decide) ?_
  have hin5 := inR_le (nI ea) (nI 0) (nI 500)
  refine V_callS C [.int (nI ea), .int (nI 0), .int (nI 500)] dX6_addStandard_5 m_X6_isWithin k_X6_isWithin tw_102 rfl rfl (Nat.le_of_ble_eq_true rfl) ⟨by omega, by omega, by omega, by omega⟩ (c_isWithin hl (by omega) (nI ea) (nI 0) (nI 500)) (kr_some (x := .int (nI (inR (nI ea) (nI 0) (nI 500)))) ?_) kx_no
  refine V_ifn_eq (tgt := 59) C dX6_addStandard_8 (by decide) (by omega) (fun hb1 => by exfalso; exact g_ea hb1) (fun hb1 => ?_)
  refine V_iload_n C dX6_addStandard_11 2 rfl ?_
  refine V_iconst (v := nI 1) C dX6_addStandard_12 (by decide) ?_
  refine V_sipush (v := nI 1000) C dX6_addStandard_13 (by decide) ?_
  have hin16 := inR_le (nI li) (nI 1) (nI 1000)
  refine V_callS C [.int (nI li), .int (nI 1), .int (nI 1000)] dX6_addStandard_16 m_X6_isWithin k_X6_isWithin tw_102 rfl rfl (Nat.le_of_ble_eq_true rfl) ⟨by omega, by omega, by omega, by omega⟩ (c_isWithin hl (by omega) (nI li) (nI 1) (nI 1000)) (kr_some (x := .int (nI (inR (nI li) (nI 1) (nI 1000)))) ?_) kx_no
  refine V_ifn_eq (tgt := 59) C dX6_addStandard_19 (by decide) (by omega) (fun hb2 => by exfalso; exact g_li hb2) (fun hb2 => ?_)
  refine V_iload_n C dX6_addStandard_22 3 rfl ?_
  refine V_iconst (v := nI 0) C dX6_addStandard_23 (by decide) ?_
  refine V_bipush (v := nI 99) C dX6_addStandard_24 (by decide) ?_
  have hin26 := inR_le (nI mo) (nI 0) (nI 99)
  refine V_callS C [.int (nI mo), .int (nI 0), .int (nI 99)] dX6_addStandard_26 m_X6_isWithin k_X6_isWithin tw_102 rfl rfl (Nat.le_of_ble_eq_true rfl) ⟨by omega, by omega, by omega, by omega⟩ (c_isWithin hl (by omega) (nI mo) (nI 0) (nI 99)) (kr_some (x := .int (nI (inR (nI mo) (nI 0) (nI 99)))) ?_) kx_no
  refine V_ifn_eq (tgt := 59) C dX6_addStandard_29 (by decide) (by omega) (fun hb3 => by exfalso; exact g_mo hb3) (fun hb3 => ?_)
  refine V_iload C dX6_addStandard_32 4 rfl ?_
  refine V_iconst (v := nI 0) C dX6_addStandard_34 (by decide) ?_
  refine V_sipush (v := nI 3000) C dX6_addStandard_35 (by decide) ?_
  have hin38 := inR_le (nI lt) (nI 0) (nI 3000)
  refine V_callS C [.int (nI lt), .int (nI 0), .int (nI 3000)] dX6_addStandard_38 m_X6_isWithin k_X6_isWithin tw_102 rfl rfl (Nat.le_of_ble_eq_true rfl) ⟨by omega, by omega, by omega, by omega⟩ (c_isWithin hl (by omega) (nI lt) (nI 0) (nI 3000)) (kr_some (x := .int (nI (inR (nI lt) (nI 0) (nI 3000)))) ?_) kx_no
  refine V_ifn_eq (tgt := 59) C dX6_addStandard_41 (by decide) (by omega) (fun hb4 => by exfalso; exact g_lt hb4) (fun hb4 => ?_)
  refine V_iload C dX6_addStandard_44 5 rfl ?_
  refine V_iconst (v := nI 1) C dX6_addStandard_46 (by decide) ?_
  refine V_bipush (v := nI 100) C dX6_addStandard_47 (by decide) ?_
  have hin49 := inR_le (nI dy) (nI 1) (nI 100)
  refine V_callS C [.int (nI dy), .int (nI 1), .int (nI 100)] dX6_addStandard_49 m_X6_isWithin k_X6_isWithin tw_102 rfl rfl (Nat.le_of_ble_eq_true rfl) ⟨by omega, by omega, by omega, by omega⟩ (c_isWithin hl (by omega) (nI dy) (nI 1) (nI 100)) (kr_some (x := .int (nI (inR (nI dy) (nI 1) (nI 100)))) ?_) kx_no
  refine V_ifn_eq (tgt := 59) C dX6_addStandard_52 (by decide) (by omega) (fun hb5 => by exfalso; exact g_dy hb5) (fun hb5 => ?_)
  refine V_iconst (v := nI 1) C dX6_addStandard_55 (by decide) ?_
  refine V_goto (tgt := 60) C dX6_addStandard_56 (by decide) ?_
  refine V_istore C [(6, .int (nI 1)), (0, .ref (ad [i])), (1, .int (nI ea)), (2, .int (nI li)), (3, .int (nI mo)), (4, .int (nI lt)), (5, .int (nI dy))] dX6_addStandard_60 (by decide) rfl ?_
  refine V_iload C dX6_addStandard_62 0 rfl ?_
  refine V_ifn_ne (tgt := 77) C dX6_addStandard_64 (by decide) (by decide) (fun hb6 => ?_) (fun hb6 => by exfalso; omega)
  refine V_aload_n C dX6_addStandard_77 1 rfl ?_
  refine V_get (ci := 5) (k := 3) C dX6_addStandard_78 RX6 RX6 TX6 8 fw_X6 rfl (by decide) tw_73 rfl rfl PW_b rfl ?_
  refine V_aload_n C dX6_addStandard_81 1 rfl ?_
  refine V_get (ci := 5) (k := 1) C dX6_addStandard_82 RX6 RX6 TX6 8 fw_X6 rfl (by decide) tw_71 rfl rfl PW_b rfl ?_
  refine V_alen (v := nI 5) C dX6_addStandard_85 rfl PW_sr rfl ?_
  refine V_icmpn_lt (tgt := 99) C dX6_addStandard_86 (by decide) (by omega) (by decide) (fun hb7 => ?_) (fun hb7 => by exfalso; omega)
  refine V_aload_n C dX6_addStandard_99 1 rfl ?_
  refine V_get (ci := 5) (k := 3) C dX6_addStandard_100 RX6 RX6 TX6 8 fw_X6 rfl (by decide) tw_73 rfl rfl PW_b rfl ?_
  refine V_istore C [(7, .int (nI (cK σ))), (6, .int (nI 1)), (0, .ref (ad [i])), (1, .int (nI ea)), (2, .int (nI li)), (3, .int (nI mo)), (4, .int (nI lt)), (5, .int (nI dy))] dX6_addStandard_103 (by decide) rfl ?_
  refine V_aload_n C dX6_addStandard_105 2 rfl ?_
  refine V_get (ci := 5) (k := 1) C dX6_addStandard_106 RX6 RX6 TX6 8 fw_X6 rfl (by decide) tw_71 rfl rfl PW_b rfl ?_
  refine V_iload C dX6_addStandard_109 0 rfl ?_
  refine V_new (ci := 2) (fs := [.int 0, .int 0, .int 0, .int 0, .int 0]) C ([i, 9, cK σ]) dX6_addStandard_111 RX3 TX3 5 tyX3 tyX3_ok fw_X3 rfl tw_27 tw_408 tw_14 (fun j hj => by rcases (show j = 0 ∨ j = 1 ∨ j = 2 ∨ j = 3 ∨ j = 4 by omega) with rfl | rfl | rfl | rfl | rfl <;> rfl) (PW_df (Nat.le_refl _)) (by omega) (by omega) (fun q1 => ?_)
  refine V_dup C dX6_addStandard_114 rfl ?_
  refine V_iload_n C dX6_addStandard_115 3 rfl ?_
  refine V_iload_n C dX6_addStandard_116 4 rfl ?_
  refine V_iload_n C dX6_addStandard_117 5 rfl ?_
  refine V_iload C dX6_addStandard_118 6 rfl ?_
  refine V_iload C dX6_addStandard_120 7 rfl ?_
  refine V_callIN C RX6 [.int (nI ea), .int (nI li), .int (nI mo), .int (nI lt), .int (nI dy)] dX6_addStandard_122 m_X3_init k_X3_init tw_578 rfl rfl (Nat.le_of_ble_eq_true rfl) ⟨by omega, by omega, by omega, by omega⟩ (c_dInit' hl (by omega) aset_s.symm wset_s ea li mo lt dy) (kr_none ?_) kx_no
  refine V_wd (w' := wset (PW i ad σ tl t lo o) ([i, 9, cK σ]) (.inr (2, [.int (nI ea), .int (nI li), .int (nI mo), .int (nI lt), .int (nI dy)]))) wset_wset ?_
  refine V_aastn (r := (RX3, TX3, 5)) C dX6_addStandard_125 (aset_n (by simp)).symm ((wset_n (by simp)).trans PW_sr) aset_s.symm wset_s rfl (by omega) (by decide) ?_
  refine V_wd (w' := wset (wset (PW i ad σ tl t lo o) ([i, 9, cK σ]) (.inr (2, [.int (nI ea), .int (nI li), .int (nI mo), .int (nI lt), .int (nI dy)]))) ([i, 2]) (eQ RX3 5 (va_up (adN (cK σ) (fun j => ad [i, 9, j])) (cK σ) (some q1)))) rfl ?_
  refine V_aload_n C dX6_addStandard_126 2 rfl ?_
  refine V_dup C dX6_addStandard_127 rfl ?_
  refine V_get (ci := 5) (k := 3) C dX6_addStandard_128 RX6 RX6 TX6 8 fw_X6 rfl (by decide) tw_73 rfl (aset_n (by simp)).symm ((wset_n (by simp)).trans ((wset_n (by simp)).trans PW_b)) rfl ?_
  refine V_iconst (v := nI 1) C dX6_addStandard_131 (by decide) ?_
  refine V_iaddn C dX6_addStandard_132 ?_
  refine V_put (ci := 5) (k := 3) C dX6_addStandard_133 RX6 RX6 TX6 8 tyX6 tyX6_ok nmX6 fw_X6 rfl (by decide) tw_73 rfl (Or.inl rfl) rfl rfl (aset_n (by simp)).symm ((wset_n (by simp)).trans ((wset_n (by simp)).trans PW_b)) (Nat.le_of_ble_eq_true rfl) ?_
  refine V_wd (w' := wset (wset (wset (PW i ad σ tl t lo o) ([i, 9, cK σ]) (.inr (2, [.int (nI ea), .int (nI li), .int (nI mo), .int (nI lt), .int (nI dy)]))) ([i, 2]) (eQ RX3 5 (va_up (adN (cK σ) (fun j => ad [i, 9, j])) (cK σ) (some q1)))) ([i]) (.inr (5, [.ref (ad [i, 1]), .ref (ad [i, 2]), .int (nI (cN σ)), .int (nI ((cK σ) + 1)), .int (cDay σ), .int (cIns σ), .ref (ad [i, 3]), .ref (ad [i, 4])]))) rfl ?_
  refine V_iload C dX6_addStandard_136 0 rfl ?_
  exact V_iret C .int dX6_addStandard_138 hr rfl ⟨rfl, ⟨fun k r hk => by simp [aset, hk], by simp [aset]⟩, _, _, _, PW_addD⟩ (by omega) (by omega)
