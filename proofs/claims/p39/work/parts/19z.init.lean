
abbrev cs0 : CS := (0, 0, 0, 0, fun _ => (0, 0, 0, -1, 0, fun _ => (0, 0)), fun _ => (0, 0, 0, 0, 0))
theorem cs0_ok : cOK cs0 := ⟨by decide, by decide, fun j hj => absurd hj (Nat.not_lt_zero j), fun j hj => absurd hj (Nat.not_lt_zero j)⟩
abbrev keeps (i : Nat) (ad ad' : Adr) : Prop := (∀ k r, k ≠ i → ad' (k :: r) = ad (k :: r)) ∧ ad' [i] = ad [i]
theorem PW_new {i : Nat} {ad : Adr} {o : Wd} {q1 q2 q3 q4 q5 : Nat} {E0 E1 E2 E3 E4 : Ent} : wset (wset (wset (wset (wset (wset (wset (wset (wset (wset (wset (put i (fun _ => none) o) [i] E0) [i, 1] (eQ RX0 8 (fun _ => none))) [i] E1) [i, 2] (eQ RX3 5 (fun _ => none))) [i] E2) [i, 3] (.inr (4, [.int 0, .int 0, .int 0, .int 0, .int 0]))) [i] E3) [i, 4] E4) [i, 5] (eI 501 (fun _ => 0))) [i, 4] (.inr (1, [.ref q5]))) [i] (.inr (5, [.ref q1, .ref q2, .int 0, .int 0, .int 0, .int 0, .ref q3, .ref q4])) = PW i (aset (aset (aset (aset (aset ad [i, 1] q1) [i, 2] q2) [i, 3] q3) [i, 4] q4) [i, 5] q5) cs0 0 (0, 0, 0, 0) (fun _ => 0) o := by
  simp only [put_wset]
  congr 1
  funext L
  rcases L with _ | ⟨c, _ | ⟨j, _ | ⟨k, _ | ⟨x, y⟩⟩⟩⟩
  · simp [wset, WC, aset]; rfl
  · by_cases h1 : c = 1
    · subst h1; simp [wset, WC, aset]; funext j; simp [adN]; exact Nat.zero_le _
    by_cases h2 : c = 2
    · subst h2; simp [wset, WC, aset]; funext j; simp [adN]; exact Nat.zero_le _
    by_cases h3 : c = 3
    · subst h3; simp [wset, WC, aset]
    by_cases h4 : c = 4
    · subst h4; simp [wset, WC, aset]
    by_cases h5 : c = 5
    · subst h5; simp [wset, WC, aset]
    simp [wset, WC, h1, h2, h3, h4, h5]
  · simp [wset, WC, show ∀ j, ¬ j < cN cs0 from fun j => Nat.not_lt_zero j, show ∀ j, ¬ j < cK cs0 from fun j => Nat.not_lt_zero j]
  · have h9 : ¬ (j < cN cs0 ∧ k < hSc (cH cs0 j)) := fun z => absurd z.1 (Nat.not_lt_zero j)
    simp only [wset, WC, if_neg h9]; simp
  · simp [wset, WC]
set_option maxHeartbeats 4000000 in
theorem p_init {l : Launch} {D : va_G} {ba d : Nat} {ad : Adr} (hl : l.stackTraces = false) (hd : 2 ≤ d) {i : Nat} {o : Wd} : CT l yX6_init (wsO yX6_init cX6_init 1 none) d 8 600 D ba [.ref (ad [i])] ad (wset (put i (fun _ => none) o) [i] (.inr (5, [.null, .null, .int 0, .int 0, .int 0, .int 0, .null, .null]))) (fun v ad' w' => v = none ∧ keeps i ad ad' ∧ w' = PW i ad' cs0 0 (0, 0, 0, 0) (fun _ => 0) o) noX := by
  refine CT_of RX6 rfl (by decide +kernel) hl (Nat.le_of_ble_eq_true rfl) ?_
  intro p e s m args below meth c C hr hnm
  refine V_lvE (lv' := [(0, .ref (ad [i]))]) rfl ?_
  refine V_aload_n C dX6_init_0 0 rfl ?_
  refine V_obj C dX6_init_1 tw_22 tw_23 tw_24 (by omega) (by simp [Value.category]; try omega) ?_
  refine V_aload_n C dX6_init_4 0 rfl ?_
  refine V_bipush (v := nI 8) C dX6_init_5 (by decide) ?_
  refine V_newQ (N := 8) C ([i, 1]) RX0 dX6_init_7 tw_25 tw_26 (by decide) (by decide) (by decide) ((wset_n (by simp)).trans put_s) (by omega) (by omega) (fun q1 => ?_)
  refine V_put (ci := 5) (k := 0) C dX6_init_10 RX6 RX6 TX6 8 tyX6 tyX6_ok nmX6 fw_X6 rfl (by decide) tw_70 rfl (Or.inr ⟨rfl, hnm, rfl⟩) rfl rfl (aset_n (by simp)).symm ((wset_n (by simp)).trans wset_s) (Nat.le_of_ble_eq_true rfl) ?_
  refine V_wd (w' := wset (wset (wset (put i (fun _ => none) o) [i] (.inr (5, [.null, .null, .int 0, .int 0, .int 0, .int 0, .null, .null]))) ([i, 1]) (eQ RX0 8 (fun _ => none))) ([i]) (.inr (5, [.ref q1, .null, .int 0, .int 0, .int 0, .int 0, .null, .null]))) rfl ?_
  refine V_aload_n C dX6_init_13 0 rfl ?_
  refine V_iconst (v := nI 5) C dX6_init_14 (by decide) ?_
  refine V_newQ (N := 5) C ([i, 2]) RX3 dX6_init_15 tw_27 tw_28 (by decide) (by decide) (by decide) ((wset_n (by simp)).trans ((wset_n (by simp)).trans ((wset_n (by simp)).trans put_s))) (by omega) (by omega) (fun q2 => ?_)
  refine V_put (ci := 5) (k := 1) C dX6_init_18 RX6 RX6 TX6 8 tyX6 tyX6_ok nmX6 fw_X6 rfl (by decide) tw_71 rfl (Or.inr ⟨rfl, hnm, rfl⟩) rfl rfl ((aset_n (by simp)).symm.trans (aset_n (by simp)).symm) ((wset_n (by simp)).trans wset_s) (Nat.le_of_ble_eq_true rfl) ?_
  refine V_wd (w' := wset (wset (wset (wset (wset (put i (fun _ => none) o) [i] (.inr (5, [.null, .null, .int 0, .int 0, .int 0, .int 0, .null, .null]))) ([i, 1]) (eQ RX0 8 (fun _ => none))) ([i]) (.inr (5, [.ref q1, .null, .int 0, .int 0, .int 0, .int 0, .null, .null]))) ([i, 2]) (eQ RX3 5 (fun _ => none))) ([i]) (.inr (5, [.ref q1, .ref q2, .int 0, .int 0, .int 0, .int 0, .null, .null]))) rfl ?_
  refine V_aload_n C dX6_init_21 0 rfl ?_
  refine V_new (ci := 4) (fs := [.int 0, .int 0, .int 0, .int 0, .int 0]) C ([i, 3]) dX6_init_22 RX5 TX5 5 tyX5 tyX5_ok fw_X5 rfl tw_29 tw_30 tw_2 (fun j hj => by rcases (show j = 0 ∨ j = 1 ∨ j = 2 ∨ j = 3 ∨ j = 4 by omega) with rfl | rfl | rfl | rfl | rfl <;> rfl) ((wset_n (by simp)).trans ((wset_n (by simp)).trans ((wset_n (by simp)).trans ((wset_n (by simp)).trans ((wset_n (by simp)).trans put_s))))) (by omega) (by omega) (fun q3 => ?_)
  refine V_dup C dX6_init_25 rfl ?_
  refine V_callIN C RX6 [] dX6_init_26 m_X5_init k_X5_init tw_31 rfl rfl (Nat.le_of_ble_eq_true rfl) ⟨by omega, by omega, by omega, by omega⟩ (c_tInit hl (by omega) q3) (kr_none ?_) kx_no
  refine V_put (ci := 5) (k := 6) C dX6_init_29 RX6 RX6 TX6 8 tyX6 tyX6_ok nmX6 fw_X6 rfl (by decide) tw_76 rfl (Or.inr ⟨rfl, hnm, rfl⟩) rfl rfl (((aset_n (by simp)).symm.trans (aset_n (by simp)).symm).trans (aset_n (by simp)).symm) ((wset_n (by simp)).trans wset_s) (Nat.le_of_ble_eq_true rfl) ?_
  refine V_wd (w' := wset (wset (wset (wset (wset (wset (wset (put i (fun _ => none) o) [i] (.inr (5, [.null, .null, .int 0, .int 0, .int 0, .int 0, .null, .null]))) ([i, 1]) (eQ RX0 8 (fun _ => none))) ([i]) (.inr (5, [.ref q1, .null, .int 0, .int 0, .int 0, .int 0, .null, .null]))) ([i, 2]) (eQ RX3 5 (fun _ => none))) ([i]) (.inr (5, [.ref q1, .ref q2, .int 0, .int 0, .int 0, .int 0, .null, .null]))) ([i, 3]) (.inr (4, [.int 0, .int 0, .int 0, .int 0, .int 0]))) ([i]) (.inr (5, [.ref q1, .ref q2, .int 0, .int 0, .int 0, .int 0, .ref q3, .null]))) rfl ?_
  refine V_aload_n C dX6_init_32 0 rfl ?_
  refine V_new (ci := 1) (fs := [.null]) C ([i, 4]) dX6_init_33 RX2 TX2 1 tyX2 tyX2_ok fw_X2 rfl tw_59 tw_60 tw_3 (fun j hj => by rcases (show j = 0 by omega) with rfl <;> rfl) ((wset_n (by simp)).trans ((wset_n (by simp)).trans ((wset_n (by simp)).trans ((wset_n (by simp)).trans ((wset_n (by simp)).trans ((wset_n (by simp)).trans ((wset_n (by simp)).trans put_s))))))) (by omega) (by omega) (fun q4 => ?_)
  refine V_dup C dX6_init_36 rfl ?_
  refine V_callIN C RX6 [] dX6_init_37 m_X2_init k_X2_init tw_61 rfl rfl (Nat.le_of_ble_eq_true rfl) ⟨by omega, by omega, by omega, by omega⟩ (c_lInit' (LA := [i, 5]) hl (by omega) aset_s.symm wset_s ((wset_n (by simp)).trans ((wset_n (by simp)).trans ((wset_n (by simp)).trans ((wset_n (by simp)).trans ((wset_n (by simp)).trans ((wset_n (by simp)).trans ((wset_n (by simp)).trans ((wset_n (by simp)).trans put_s)))))))) (by simp)) ?_ kx_no
  rintro v2 ad2 w2 ⟨rfl, q5, rfl, rfl⟩
  refine V_stE (st' := [.ref q4, .ref (ad [i])]) rfl ?_
  refine V_put (ci := 5) (k := 7) C dX6_init_40 RX6 RX6 TX6 8 tyX6 tyX6_ok nmX6 fw_X6 rfl (by decide) tw_77 rfl (Or.inr ⟨rfl, hnm, rfl⟩) rfl rfl (((((aset_n (by simp)).symm.trans (aset_n (by simp)).symm).trans (aset_n (by simp)).symm).trans (aset_n (by simp)).symm).trans (aset_n (by simp)).symm) ((wset_n (by simp)).trans ((wset_n (by simp)).trans ((wset_n (by simp)).trans wset_s))) (Nat.le_of_ble_eq_true rfl) ?_
  refine V_wd (w' := wset (wset (wset (wset (wset (wset (wset (wset (wset (wset (wset (put i (fun _ => none) o) [i] (.inr (5, [.null, .null, .int 0, .int 0, .int 0, .int 0, .null, .null]))) ([i, 1]) (eQ RX0 8 (fun _ => none))) ([i]) (.inr (5, [.ref q1, .null, .int 0, .int 0, .int 0, .int 0, .null, .null]))) ([i, 2]) (eQ RX3 5 (fun _ => none))) ([i]) (.inr (5, [.ref q1, .ref q2, .int 0, .int 0, .int 0, .int 0, .null, .null]))) ([i, 3]) (.inr (4, [.int 0, .int 0, .int 0, .int 0, .int 0]))) ([i]) (.inr (5, [.ref q1, .ref q2, .int 0, .int 0, .int 0, .int 0, .ref q3, .null]))) ([i, 4]) (.inr (1, [.null]))) [i, 5] (eI 501 (fun _ => 0))) [i, 4] (.inr (1, [.ref q5]))) ([i]) (.inr (5, [.ref q1, .ref q2, .int 0, .int 0, .int 0, .int 0, .ref q3, .ref q4]))) rfl ?_
  exact V_vret C dX6_init_43 hr ⟨rfl, ⟨fun k r hk => by simp [aset, hk], by simp [aset]⟩, PW_new⟩ (by omega) (by omega)
