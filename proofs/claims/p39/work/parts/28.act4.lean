
set_option maxHeartbeats 4000000 in
theorem lp_copy {p : Program} {l : Launch} {e : Env} {s : State} {m : MethodId} {args : Array Value} {below : List Frame} {meth : Method} {c : Code} {D : va_G} {ba d mc ms : Nat} {ad : Adr} {cells slots : Nat} {Q : State → Prop} (C : Cx p l s m args meth c D ba RL cL_act 19 [] d) (hl : l.stackTraces = false) (hr : meth.sig.returnType = (some .boolean)) (hd : 1 ≤ d) {σ : CS} {tl : Int32} {t : TT} {lo : Nat → Int32} (hσ : cOK σ) {x : Int32} {so : Nat} : ∀ (n : Nat) (k : Nat), k + n = cN σ → V p l e s m args below meth c D ba d mc ms Q 19 ad (wset (LSW ad σ σ tl t lo) [2, 9] (eQ RX7 (cN σ + 1) (adN (cN σ) (fun j => ad [2, 3, j])))) 70 [(5, .ref (ad [2, 9])), (0, .ref (ad [0])), (1, .ref (ad [2])), (2, .int x), (3, .int (nI (cN σ))), (4, .int (nI so))] [] cells slots → V p l e s m args below meth c D ba d mc ms Q 19 ad (wset (LSW ad σ σ tl t lo) [2, 9] (eQ RX7 (cN σ + 1) (adN k (fun j => ad [2, 3, j])))) 46 [(6, .int (nI k)), (5, .ref (ad [2, 9])), (0, .ref (ad [0])), (1, .ref (ad [2])), (2, .int x), (3, .int (nI (cN σ))), (4, .int (nI so))] [] cells slots := by
  intro n
  induction n with
  | zero =>
    intro k hk K
    have hσ1 := hσ.1
    refine V_iload C dL_act_46 0 rfl ?_
    refine V_iload_n C dL_act_48 5 rfl ?_
    refine V_icmpn_ge (tgt := 70) C dL_act_49 (by decide) (by omega) (by omega) (fun hb1 => ?_) (fun hb1 => by exfalso; omega)
    refine V_lv [1, 2, 3, 4, 5, 6] rfl ?_
    refine V_wd (w' := wset (LSW ad σ σ tl t lo) [2, 9] (eQ RX7 (cN σ + 1) (adN (cN σ) (fun j => ad [2, 3, j])))) (by rw [show k = cN σ by omega]) ?_
    exact K
  | succ n ih =>
    intro k hk K
    have hσ1 := hσ.1
    refine V_iload C dL_act_46 0 rfl ?_
    refine V_iload_n C dL_act_48 5 rfl ?_
    refine V_icmpn_ge (tgt := 70) C dL_act_49 (by decide) (by omega) (by omega) (fun hb1 => by exfalso; omega) (fun hb1 => ?_)
    refine V_aload C dL_act_52 1 rfl ?_
    refine V_iload C dL_act_54 0 rfl ?_
    refine V_aload_n C dL_act_56 3 rfl ?_
    refine V_get (ci := 7) (k := 2) C dL_act_57 RX8 RX8 TX8 4 fw_X8 rfl (by decide) tw_648 rfl rfl ((wset_n (by simp)).trans SW_b) rfl ?_
    refine V_iload C dL_act_60 0 rfl ?_
    have hk2 : k < cN σ := by omega
    refine V_aaldn (v := .ref (ad [2, 3, k])) C dL_act_62 rfl ((wset_n (by simp)).trans SW_hr) (by omega) (by omega) (by rw [adN_lt hk2]; rfl) ?_
    refine V_aastn (r := (RX7, TX7, 5)) C dL_act_63 rfl wset_s rfl ((wset_n (by simp)).trans (SW_h hk2)) rfl (by omega) (by omega) ?_
    refine V_wd (w' := wset (wset (LSW ad σ σ tl t lo) [2, 9] (eQ RX7 (cN σ + 1) (adN k (fun j => ad [2, 3, j])))) ([2, 9]) (eQ RX7 (cN σ + 1) (va_up (adN k (fun j => ad [2, 3, j])) k (some (ad [2, 3, k]))))) rfl ?_
    refine V_wd (w' := wset (LSW ad σ σ tl t lo) [2, 9] (eQ RX7 (cN σ + 1) (adN (k + 1) (fun j => ad [2, 3, j])))) (by rw [wset_wset, adN_up rfl]) ?_
    refine V_iincn C [(6, .int (nI (k + 1))), (5, .ref (ad [2, 9])), (0, .ref (ad [0])), (1, .ref (ad [2])), (2, .int x), (3, .int (nI (cN σ))), (4, .int (nI so))] dL_act_64 0 rfl (by decide) rfl ?_
    refine V_goto (tgt := 46) C dL_act_67 (by decide) ?_
    refine V_lv [0, 1, 2, 3, 4, 5, 6] rfl ?_
    exact ih (k + 1) (by omega) K
set_option maxHeartbeats 4000000 in
theorem act_hall2 {p : Program} {l : Launch} {e : Env} {s : State} {m : MethodId} {args : Array Value} {below : List Frame} {meth : Method} {c : Code} {D : va_G} {ba d mc ms : Nat} {ad : Adr} {cells slots : Nat} {QR : Option Value → Adr → Wd → Prop} {QX : String → Adr → Wd → Prop} (C : Cx p l s m args meth c D ba RL cL_act 19 [] d) (hl : l.stackTraces = false) (hr : meth.sig.returnType = (some .boolean)) (hd : 10 ≤ d) {σ : CS} {tl : Int32} {t : TT} {lo : Nat → Int32} (hσ : cOK σ) (hI0 : cI σ) (hcm : cells + 30 ≤ mc) (hsm : slots + 200 ≤ ms) {x : Int32} {so : Nat} (hq : ∀ ad' σ tl t lo, (ad' [0] = ad [0] ∧ ad' [2] = ad [2]) → IV σ → 1 ≤ cN σ → QR (some (.int (nI 1))) ad' (LW ad' σ σ tl t lo)) (h8 : cN σ < 8)  : V p l e s m args below meth c D ba d mc ms (MO D ba QR QX below args s mc ms) 19 ad (wset (LSW ad σ σ tl t lo) [2, 9] (eQ RX7 (cN σ + 1) (adN (cN σ) (fun j => ad [2, 3, j])))) 70 [(5, .ref (ad [2, 9])), (0, .ref (ad [0])), (1, .ref (ad [2])), (2, .int x), (3, .int (nI (cN σ))), (4, .int (nI so))] [] cells slots := by
  have hσ1 := hσ.1
  have hσ2 := hσ.2.1
  refine V_aload C dL_act_70 0 rfl ?_
  refine V_iload_n C dL_act_72 4 rfl ?_
  refine V_new (ci := 6) (fs := [.null, .int 0, .int 0, .int 0, .int 0]) C [2, 3, cN σ] dL_act_73 RX7 TX7 5 tyX7 tyX7_ok fw_X7 rfl tw_519 tw_521 tw_5 (fun j hj => by rcases (show j = 0 ∨ j = 1 ∨ j = 2 ∨ j = 3 ∨ j = 4 by omega) with rfl | rfl | rfl | rfl | rfl <;> rfl) ((wset_n (by simp)).trans (SW_hf (Nat.le_refl _))) (by omega) (by omega) (fun q3 => ?_)
  have hq3 : q3 = aset ad [2, 3, cN σ] q3 [2, 3, cN σ] := aset_s.symm
  refine V_dup C dL_act_76 rfl ?_
  refine V_stE (st' := [.ref (aset ad [2, 3, cN σ] q3 [2, 3, cN σ]), .ref q3, .int (nI (cN σ)), .ref (ad [2, 9])]) (by rw [← hq3]) ?_
  refine V_callIN C RL [] dL_act_77 m_X7_init k_X7_init tw_522 rfl rfl (Nat.le_of_ble_eq_true rfl) ⟨by omega, by omega, by omega, by omega⟩ (s_hInit (ad := aset ad [2, 3, cN σ] q3) (LH := [2, 3, cN σ]) (LS := [2, 5, cN σ]) hl (by omega) wset_s ((wset_n (by simp)).trans ((wset_n (by simp)).trans (SW_sf (Nat.le_refl _)))) (by simp)) ?_ kx_no
  rintro v5 ad5 w5 ⟨rfl, q5, rfl, rfl⟩
  refine V_stE (st' := [.ref q3, .int (nI (cN σ)), .ref (ad [2, 9])]) rfl ?_
  obtain ⟨ad2, hAad2⟩ : ∃ z, z = aset (aset ad [2, 3, cN σ] q3) [2, 5, cN σ] q5 := ⟨_, rfl⟩
  rw [← hAad2]
  have hx9 : ad [2, 9] = ad2 [2, 9] := by rw [hAad2]; simp [aset]
  have hx2 : ad [2] = ad2 [2] := by rw [hAad2]; simp [aset]
  have hx3 : q3 = ad2 [2, 3, cN σ] := by rw [hAad2]; simp [aset]
  refine V_wd (w' := wset (wset (wset (wset (LSW ad σ σ tl t lo) [2, 9] (eQ RX7 (cN σ + 1) (adN (cN σ) (fun j => ad [2, 3, j])))) [2, 3, cN σ] (.inr (6, [.null, .int 0, .int 0, .int 0, .int 0]))) [2, 5, cN σ] (eA 0 (fun _ => none))) [2, 3, cN σ] (eLH q5 0 0 (-1) 0)) rfl ?_
  refine V_aastn (r := (RX7, TX7, 5)) C dL_act_80 hx9 ((wset_n (by simp)).trans ((wset_n (by simp)).trans ((wset_n (by simp)).trans wset_s))) hx3 wset_s rfl (by omega) (by omega) ?_
  refine V_wd (w' := wset (wset (wset (wset (wset (LSW ad σ σ tl t lo) [2, 9] (eQ RX7 (cN σ + 1) (adN (cN σ) (fun j => ad [2, 3, j])))) [2, 3, cN σ] (.inr (6, [.null, .int 0, .int 0, .int 0, .int 0]))) [2, 5, cN σ] (eA 0 (fun _ => none))) [2, 3, cN σ] (eLH q5 0 0 (-1) 0)) ([2, 9]) (eQ RX7 (cN σ + 1) (va_up (adN (cN σ) (fun j => ad [2, 3, j])) (cN σ) (some q3)))) rfl ?_
  refine V_aload C dL_act_81 0 rfl ?_
  refine V_iload_n C dL_act_83 4 rfl ?_
  refine V_aaldn (v := .ref q3) C dL_act_84 hx9 wset_s (by omega) (by omega) (by unfold va_up; rw [if_pos rfl]; rfl) ?_
  refine V_iload_n C dL_act_85 3 rfl ?_
  refine V_iconst (v := nI 1) C dL_act_86 (by decide) ?_
  refine V_ishrn C dL_act_87 ?_
  refine V_bipush (v := nI 91) C dL_act_88 (by decide) ?_
  have hbl90 := bl_lt (v := (sh x 1)) (n := 91) (by omega)
  refine V_callS C [.int (sh x 1), .int (nI 91)] dL_act_90 m_L_below k_L_below tw_508 rfl rfl (Nat.le_of_ble_eq_true rfl) ⟨by omega, by omega, by omega, by omega⟩ (s_below hl (by omega) (sh x 1) (by omega) (by omega)) (kr_some (x := .int (nI (bl (sh x 1) 91))) ?_) kx_no
  refine V_put (ci := 6) (k := 1) C dL_act_93 RX7 RX7 TX7 5 tyX7 tyX7_ok nmX7 fw_X7 rfl (by decide) tw_531 rfl (Or.inl rfl) rfl rfl hx3 ((wset_n (by simp)).trans wset_s) (Nat.le_of_ble_eq_true rfl) ?_
  refine V_wd (w' := wset (wset (wset (wset (wset (wset (LSW ad σ σ tl t lo) [2, 9] (eQ RX7 (cN σ + 1) (adN (cN σ) (fun j => ad [2, 3, j])))) [2, 3, cN σ] (.inr (6, [.null, .int 0, .int 0, .int 0, .int 0]))) [2, 5, cN σ] (eA 0 (fun _ => none))) [2, 3, cN σ] (eLH q5 0 0 (-1) 0)) ([2, 9]) (eQ RX7 (cN σ + 1) (va_up (adN (cN σ) (fun j => ad [2, 3, j])) (cN σ) (some q3)))) ([2, 3, cN σ]) (.inr (6, [.ref q5, .int (nI (bl (sh x 1) 91)), .int (nI 0), .int (-1), .int (nI 0)]))) rfl ?_
  refine V_aload_n C dL_act_96 2 rfl ?_
  refine V_aload C dL_act_97 0 rfl ?_
  refine V_put (ci := 7) (k := 2) C dL_act_99 RX8 RX8 TX8 4 tyX8 tyX8_ok nmX8 fw_X8 rfl (by decide) tw_648 rfl (Or.inl rfl) rfl rfl hx2 ((wset_n (by simp)).trans ((wset_n (by simp)).trans ((wset_n (by simp)).trans ((wset_n (by simp)).trans ((wset_n (by simp)).trans ((wset_n (by simp)).trans SW_b)))))) (Nat.le_of_ble_eq_true rfl) ?_
  refine V_wd (w' := wset (wset (wset (wset (wset (wset (wset (LSW ad σ σ tl t lo) [2, 9] (eQ RX7 (cN σ + 1) (adN (cN σ) (fun j => ad [2, 3, j])))) [2, 3, cN σ] (.inr (6, [.null, .int 0, .int 0, .int 0, .int 0]))) [2, 5, cN σ] (eA 0 (fun _ => none))) [2, 3, cN σ] (eLH q5 0 0 (-1) 0)) ([2, 9]) (eQ RX7 (cN σ + 1) (va_up (adN (cN σ) (fun j => ad [2, 3, j])) (cN σ) (some q3)))) ([2, 3, cN σ]) (.inr (6, [.ref q5, .int (nI (bl (sh x 1) 91)), .int (nI 0), .int (-1), .int (nI 0)]))) ([2]) (.inr (7, [.int (cDay σ), .int (cIns σ), .ref (ad [2, 9]), .ref (ad [2, 2])]))) rfl ?_
  refine V_ren (A := [2, 1]) (B := [2, 9]) (by decide) ?_
  obtain ⟨ad3, hAad3⟩ : ∃ z, z = aset ad2 [2, 1] (ad2 [2, 9]) := ⟨_, rfl⟩
  rw [← hAad3]
  refine V_wd (w' := LSW ad3 σ (addH σ (bl (sh x 1) 91)) tl t lo) (by rw [hAad3, hAad2]; exact LSW_addH rfl) ?_
  refine V_lvE (lv' := [(5, .ref (ad3 [2, 1])), (0, .ref (ad3 [0])), (1, .ref (ad3 [2])), (2, .int x), (3, .int (nI (cN σ))), (4, .int (nI so))]) (by rw [hAad3, hAad2]; simp [aset]) ?_
  have hrow : cH (addH σ (bl (sh x 1) 91)) (cN σ) = (0, (bl (sh x 1) 91), 0, -1, 0, fun _ => (0, 0)) := fup_s
  refine V_aload_n C dL_act_102 1 rfl ?_
  refine V_aload C dL_act_103 0 rfl ?_
  refine V_iload_n C dL_act_105 4 rfl ?_
  refine V_aaldn (v := .ref (ad3 [2, 3, cN σ])) C dL_act_106 rfl (SW_hr (σ := addH σ (bl (sh x 1) 91))) (Nat.lt_succ_self _) (by show cN σ + 1 < _; omega) (by rw [adN_lt (Nat.lt_succ_self _)]; rfl) ?_
  refine V_get (ci := 6) (k := 1) C dL_act_107 RX7 RX7 TX7 5 fw_X7 rfl (by decide) tw_531 rfl rfl ((SW_h (σ := addH σ (bl (sh x 1) 91)) (Nat.lt_succ_self _)).trans (by rw [hrow])) rfl ?_
  refine V_wd (w' := LW ad3 σ (addH σ (bl (sh x 1) 91)) tl t lo) LW_LS.symm ?_
  refine V_callV (r := (RX6, TX6, 8)) C [.int (nI (bl (sh x 1) 91))] dL_act_110 m_X6_addHall k_X6_addHall tw_95 rfl rfl rfl PW_b rfl rfl (Nat.le_of_ble_eq_true rfl) ⟨by omega, by omega, by omega, by omega⟩ (p_addHall (i := 0) hl (by omega) hσ (by omega) (inR_ok (by omega) (by omega) (by decide)) h8) (kr_RPa (x := .int (nI (cN σ))) (fun ad4 hK tl t lo => ?_)) kx_no
  refine V_lv [4] rfl ?_
  refine V_wd (w' := LW ad4 (addH σ (bl (sh x 1) 91)) (addH σ (bl (sh x 1) 91)) tl t lo) (LW_a hK) ?_
  refine V_iload_n C dL_act_113 0 rfl ?_
  refine V_icmpn_ne (tgt := 121) C dL_act_114 (by decide) (by omega) (by omega) (fun hb1 => by exfalso; omega) (fun hb1 => ?_)
  refine V_iconst (v := nI 1) C dL_act_117 (by decide) ?_
  refine V_goto (tgt := 122) C dL_act_118 (by decide) ?_
  exact V_iret C .boolean dL_act_122 hr rfl (hq _ _ _ _ _ ⟨hK.2.trans (by rw [hAad3, hAad2]; simp [aset]), (hK.1 2 [] (by decide)).trans (by rw [hAad3, hAad2]; simp [aset])⟩ (addH_ok hσ hI0 h8 (by omega)) (Nat.le_add_left 1 _)) (by omega) (by omega)
set_option maxHeartbeats 4000000 in
theorem act_hall {p : Program} {l : Launch} {e : Env} {s : State} {m : MethodId} {args : Array Value} {below : List Frame} {meth : Method} {c : Code} {D : va_G} {ba d mc ms : Nat} {ad : Adr} {cells slots : Nat} {QR : Option Value → Adr → Wd → Prop} {QX : String → Adr → Wd → Prop} (C : Cx p l s m args meth c D ba RL cL_act 19 [] d) (hl : l.stackTraces = false) (hr : meth.sig.returnType = (some .boolean)) (hd : 10 ≤ d) {σ : CS} {tl : Int32} {t : TT} {lo : Nat → Int32} (hσ : cOK σ) (hI0 : cI σ) (hcm : cells + 32 ≤ mc) (hsm : slots + 220 ≤ ms) {x : Int32} {so : Nat} (hq : ∀ ad' σ tl t lo, (ad' [0] = ad [0] ∧ ad' [2] = ad [2]) → IV σ → 1 ≤ cN σ → QR (some (.int (nI 1))) ad' (LW ad' σ σ tl t lo))  : V p l e s m args below meth c D ba d mc ms (MO D ba QR QX below args s mc ms) 19 ad (LSW ad σ σ tl t lo) 27 [(0, .ref (ad [0])), (1, .ref (ad [2])), (2, .int x), (3, .int (nI (cN σ))), (4, .int (nI so))] [] cells slots := by
  have hσ1 := hσ.1
  have hσ2 := hσ.2.1
  refine V_iload_n C dL_act_27 3 rfl ?_
  refine V_bipush (v := nI 8) C dL_act_28 (by decide) ?_
  refine V_icmpn_ne (tgt := 35) C dL_act_30 (by decide) (by omega) (by decide) (fun hb1 => ?_) (fun hb1 => ?_)
  · skip
    refine V_iload_n C dL_act_35 3 rfl ?_
    refine V_iconst (v := nI 1) C dL_act_36 (by decide) ?_
    refine V_iaddn C dL_act_37 ?_
    have h8 : cN σ < 8 := by omega
    refine V_newQn (N := cN σ + 1) C [2, 9] RX7 dL_act_38 tw_519 tw_520 (by omega) SW_9 (by omega) (by omega) (fun q => ?_)
    have hq5 : q = aset ad [2, 9] q [2, 9] := aset_s.symm
    refine V_stE (st' := [.ref (aset ad [2, 9] q [2, 9])]) (by rw [← hq5]) ?_
    obtain ⟨ad1, hAad1⟩ : ∃ z, z = aset ad [2, 9] q := ⟨_, rfl⟩
    rw [← hAad1]
    refine V_wd (w' := wset (LSW ad1 σ σ tl t lo) [2, 9] (eQ RX7 (cN σ + 1) (adN 0 (fun j => ad1 [2, 3, j])))) (by rw [hAad1]; exact (by rw [LSW_ad9]; congr 1)) ?_
    refine V_lvE (lv' := [(0, .ref (ad1 [0])), (1, .ref (ad1 [2])), (2, .int x), (3, .int (nI (cN σ))), (4, .int (nI so))]) (by first | rfl | (rw [hAad1]; done) | (rw [hAad1]; simp [aset])) ?_
    refine V_stE (st' := [.ref (ad1 [2, 9])]) (by first | rfl | (rw [hAad1]; done) | (rw [hAad1]; simp [aset])) ?_
    refine V_astore C [(5, .ref (ad1 [2, 9])), (0, .ref (ad1 [0])), (1, .ref (ad1 [2])), (2, .int x), (3, .int (nI (cN σ))), (4, .int (nI so))] dL_act_41 (by decide) rfl ?_
    refine V_iconst (v := nI 0) C dL_act_43 (by decide) ?_
    refine V_istore C [(6, .int (nI 0)), (5, .ref (ad1 [2, 9])), (0, .ref (ad1 [0])), (1, .ref (ad1 [2])), (2, .int x), (3, .int (nI (cN σ))), (4, .int (nI so))] dL_act_44 (by decide) rfl ?_
    refine V_lv [0, 1, 2, 3, 4, 5, 6] rfl ?_
    refine lp_copy C hl hr (by omega) hσ (cN σ) 0 (by omega) ?_
    exact act_hall2 C hl hr (by omega) hσ hI0 (by omega) (by omega) (keep_t ⟨by rw [hAad1]; simp [aset], by rw [hAad1]; simp [aset]⟩ hq) h8
  · skip
    refine V_wd (w' := LW ad σ σ tl t lo) LW_LS.symm ?_
    refine V_iconst (v := nI 1) C dL_act_33 (by decide) ?_
    exact V_iret C .boolean dL_act_34 hr rfl (hq _ _ _ _ _ ⟨rfl, rfl⟩ ⟨hσ, hI0⟩ (by omega)) (by omega) (by omega)
set_option maxHeartbeats 4000000 in
theorem s_act {l : Launch} {D : va_G} {ba d : Nat} {ad : Adr} (hl : l.stackTraces = false) (hd : 10 ≤ d) {σ : CS} {tl : Int32} {t : TT} {lo : Nat → Int32} (hσ : cOK σ) (hI0 : cI σ) (x : Int32)  : CT l yL_act (wsO yL_act cL_act 19 (some .boolean)) d 40 300 D ba [.ref (ad [0]), .ref (ad [2]), .int x] ad (LW ad σ σ tl t lo) (AR ad) noX := by
  refine CT_of RL rfl (by decide +kernel) hl (Nat.le_of_ble_eq_true rfl) ?_
  intro p e s m args below meth c C hr hnm
  refine V_lvE (lv' := [(0, .ref (ad [0])), (1, .ref (ad [2])), (2, .int x)]) rfl ?_
  have hσ1 := hσ.1
  have hσ2 := hσ.2.1
  refine V_wd (w' := LSW ad σ σ tl t lo) LW_LS ?_
  refine V_aload_n C dL_act_0 1 rfl ?_
  refine V_get (ci := 7) (k := 2) C dL_act_1 RX8 RX8 TX8 4 fw_X8 rfl (by decide) tw_648 rfl rfl SW_b rfl ?_
  refine V_alen (v := nI (cN σ)) C dL_act_4 rfl SW_hr rfl ?_
  refine V_istore_n C [(3, .int (nI (cN σ))), (0, .ref (ad [0])), (1, .ref (ad [2])), (2, .int x)] dL_act_5 (by decide) rfl ?_
  refine V_iload_n C dL_act_6 3 rfl ?_
  refine V_bipush (v := nI 9) C dL_act_7 (by decide) ?_
  refine V_ishrn C dL_act_9 ?_
  refine V_bipush (v := nI 20) C dL_act_10 (by decide) ?_
  have hbl12 := bl_lt (v := (sh x 9)) (n := 20) (by omega)
  refine V_callS C [.int (sh x 9), .int (nI 20)] dL_act_12 m_L_below k_L_below tw_508 rfl rfl (Nat.le_of_ble_eq_true rfl) ⟨by omega, by omega, by omega, by omega⟩ (s_below hl (by omega) (sh x 9) (by omega) (by omega)) (kr_some (x := .int (nI (bl (sh x 9) 20))) ?_) kx_no
  obtain ⟨so, hso⟩ : ∃ z, z = bl (sh x 9) 20 := ⟨_, rfl⟩
  have hso2 : so < 20 := by rw [hso]; exact hbl12
  rw [← hso]
  refine V_istore C [(4, .int (nI so)), (3, .int (nI (cN σ))), (0, .ref (ad [0])), (1, .ref (ad [2])), (2, .int x)] dL_act_15 (by decide) rfl ?_
  refine V_iload_n C dL_act_17 1 rfl ?_
  refine V_ifn_eq (tgt := 27) C dL_act_18 (by decide) (by omega) (fun hb1 => ?_) (fun hb1 => ?_)
  · skip
    refine V_lv [2, 3, 4, 1, 0] rfl ?_
    exact act_hall C hl hr (by omega) hσ hI0 (by omega) (by omega) (fun ad' σ tl t lo hk hI hn => ⟨rfl, hk, σ, tl, t, lo, ⟨hI, hn⟩, rfl⟩)
  · skip
    refine V_iload C dL_act_21 0 rfl ?_
    refine V_iconst (v := nI 2) C dL_act_23 (by decide) ?_
    refine V_icmpn_ge (tgt := 123) C dL_act_24 (by decide) (by omega) (by decide) (fun hb2 => ?_) (fun hb2 => ?_)
    · skip
      refine V_iload_n C dL_act_123 4 rfl ?_
      refine V_iconst (v := nI 1) C dL_act_124 (by decide) ?_
      refine V_ishrn C dL_act_125 ?_
      refine V_iload_n C dL_act_126 1 rfl ?_
      have hbl127 := bl_lt (v := (sh x 1)) (n := (cN σ)) (by omega)
      refine V_callS C [.int (sh x 1), .int (nI (cN σ))] dL_act_127 m_L_below k_L_below tw_508 rfl rfl (Nat.le_of_ble_eq_true rfl) ⟨by omega, by omega, by omega, by omega⟩ (s_below hl (by omega) (sh x 1) (by omega) (by omega)) (kr_some (x := .int (nI (bl (sh x 1) (cN σ)))) ?_) kx_no
      obtain ⟨j, hj0⟩ : ∃ z, z = bl (sh x 1) (cN σ) := ⟨_, rfl⟩
      have hj : j < cN σ := by rw [hj0]; exact hbl127
      rw [← hj0]
      have hu := hσ.2.2.1 j hj
      have hu1 := hu.1
      refine V_istore C [(5, .int (nI j)), (4, .int (nI so)), (3, .int (nI (cN σ))), (0, .ref (ad [0])), (1, .ref (ad [2])), (2, .int x)] dL_act_130 (by decide) rfl ?_
      refine V_aload_n C dL_act_132 4 rfl ?_
      refine V_get (ci := 7) (k := 2) C dL_act_133 RX8 RX8 TX8 4 fw_X8 rfl (by decide) tw_648 rfl rfl SW_b rfl ?_
      refine V_iload C dL_act_136 0 rfl ?_
      refine V_aaldn (v := .ref (ad [2, 3, j])) C dL_act_138 rfl SW_hr (by omega) (by omega) (by rw [adN_lt hj]; rfl) ?_
      refine V_astore C [(6, .ref (ad [2, 3, j])), (5, .int (nI j)), (4, .int (nI so)), (3, .int (nI (cN σ))), (0, .ref (ad [0])), (1, .ref (ad [2])), (2, .int x)] dL_act_139 (by decide) rfl ?_
      refine V_aload C dL_act_141 0 rfl ?_
      refine V_get (ci := 6) (k := 0) C dL_act_143 RX7 RX7 TX7 5 fw_X7 rfl (by decide) tw_529 rfl rfl (SW_h hj) rfl ?_
      refine V_alen (v := nI (hSc (cH σ j))) C dL_act_146 rfl (SW_s hj) rfl ?_
      refine V_istore C [(7, .int (nI (hSc (cH σ j)))), (6, .ref (ad [2, 3, j])), (5, .int (nI j)), (4, .int (nI so)), (3, .int (nI (cN σ))), (0, .ref (ad [0])), (1, .ref (ad [2])), (2, .int x)] dL_act_147 (by decide) rfl ?_
      refine V_iload C dL_act_149 3 rfl ?_
      refine V_bipush (v := nI 7) C dL_act_151 (by decide) ?_
      refine V_icmpn_lt (tgt := 168) C dL_act_153 (by decide) (by omega) (by decide) (fun hb3 => ?_) (fun hb3 => ?_)
      · skip
        refine V_lv [0, 1, 2, 5, 6, 7, 4, 3] rfl ?_
        exact act_surf C hl hr (by omega) hσ hI0 (by omega) (by omega) (by omega) (fun ad' σ tl t lo hk hI hn => ⟨rfl, hk, σ, tl, t, lo, ⟨hI, hn⟩, rfl⟩) hj
      · skip
        refine V_iload C dL_act_156 3 rfl ?_
        refine V_bipush (v := nI 9) C dL_act_158 (by decide) ?_
        refine V_icmpn_ge (tgt := 273) C dL_act_160 (by decide) (by omega) (by decide) (fun hb4 => ?_) (fun hb4 => ?_)
        · skip
          refine V_aload_n C dL_act_273 6 rfl ?_
          refine V_get (ci := 7) (k := 3) C dL_act_274 RX8 RX8 TX8 4 fw_X8 rfl (by decide) tw_650 rfl rfl SW_b rfl ?_
          refine V_alen (v := nI (cK σ)) C dL_act_277 rfl SW_rr rfl ?_
          refine V_istore C [(8, .int (nI (cK σ))), (7, .int (nI (hSc (cH σ j)))), (6, .ref (ad [2, 3, j])), (5, .int (nI j)), (4, .int (nI so)), (3, .int (nI (cN σ))), (0, .ref (ad [0])), (1, .ref (ad [2])), (2, .int x)] dL_act_278 (by decide) rfl ?_
          refine V_iload C dL_act_280 4 rfl ?_
          rcases (show so = 7 ∨ so = 8 ∨ so = 9 ∨ so = 10 ∨ so = 11 ∨ so = 12 ∨ so = 13 ∨ so = 14 ∨ so = 15 ∨ so = 16 ∨ so = 17 ∨ 18 ≤ so by omega) with hz | hz | hz | hz | hz | hz | hz | hz | hz | hz | hz | hz
          · skip
            refine V_stE (st' := [.int (nI 7)]) (by rw [hz]) ?_
            refine V_tableIn (tgt := 340) C dL_act_282 (by decide) (by decide) rfl (by decide) ?_
            refine V_lv [0, 1, 2, 3, 6, 7, 8, 5, 4] rfl ?_
            exact act_move C hl hr (by omega) hσ hI0 (by omega) (by omega) (by omega) (fun ad' σ tl t lo hk hI hn => ⟨rfl, hk, σ, tl, t, lo, ⟨hI, hn⟩, rfl⟩) hj (by omega)
          · skip
            refine V_stE (st' := [.int (nI 8)]) (by rw [hz]) ?_
            refine V_tableIn (tgt := 340) C dL_act_282 (by decide) (by decide) rfl (by decide) ?_
            refine V_lv [0, 1, 2, 3, 6, 7, 8, 5, 4] rfl ?_
            exact act_move C hl hr (by omega) hσ hI0 (by omega) (by omega) (by omega) (fun ad' σ tl t lo hk hI hn => ⟨rfl, hk, σ, tl, t, lo, ⟨hI, hn⟩, rfl⟩) hj (by omega)
          · skip
            refine V_stE (st' := [.int (nI 9)]) (by rw [hz]) ?_
            refine V_tableIn (tgt := 411) C dL_act_282 (by decide) (by decide) rfl (by decide) ?_
            refine V_lv [0, 1, 2, 3, 6, 7, 8, 5, 4] rfl ?_
            exact act_damp C hl hr (by omega) hσ hI0 (by omega) (by omega) (by omega) (fun ad' σ tl t lo hk hI hn => ⟨rfl, hk, σ, tl, t, lo, ⟨hI, hn⟩, rfl⟩) hj
          · skip
            refine V_stE (st' := [.int (nI 10)]) (by rw [hz]) ?_
            refine V_tableIn (tgt := 411) C dL_act_282 (by decide) (by decide) rfl (by decide) ?_
            refine V_lv [0, 1, 2, 3, 6, 7, 8, 5, 4] rfl ?_
            exact act_damp C hl hr (by omega) hσ hI0 (by omega) (by omega) (by omega) (fun ad' σ tl t lo hk hI hn => ⟨rfl, hk, σ, tl, t, lo, ⟨hI, hn⟩, rfl⟩) hj
          · skip
            refine V_stE (st' := [.int (nI 11)]) (by rw [hz]) ?_
            refine V_tableIn (tgt := 458) C dL_act_282 (by decide) (by decide) rfl (by decide) ?_
            refine V_lv [0, 1, 2, 3, 6, 7, 8, 5, 4] rfl ?_
            exact act_clean C hl hr (by omega) hσ hI0 (by omega) (by omega) (by omega) (fun ad' σ tl t lo hk hI hn => ⟨rfl, hk, σ, tl, t, lo, ⟨hI, hn⟩, rfl⟩) hj
          · skip
            refine V_stE (st' := [.int (nI 12)]) (by rw [hz]) ?_
            refine V_tableIn (tgt := 488) C dL_act_282 (by decide) (by decide) rfl (by decide) ?_
            refine V_lv [0, 1, 2, 3, 6, 7, 8, 5, 4] rfl ?_
            exact act_std C hl hr (by omega) hσ hI0 (by omega) (by omega) (by omega) (fun ad' σ tl t lo hk hI hn => ⟨rfl, hk, σ, tl, t, lo, ⟨hI, hn⟩, rfl⟩)
          · skip
            refine V_stE (st' := [.int (nI 13)]) (by rw [hz]) ?_
            refine V_tableIn (tgt := 488) C dL_act_282 (by decide) (by decide) rfl (by decide) ?_
            refine V_lv [0, 1, 2, 3, 6, 7, 8, 5, 4] rfl ?_
            exact act_std C hl hr (by omega) hσ hI0 (by omega) (by omega) (by omega) (fun ad' σ tl t lo hk hI hn => ⟨rfl, hk, σ, tl, t, lo, ⟨hI, hn⟩, rfl⟩)
          · skip
            refine V_stE (st' := [.int (nI 14)]) (by rw [hz]) ?_
            refine V_tableIn (tgt := 661) C dL_act_282 (by decide) (by decide) rfl (by decide) ?_
            refine V_lv [0, 1, 2, 3, 6, 7, 8, 5, 4] rfl ?_
            exact act_insp C hl hr (by omega) hσ hI0 (by omega) (by omega) (by omega) (fun ad' σ tl t lo hk hI hn => ⟨rfl, hk, σ, tl, t, lo, ⟨hI, hn⟩, rfl⟩) hj
          · skip
            refine V_stE (st' := [.int (nI 15)]) (by rw [hz]) ?_
            refine V_tableIn (tgt := 661) C dL_act_282 (by decide) (by decide) rfl (by decide) ?_
            refine V_lv [0, 1, 2, 3, 6, 7, 8, 5, 4] rfl ?_
            exact act_insp C hl hr (by omega) hσ hI0 (by omega) (by omega) (by omega) (fun ad' σ tl t lo hk hI hn => ⟨rfl, hk, σ, tl, t, lo, ⟨hI, hn⟩, rfl⟩) hj
          · skip
            refine V_stE (st' := [.int (nI 16)]) (by rw [hz]) ?_
            refine V_tableIn (tgt := 661) C dL_act_282 (by decide) (by decide) rfl (by decide) ?_
            refine V_lv [0, 1, 2, 3, 6, 7, 8, 5, 4] rfl ?_
            exact act_insp C hl hr (by omega) hσ hI0 (by omega) (by omega) (by omega) (fun ad' σ tl t lo hk hI hn => ⟨rfl, hk, σ, tl, t, lo, ⟨hI, hn⟩, rfl⟩) hj
          · skip
            refine V_stE (st' := [.int (nI 17)]) (by rw [hz]) ?_
            refine V_tableIn (tgt := 775) C dL_act_282 (by decide) (by decide) rfl (by decide) ?_
            refine V_lv [0, 1, 2, 3, 6, 7, 8, 5, 4] rfl ?_
            exact act_revoke C hl hr (by omega) hσ hI0 (by omega) (by omega) (by omega) (fun ad' σ tl t lo hk hI hn => ⟨rfl, hk, σ, tl, t, lo, ⟨hI, hn⟩, rfl⟩) hj
          · skip
            refine V_tableOut (tgt := 822) C dL_act_282 (Or.inr (by rw [nI_toInt (by omega)]; omega)) (by decide) ?_
            refine V_lv [0, 1, 2, 3, 6, 7, 8, 5, 4] rfl ?_
            exact act_days C hl hr (by omega) hσ hI0 (by omega) (by omega) (by omega) (fun ad' σ tl t lo hk hI hn => ⟨rfl, hk, σ, tl, t, lo, ⟨hI, hn⟩, rfl⟩) hj
        · skip
          refine V_iload C dL_act_163 0 rfl ?_
          refine V_ifn_ne (tgt := 273) C dL_act_165 (by decide) (by omega) (fun hb5 => ?_) (fun hb5 => ?_)
          · skip
            refine V_aload_n C dL_act_273 6 rfl ?_
            refine V_get (ci := 7) (k := 3) C dL_act_274 RX8 RX8 TX8 4 fw_X8 rfl (by decide) tw_650 rfl rfl SW_b rfl ?_
            refine V_alen (v := nI (cK σ)) C dL_act_277 rfl SW_rr rfl ?_
            refine V_istore C [(8, .int (nI (cK σ))), (7, .int (nI (hSc (cH σ j)))), (6, .ref (ad [2, 3, j])), (5, .int (nI j)), (4, .int (nI so)), (3, .int (nI (cN σ))), (0, .ref (ad [0])), (1, .ref (ad [2])), (2, .int x)] dL_act_278 (by decide) rfl ?_
            refine V_iload C dL_act_280 4 rfl ?_
            rcases (show so = 7 ∨ so = 8 ∨ so = 9 ∨ so = 10 ∨ so = 11 ∨ so = 12 ∨ so = 13 ∨ so = 14 ∨ so = 15 ∨ so = 16 ∨ so = 17 ∨ 18 ≤ so by omega) with hz | hz | hz | hz | hz | hz | hz | hz | hz | hz | hz | hz
            · skip
              refine V_stE (st' := [.int (nI 7)]) (by rw [hz]) ?_
              refine V_tableIn (tgt := 340) C dL_act_282 (by decide) (by decide) rfl (by decide) ?_
              refine V_lv [0, 1, 2, 3, 6, 7, 8, 5, 4] rfl ?_
              exact act_move C hl hr (by omega) hσ hI0 (by omega) (by omega) (by omega) (fun ad' σ tl t lo hk hI hn => ⟨rfl, hk, σ, tl, t, lo, ⟨hI, hn⟩, rfl⟩) hj (by omega)
            · skip
              refine V_stE (st' := [.int (nI 8)]) (by rw [hz]) ?_
              refine V_tableIn (tgt := 340) C dL_act_282 (by decide) (by decide) rfl (by decide) ?_
              refine V_lv [0, 1, 2, 3, 6, 7, 8, 5, 4] rfl ?_
              exact act_move C hl hr (by omega) hσ hI0 (by omega) (by omega) (by omega) (fun ad' σ tl t lo hk hI hn => ⟨rfl, hk, σ, tl, t, lo, ⟨hI, hn⟩, rfl⟩) hj (by omega)
            · skip
              refine V_stE (st' := [.int (nI 9)]) (by rw [hz]) ?_
              refine V_tableIn (tgt := 411) C dL_act_282 (by decide) (by decide) rfl (by decide) ?_
              refine V_lv [0, 1, 2, 3, 6, 7, 8, 5, 4] rfl ?_
              exact act_damp C hl hr (by omega) hσ hI0 (by omega) (by omega) (by omega) (fun ad' σ tl t lo hk hI hn => ⟨rfl, hk, σ, tl, t, lo, ⟨hI, hn⟩, rfl⟩) hj
            · skip
              refine V_stE (st' := [.int (nI 10)]) (by rw [hz]) ?_
              refine V_tableIn (tgt := 411) C dL_act_282 (by decide) (by decide) rfl (by decide) ?_
              refine V_lv [0, 1, 2, 3, 6, 7, 8, 5, 4] rfl ?_
              exact act_damp C hl hr (by omega) hσ hI0 (by omega) (by omega) (by omega) (fun ad' σ tl t lo hk hI hn => ⟨rfl, hk, σ, tl, t, lo, ⟨hI, hn⟩, rfl⟩) hj
            · skip
              refine V_stE (st' := [.int (nI 11)]) (by rw [hz]) ?_
              refine V_tableIn (tgt := 458) C dL_act_282 (by decide) (by decide) rfl (by decide) ?_
              refine V_lv [0, 1, 2, 3, 6, 7, 8, 5, 4] rfl ?_
              exact act_clean C hl hr (by omega) hσ hI0 (by omega) (by omega) (by omega) (fun ad' σ tl t lo hk hI hn => ⟨rfl, hk, σ, tl, t, lo, ⟨hI, hn⟩, rfl⟩) hj
            · skip
              refine V_stE (st' := [.int (nI 12)]) (by rw [hz]) ?_
              refine V_tableIn (tgt := 488) C dL_act_282 (by decide) (by decide) rfl (by decide) ?_
              refine V_lv [0, 1, 2, 3, 6, 7, 8, 5, 4] rfl ?_
              exact act_std C hl hr (by omega) hσ hI0 (by omega) (by omega) (by omega) (fun ad' σ tl t lo hk hI hn => ⟨rfl, hk, σ, tl, t, lo, ⟨hI, hn⟩, rfl⟩)
            · skip
              refine V_stE (st' := [.int (nI 13)]) (by rw [hz]) ?_
              refine V_tableIn (tgt := 488) C dL_act_282 (by decide) (by decide) rfl (by decide) ?_
              refine V_lv [0, 1, 2, 3, 6, 7, 8, 5, 4] rfl ?_
              exact act_std C hl hr (by omega) hσ hI0 (by omega) (by omega) (by omega) (fun ad' σ tl t lo hk hI hn => ⟨rfl, hk, σ, tl, t, lo, ⟨hI, hn⟩, rfl⟩)
            · skip
              refine V_stE (st' := [.int (nI 14)]) (by rw [hz]) ?_
              refine V_tableIn (tgt := 661) C dL_act_282 (by decide) (by decide) rfl (by decide) ?_
              refine V_lv [0, 1, 2, 3, 6, 7, 8, 5, 4] rfl ?_
              exact act_insp C hl hr (by omega) hσ hI0 (by omega) (by omega) (by omega) (fun ad' σ tl t lo hk hI hn => ⟨rfl, hk, σ, tl, t, lo, ⟨hI, hn⟩, rfl⟩) hj
            · skip
              refine V_stE (st' := [.int (nI 15)]) (by rw [hz]) ?_
              refine V_tableIn (tgt := 661) C dL_act_282 (by decide) (by decide) rfl (by decide) ?_
              refine V_lv [0, 1, 2, 3, 6, 7, 8, 5, 4] rfl ?_
              exact act_insp C hl hr (by omega) hσ hI0 (by omega) (by omega) (by omega) (fun ad' σ tl t lo hk hI hn => ⟨rfl, hk, σ, tl, t, lo, ⟨hI, hn⟩, rfl⟩) hj
            · skip
              refine V_stE (st' := [.int (nI 16)]) (by rw [hz]) ?_
              refine V_tableIn (tgt := 661) C dL_act_282 (by decide) (by decide) rfl (by decide) ?_
              refine V_lv [0, 1, 2, 3, 6, 7, 8, 5, 4] rfl ?_
              exact act_insp C hl hr (by omega) hσ hI0 (by omega) (by omega) (by omega) (fun ad' σ tl t lo hk hI hn => ⟨rfl, hk, σ, tl, t, lo, ⟨hI, hn⟩, rfl⟩) hj
            · skip
              refine V_stE (st' := [.int (nI 17)]) (by rw [hz]) ?_
              refine V_tableIn (tgt := 775) C dL_act_282 (by decide) (by decide) rfl (by decide) ?_
              refine V_lv [0, 1, 2, 3, 6, 7, 8, 5, 4] rfl ?_
              exact act_revoke C hl hr (by omega) hσ hI0 (by omega) (by omega) (by omega) (fun ad' σ tl t lo hk hI hn => ⟨rfl, hk, σ, tl, t, lo, ⟨hI, hn⟩, rfl⟩) hj
            · skip
              refine V_tableOut (tgt := 822) C dL_act_282 (Or.inr (by rw [nI_toInt (by omega)]; omega)) (by decide) ?_
              refine V_lv [0, 1, 2, 3, 6, 7, 8, 5, 4] rfl ?_
              exact act_days C hl hr (by omega) hσ hI0 (by omega) (by omega) (by omega) (fun ad' σ tl t lo hk hI hn => ⟨rfl, hk, σ, tl, t, lo, ⟨hI, hn⟩, rfl⟩) hj
          · skip
            refine V_lv [0, 1, 2, 5, 6, 7, 4, 3] rfl ?_
            exact act_surf C hl hr (by omega) hσ hI0 (by omega) (by omega) (by omega) (fun ad' σ tl t lo hk hI hn => ⟨rfl, hk, σ, tl, t, lo, ⟨hI, hn⟩, rfl⟩) hj
    · skip
      refine V_lv [2, 3, 4, 1, 0] rfl ?_
      exact act_hall C hl hr (by omega) hσ hI0 (by omega) (by omega) (fun ad' σ tl t lo hk hI hn => ⟨rfl, hk, σ, tl, t, lo, ⟨hI, hn⟩, rfl⟩)
