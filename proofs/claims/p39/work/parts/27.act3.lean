
theorem addD_ok {σ : CS} {d : StdS} (hσ : cOK σ) (hI0 : cI σ) (h5 : cK σ < 5) (hd : dOK d) : IV (addD σ d) := by
  refine ⟨⟨hσ.1, by show cK σ + 1 ≤ 5; omega, hσ.2.2.1, fun j hj => ?_⟩, hI0⟩
  show dOK (fup (cS σ) (cK σ) d j)
  by_cases h : j = cK σ
  · subst h; rw [fup_s]; exact hd
  · rw [fup_n h]; exact hσ.2.2.2 j (by have : j < cK σ + 1 := hj; omega)
theorem addH_ok {σ : CS} {v : Nat} (hσ : cOK σ) (hI0 : cI σ) (h8 : cN σ < 8) (hv : v ≤ 90) : IV (addH σ v) := by
  refine ⟨⟨by show cN σ + 1 ≤ 8; omega, hσ.2.1, fun j hj => ?_, hσ.2.2.2⟩, fun j hj => ?_⟩
  · show hOK (fup (cH σ) (cN σ) (0, v, 0, -1, 0, fun _ => (0, 0)) j)
    by_cases h : j = cN σ
    · subst h; rw [fup_s]; exact ⟨Nat.zero_le _, hv, Nat.zero_le _, Nat.zero_le _, fun k hk => absurd hk (Nat.not_lt_zero k)⟩
    · rw [fup_n h]; exact hσ.2.2.1 j (by have : j < cN σ + 1 := hj; omega)
  · show hI (fup (cH σ) (cN σ) (0, v, 0, -1, 0, fun _ => (0, 0)) j)
    by_cases h : j = cN σ
    · subst h; rw [fup_s]; exact Or.inl ⟨rfl, rfl⟩
    · rw [fup_n h]; exact hI0 j (by have : j < cN σ + 1 := hj; omega)
theorem addS_ok {σ : CS} {j hb ds : Nat} (hσ : cOK σ) (hI0 : cI σ) (hj : j < cN σ) (h6 : hSc (cH σ j) < 6) (hb9 : hb ≤ 99) (h1 : 1 ≤ ds) (h2 : ds ≤ 60) : IV (setH σ j (hSc (cH σ j) + 1, hDm (cH σ j), hDu (cH σ j), -1, 0, fup (hSu (cH σ j)) (hSc (cH σ j)) (hb, ds))) := by
  have hu := hσ.2.2.1 j hj
  refine ⟨cOK_set hσ ⟨h6, hu.2.1, hu.2.2.1, Nat.zero_le _, fun k hk => ?_⟩, cI_set hI0 (Or.inl ⟨rfl, rfl⟩)⟩
  show (fup (hSu (cH σ j)) (hSc (cH σ j)) (hb, ds) k).1 ≤ 99 ∧ 1 ≤ (fup (hSu (cH σ j)) (hSc (cH σ j)) (hb, ds) k).2 ∧ (fup (hSu (cH σ j)) (hSc (cH σ j)) (hb, ds) k).2 ≤ 60
  by_cases h : k = hSc (cH σ j)
  · subst h; rw [fup_s]; exact ⟨hb9, h1, h2⟩
  · rw [fup_n h]; exact hu.2.2.2.2 k (by have : k < hSc (cH σ j) + 1 := hk; omega)
set_option maxHeartbeats 4000000 in
theorem act_std4 {p : Program} {l : Launch} {e : Env} {s : State} {m : MethodId} {args : Array Value} {below : List Frame} {meth : Method} {c : Code} {D : va_G} {ba d mc ms : Nat} {ad : Adr} {cells slots : Nat} {QR : Option Value → Adr → Wd → Prop} {QX : String → Adr → Wd → Prop} (C : Cx p l s m args meth c D ba RL cL_act 19 [] d) (hl : l.stackTraces = false) (hr : meth.sig.returnType = (some .boolean)) (hd : 10 ≤ d) {σ : CS} {tl : Int32} {t : TT} {lo : Nat → Int32} (hσ : cOK σ) (hI0 : cI σ) (hn : 1 ≤ cN σ) (hcm : cells + 24 ≤ mc) (hsm : slots + 160 ≤ ms) {x : Int32} {so : Nat} {j : Nat} (hq : ∀ ad' σ tl t lo, (ad' [0] = ad [0] ∧ ad' [2] = ad [2]) → IV σ → 1 ≤ cN σ → QR (some (.int (nI 1))) ad' (LW ad' σ σ tl t lo)) (h5 : cK σ < 5) {ea li mo lt dy : Nat} (h_ea : ea ≤ 500) (h_li : 1 ≤ li ∧ li ≤ 1000) (h_mo : mo ≤ 99) (h_lt : lt ≤ 3000) (h_dy : 1 ≤ dy ∧ dy ≤ 100)  : V p l e s m args below meth c D ba d mc ms (MO D ba QR QX below args s mc ms) 19 ad (wset (LSW ad σ σ tl t lo) [2, 4, cK σ] (eI 5 (upd (upd (upd (upd (fun _ => 0) 0 (nI ea)) 1 (nI li)) 2 (nI mo)) 3 (nI lt)))) 610 [(8, .int (nI (cK σ))), (7, .int (nI (hSc (cH σ j)))), (6, .ref (ad [2, 3, j])), (5, .int (nI j)), (0, .ref (ad [0])), (1, .ref (ad [2])), (2, .int x), (3, .int (nI (cN σ))), (4, .int (nI so))] [.int (nI dy), .int (nI 4), .ref (ad [2, 4, cK σ]), .ref (ad [2, 4, cK σ])] cells slots := by
  have hσ1 := hσ.1
  have hσ2 := hσ.2.1
  refine V_iastn C dL_act_610 rfl wset_s (by omega) (by decide) ?_
  refine V_wd (w' := wset (LSW ad σ σ tl t lo) ([2, 4, cK σ]) (eI 5 (upd (upd (upd (upd (upd (fun _ => 0) 0 (nI ea)) 1 (nI li)) 2 (nI mo)) 3 (nI lt)) 4 (nI dy)))) wset_wset ?_
  refine V_wd (w' := wset (LSW ad σ σ tl t lo) [2, 4, cK σ] (eI 5 (stF (ea, li, mo, lt, dy)))) rfl ?_
  refine V_astore C [(13, .ref (ad [2, 4, cK σ])), (8, .int (nI (cK σ))), (7, .int (nI (hSc (cH σ j)))), (6, .ref (ad [2, 3, j])), (5, .int (nI j)), (0, .ref (ad [0])), (1, .ref (ad [2])), (2, .int x), (3, .int (nI (cN σ))), (4, .int (nI so))] dL_act_611 (by decide) rfl ?_
  refine V_aload_n C dL_act_613 6 rfl ?_
  refine V_aload_n C dL_act_614 6 rfl ?_
  refine V_get (ci := 7) (k := 3) C dL_act_615 RX8 RX8 TX8 4 fw_X8 rfl (by decide) tw_650 rfl rfl ((wset_n (by simp)).trans SW_b) rfl ?_
  refine V_aload C dL_act_618 0 rfl ?_
  refine V_callS C [.ref (ad [2, 2]), .ref (ad [2, 4, cK σ])] dL_act_620 m_X8_with k_X8_with tw_552 rfl rfl (Nat.le_of_ble_eq_true rfl) ⟨by omega, by omega, by omega, by omega⟩ (s_with (LA := [2, 2]) (LR := [2, 4, cK σ]) (LN := [2, 9]) (Lr := fun k => [2, 4, k]) (mr := fun _ => 5) (fr := fun k => stF (cS σ k)) hl (by omega) ((wset_n (by simp)).trans SW_rr) (fun k hk => (wset_n (by simp; omega)).trans (SW_d hk)) wset_s ((wset_n (by simp)).trans SW_9) (by omega)) ?_ kx_no
  rintro v2 adz wz ⟨q9, rfl, rfl, rfl⟩
  refine V_stE (st' := [.ref q9, .ref (ad [2])]) rfl ?_
  have hrow1 : adN (cK σ) (fun k => aset ad [2, 9] q9 [2, 4, k]) = adN (cK σ) (fun k => ad [2, 4, k]) := adN_congr (fun k hk => aset_n (by simp))
  have hq9 : q9 = aset ad [2, 9] q9 [2, 9] := aset_s.symm
  obtain ⟨ad1, hAad1⟩ : ∃ z, z = aset ad [2, 9] q9 := ⟨_, rfl⟩
  rw [← hAad1]
  refine V_wd (w' := wset (wset (LSW ad1 σ σ tl t lo) [2, 4, cK σ] (eI 5 (stF (ea, li, mo, lt, dy)))) [2, 9] (eA (cK σ + 1) (va_up (adN (cK σ) (fun k => ad1 [2, 4, k])) (cK σ) (some (ad1 [2, 4, cK σ]))))) (by rw [hAad1]; exact (by rw [hrow1, LSW_ad9, aset_n (by simp)])) ?_
  refine V_lvE (lv' := [(13, .ref (ad1 [2, 4, cK σ])), (8, .int (nI (cK σ))), (7, .int (nI (hSc (cH σ j)))), (6, .ref (ad1 [2, 3, j])), (5, .int (nI j)), (0, .ref (ad1 [0])), (1, .ref (ad1 [2])), (2, .int x), (3, .int (nI (cN σ))), (4, .int (nI so))]) (by first | rfl | (rw [hAad1]; done) | (rw [hAad1]; simp [aset])) ?_
  refine V_stE (st' := [.ref (ad1 [2, 9]), .ref (ad1 [2])]) (by first | rfl | (rw [hAad1]; done) | (rw [hAad1]; simp [aset])) ?_
  refine V_put (ci := 7) (k := 3) C dL_act_623 RX8 RX8 TX8 4 tyX8 tyX8_ok nmX8 fw_X8 rfl (by decide) tw_650 rfl (Or.inl rfl) rfl rfl rfl ((wset_n (by simp)).trans ((wset_n (by simp)).trans SW_b)) (Nat.le_of_ble_eq_true rfl) ?_
  refine V_wd (w' := wset (wset (wset (LSW ad1 σ σ tl t lo) [2, 4, cK σ] (eI 5 (stF (ea, li, mo, lt, dy)))) [2, 9] (eA (cK σ + 1) (va_up (adN (cK σ) (fun k => ad1 [2, 4, k])) (cK σ) (some (ad1 [2, 4, cK σ]))))) ([2]) (.inr (7, [.int (cDay σ), .int (cIns σ), .ref (ad1 [2, 1]), .ref (ad1 [2, 9])]))) rfl ?_
  refine V_ren (A := [2, 2]) (B := [2, 9]) (by decide) ?_
  obtain ⟨ad2, hAad2⟩ : ∃ z, z = aset ad1 [2, 2] (ad1 [2, 9]) := ⟨_, rfl⟩
  rw [← hAad2]
  refine V_wd (w' := LSW ad2 σ (addD σ (ea, li, mo, lt, dy)) tl t lo) (by rw [hAad2]; exact LSW_addD rfl) ?_
  refine V_lvE (lv' := [(13, .ref (ad2 [2, 4, cK σ])), (8, .int (nI (cK σ))), (7, .int (nI (hSc (cH σ j)))), (6, .ref (ad2 [2, 3, j])), (5, .int (nI j)), (0, .ref (ad2 [0])), (1, .ref (ad2 [2])), (2, .int x), (3, .int (nI (cN σ))), (4, .int (nI so))]) (by first | rfl | (rw [hAad2]; done) | (rw [hAad2]; simp [aset])) ?_
  refine V_stE (st' := []) (by first | rfl | (rw [hAad2]; done) | (rw [hAad2]; simp [aset])) ?_
  have hrow : cS (addD σ (ea, li, mo, lt, dy)) (cK σ) = (ea, li, mo, lt, dy) := fup_s
  refine V_aload_n C dL_act_626 5 rfl ?_
  refine V_aload C dL_act_627 0 rfl ?_
  refine V_iconst (v := nI 0) C dL_act_629 (by decide) ?_
  refine V_ialdn (v := (nI ea)) C dL_act_630 rfl ((SW_d (σ := addD σ (ea, li, mo, lt, dy)) (Nat.lt_succ_self _)).trans (by rw [hrow])) (by decide) (by decide) rfl ?_
  refine V_aload C dL_act_631 0 rfl ?_
  refine V_iconst (v := nI 1) C dL_act_633 (by decide) ?_
  refine V_ialdn (v := (nI li)) C dL_act_634 rfl ((SW_d (σ := addD σ (ea, li, mo, lt, dy)) (Nat.lt_succ_self _)).trans (by rw [hrow])) (by decide) (by decide) rfl ?_
  refine V_aload C dL_act_635 0 rfl ?_
  refine V_iconst (v := nI 2) C dL_act_637 (by decide) ?_
  refine V_ialdn (v := (nI mo)) C dL_act_638 rfl ((SW_d (σ := addD σ (ea, li, mo, lt, dy)) (Nat.lt_succ_self _)).trans (by rw [hrow])) (by decide) (by decide) rfl ?_
  refine V_aload C dL_act_639 0 rfl ?_
  refine V_iconst (v := nI 3) C dL_act_641 (by decide) ?_
  refine V_ialdn (v := (nI lt)) C dL_act_642 rfl ((SW_d (σ := addD σ (ea, li, mo, lt, dy)) (Nat.lt_succ_self _)).trans (by rw [hrow])) (by decide) (by decide) rfl ?_
  refine V_aload C dL_act_643 0 rfl ?_
  refine V_iconst (v := nI 4) C dL_act_645 (by decide) ?_
  refine V_ialdn (v := (nI dy)) C dL_act_646 rfl ((SW_d (σ := addD σ (ea, li, mo, lt, dy)) (Nat.lt_succ_self _)).trans (by rw [hrow])) (by decide) (by decide) rfl ?_
  refine V_wd (w' := LW ad2 σ (addD σ (ea, li, mo, lt, dy)) tl t lo) LW_LS.symm ?_
  refine V_callV (r := (RX6, TX6, 8)) C [.int (nI ea), .int (nI li), .int (nI mo), .int (nI lt), .int (nI dy)] dL_act_647 m_X6_addStandard k_X6_addStandard tw_572 rfl rfl rfl PW_b rfl rfl (Nat.le_of_ble_eq_true rfl) ⟨by omega, by omega, by omega, by omega⟩ (p_addStd (i := 0) hl (by omega) hσ h_ea h_li.2 h_mo h_lt h_dy.2 (inR_ok (by omega) (by omega) (by decide)) (inR_ok (by omega) (by omega) (by decide)) (inR_ok (by omega) (by omega) (by decide)) (inR_ok (by omega) (by omega) (by decide)) (inR_ok (by omega) (by omega) (by decide)) h5) (kr_RPa (x := .int (nI (cK σ))) (fun ad3 hK tl t lo => ?_)) kx_no
  refine V_lv [1] rfl ?_
  refine V_wd (w' := LW ad3 (addD σ (ea, li, mo, lt, dy)) (addD σ (ea, li, mo, lt, dy)) tl t lo) (LW_a hK) ?_
  refine V_iload C dL_act_650 0 rfl ?_
  refine V_icmpn_ne (tgt := 659) C dL_act_652 (by decide) (by omega) (by omega) (fun hb1 => by exfalso; omega) (fun hb1 => ?_)
  refine V_iconst (v := nI 1) C dL_act_655 (by decide) ?_
  refine V_goto (tgt := 660) C dL_act_656 (by decide) ?_
  exact V_iret C .boolean dL_act_660 hr rfl (hq _ _ _ _ _ ⟨hK.2.trans (by rw [hAad2, hAad1]; simp [aset]), (hK.1 2 [] (by decide)).trans (by rw [hAad2, hAad1]; simp [aset])⟩ (addD_ok hσ hI0 h5 ⟨h_ea, h_li.1, h_li.2, h_mo, h_lt, h_dy.1, h_dy.2⟩) hn) (by omega) (by omega)
set_option maxHeartbeats 4000000 in
theorem act_std3 {p : Program} {l : Launch} {e : Env} {s : State} {m : MethodId} {args : Array Value} {below : List Frame} {meth : Method} {c : Code} {D : va_G} {ba d mc ms : Nat} {ad : Adr} {cells slots : Nat} {QR : Option Value → Adr → Wd → Prop} {QX : String → Adr → Wd → Prop} (C : Cx p l s m args meth c D ba RL cL_act 19 [] d) (hl : l.stackTraces = false) (hr : meth.sig.returnType = (some .boolean)) (hd : 10 ≤ d) {σ : CS} {tl : Int32} {t : TT} {lo : Nat → Int32} (hσ : cOK σ) (hI0 : cI σ) (hn : 1 ≤ cN σ) (hcm : cells + 24 ≤ mc) (hsm : slots + 160 ≤ ms) {x : Int32} {so : Nat} {j : Nat} (hq : ∀ ad' σ tl t lo, (ad' [0] = ad [0] ∧ ad' [2] = ad [2]) → IV σ → 1 ≤ cN σ → QR (some (.int (nI 1))) ad' (LW ad' σ σ tl t lo)) (h5 : cK σ < 5) {ea li mo lt : Nat} (h_ea : ea ≤ 500) (h_li : 1 ≤ li ∧ li ≤ 1000) (h_mo : mo ≤ 99) (h_lt : lt ≤ 3000)  : V p l e s m args below meth c D ba d mc ms (MO D ba QR QX below args s mc ms) 19 ad (wset (LSW ad σ σ tl t lo) [2, 4, cK σ] (eI 5 (upd (upd (upd (fun _ => 0) 0 (nI ea)) 1 (nI li)) 2 (nI mo)))) 584 [(8, .int (nI (cK σ))), (7, .int (nI (hSc (cH σ j)))), (6, .ref (ad [2, 3, j])), (5, .int (nI j)), (0, .ref (ad [0])), (1, .ref (ad [2])), (2, .int x), (3, .int (nI (cN σ))), (4, .int (nI so))] [.int (nI lt), .int (nI 3), .ref (ad [2, 4, cK σ]), .ref (ad [2, 4, cK σ])] cells slots := by
  have hσ1 := hσ.1
  have hσ2 := hσ.2.1
  refine V_iastn C dL_act_584 rfl wset_s (by omega) (by decide) ?_
  refine V_wd (w' := wset (LSW ad σ σ tl t lo) ([2, 4, cK σ]) (eI 5 (upd (upd (upd (upd (fun _ => 0) 0 (nI ea)) 1 (nI li)) 2 (nI mo)) 3 (nI lt)))) wset_wset ?_
  refine V_dup C dL_act_585 rfl ?_
  refine V_iconst (v := nI 4) C dL_act_586 (by decide) ?_
  refine V_iconst (v := nI 1) C dL_act_587 (by decide) ?_
  refine V_iload_n C dL_act_588 6 rfl ?_
  refine V_bipush (v := nI 6) C dL_act_589 (by decide) ?_
  refine V_ishrn C dL_act_591 ?_
  refine V_iload_n C dL_act_592 6 rfl ?_
  refine V_iconst (v := nI 2) C dL_act_593 (by decide) ?_
  have hbl594 := bl_lt (v := x) (n := 2) (by omega)
  refine V_callS C [.int x, .int (nI 2)] dL_act_594 m_L_below k_L_below tw_508 rfl rfl (Nat.le_of_ble_eq_true rfl) ⟨by omega, by omega, by omega, by omega⟩ (s_below hl (by omega) x (by omega) (by omega)) (kr_some (x := .int (nI (bl x 2))) ?_) kx_no
  refine V_ifn_ne (tgt := 605) C dL_act_597 (by decide) (by omega) (fun hb1 => ?_) (fun hb1 => ?_)
  · skip
    refine V_iconst (v := nI 5) C dL_act_605 (by decide) ?_
    have hbl606 := bl_lt (v := (sh x 6)) (n := 5) (by omega)
    refine V_callS C [.int (sh x 6), .int (nI 5)] dL_act_606 m_L_below k_L_below tw_508 rfl rfl (Nat.le_of_ble_eq_true rfl) ⟨by omega, by omega, by omega, by omega⟩ (s_below hl (by omega) (sh x 6) (by omega) (by omega)) (kr_some (x := .int (nI (bl (sh x 6) 5))) ?_) kx_no
    refine V_iaddn C dL_act_609 ?_
    refine V_lv [0, 1, 2, 3, 4, 5, 6, 7, 8] rfl ?_
    exact act_std4 C hl hr (by omega) hσ hI0 hn (by omega) (by omega) hq h5 h_ea h_li h_mo h_lt ⟨by omega, by omega⟩
  · skip
    refine V_bipush (v := nI 100) C dL_act_600 (by decide) ?_
    refine V_goto (tgt := 606) C dL_act_602 (by decide) ?_
    have hbl606 := bl_lt (v := (sh x 6)) (n := 100) (by omega)
    refine V_callS C [.int (sh x 6), .int (nI 100)] dL_act_606 m_L_below k_L_below tw_508 rfl rfl (Nat.le_of_ble_eq_true rfl) ⟨by omega, by omega, by omega, by omega⟩ (s_below hl (by omega) (sh x 6) (by omega) (by omega)) (kr_some (x := .int (nI (bl (sh x 6) 100))) ?_) kx_no
    refine V_iaddn C dL_act_609 ?_
    refine V_lv [0, 1, 2, 3, 4, 5, 6, 7, 8] rfl ?_
    exact act_std4 C hl hr (by omega) hσ hI0 hn (by omega) (by omega) hq h5 h_ea h_li h_mo h_lt ⟨by omega, by omega⟩
set_option maxHeartbeats 4000000 in
theorem act_std2 {p : Program} {l : Launch} {e : Env} {s : State} {m : MethodId} {args : Array Value} {below : List Frame} {meth : Method} {c : Code} {D : va_G} {ba d mc ms : Nat} {ad : Adr} {cells slots : Nat} {QR : Option Value → Adr → Wd → Prop} {QX : String → Adr → Wd → Prop} (C : Cx p l s m args meth c D ba RL cL_act 19 [] d) (hl : l.stackTraces = false) (hr : meth.sig.returnType = (some .boolean)) (hd : 10 ≤ d) {σ : CS} {tl : Int32} {t : TT} {lo : Nat → Int32} (hσ : cOK σ) (hI0 : cI σ) (hn : 1 ≤ cN σ) (hcm : cells + 24 ≤ mc) (hsm : slots + 160 ≤ ms) {x : Int32} {so : Nat} {j : Nat} (hq : ∀ ad' σ tl t lo, (ad' [0] = ad [0] ∧ ad' [2] = ad [2]) → IV σ → 1 ≤ cN σ → QR (some (.int (nI 1))) ad' (LW ad' σ σ tl t lo)) (h5 : cK σ < 5) {ea : Nat} (h_ea : ea ≤ 500)  : V p l e s m args below meth c D ba d mc ms (MO D ba QR QX below args s mc ms) 19 ad (wset (LSW ad σ σ tl t lo) [2, 4, cK σ] (eI 5 (fun _ => 0))) 523 [(8, .int (nI (cK σ))), (7, .int (nI (hSc (cH σ j)))), (6, .ref (ad [2, 3, j])), (5, .int (nI j)), (0, .ref (ad [0])), (1, .ref (ad [2])), (2, .int x), (3, .int (nI (cN σ))), (4, .int (nI so))] [.int (nI ea), .int (nI 0), .ref (ad [2, 4, cK σ]), .ref (ad [2, 4, cK σ])] cells slots := by
  have hσ1 := hσ.1
  have hσ2 := hσ.2.1
  refine V_iastn C dL_act_523 rfl wset_s (by omega) (by decide) ?_
  refine V_wd (w' := wset (LSW ad σ σ tl t lo) ([2, 4, cK σ]) (eI 5 (upd (fun _ => 0) 0 (nI ea)))) wset_wset ?_
  refine V_dup C dL_act_524 rfl ?_
  refine V_iconst (v := nI 1) C dL_act_525 (by decide) ?_
  refine V_iconst (v := nI 1) C dL_act_526 (by decide) ?_
  refine V_iload_n C dL_act_527 6 rfl ?_
  refine V_iconst (v := nI 3) C dL_act_528 (by decide) ?_
  refine V_ishrn C dL_act_529 ?_
  refine V_sipush (v := nI 1000) C dL_act_530 (by decide) ?_
  have hbl533 := bl_lt (v := (sh x 3)) (n := 1000) (by omega)
  refine V_callS C [.int (sh x 3), .int (nI 1000)] dL_act_533 m_L_below k_L_below tw_508 rfl rfl (Nat.le_of_ble_eq_true rfl) ⟨by omega, by omega, by omega, by omega⟩ (s_below hl (by omega) (sh x 3) (by omega) (by omega)) (kr_some (x := .int (nI (bl (sh x 3) 1000))) ?_) kx_no
  refine V_iaddn C dL_act_536 ?_
  refine V_iastn C dL_act_537 rfl wset_s (by omega) (by decide) ?_
  refine V_wd (w' := wset (LSW ad σ σ tl t lo) ([2, 4, cK σ]) (eI 5 (upd (upd (fun _ => 0) 0 (nI ea)) 1 (nI (1 + (bl (sh x 3) 1000)))))) wset_wset ?_
  refine V_dup C dL_act_538 rfl ?_
  refine V_iconst (v := nI 2) C dL_act_539 (by decide) ?_
  refine V_iload_n C dL_act_540 6 rfl ?_
  refine V_iconst (v := nI 5) C dL_act_541 (by decide) ?_
  refine V_ishrn C dL_act_542 ?_
  refine V_bipush (v := nI 20) C dL_act_543 (by decide) ?_
  have hbl545 := bl_lt (v := (sh x 5)) (n := 20) (by omega)
  refine V_callS C [.int (sh x 5), .int (nI 20)] dL_act_545 m_L_below k_L_below tw_508 rfl rfl (Nat.le_of_ble_eq_true rfl) ⟨by omega, by omega, by omega, by omega⟩ (s_below hl (by omega) (sh x 5) (by omega) (by omega)) (kr_some (x := .int (nI (bl (sh x 5) 20))) ?_) kx_no
  refine V_iastn C dL_act_548 rfl wset_s (by omega) (by decide) ?_
  refine V_wd (w' := wset (LSW ad σ σ tl t lo) ([2, 4, cK σ]) (eI 5 (upd (upd (upd (fun _ => 0) 0 (nI ea)) 1 (nI (1 + (bl (sh x 3) 1000)))) 2 (nI (bl (sh x 5) 20))))) wset_wset ?_
  refine V_dup C dL_act_549 rfl ?_
  refine V_iconst (v := nI 3) C dL_act_550 (by decide) ?_
  refine V_iload_n C dL_act_551 6 rfl ?_
  refine V_iconst (v := nI 3) C dL_act_552 (by decide) ?_
  have hbl553 := bl_lt (v := x) (n := 3) (by omega)
  refine V_callS C [.int x, .int (nI 3)] dL_act_553 m_L_below k_L_below tw_508 rfl rfl (Nat.le_of_ble_eq_true rfl) ⟨by omega, by omega, by omega, by omega⟩ (s_below hl (by omega) x (by omega) (by omega)) (kr_some (x := .int (nI (bl x 3))) ?_) kx_no
  refine V_ifn_ne (tgt := 571) C dL_act_556 (by decide) (by omega) (fun hb1 => ?_) (fun hb1 => ?_)
  · skip
    refine V_sipush (v := nI 3000) C dL_act_571 (by decide) ?_
    refine V_iload_n C dL_act_574 6 rfl ?_
    refine V_iconst (v := nI 4) C dL_act_575 (by decide) ?_
    refine V_ishrn C dL_act_576 ?_
    refine V_sipush (v := nI 900) C dL_act_577 (by decide) ?_
    have hbl580 := bl_lt (v := (sh x 4)) (n := 900) (by omega)
    refine V_callS C [.int (sh x 4), .int (nI 900)] dL_act_580 m_L_below k_L_below tw_508 rfl rfl (Nat.le_of_ble_eq_true rfl) ⟨by omega, by omega, by omega, by omega⟩ (s_below hl (by omega) (sh x 4) (by omega) (by omega)) (kr_some (x := .int (nI (bl (sh x 4) 900))) ?_) kx_no
    refine V_isubn C dL_act_583 (by omega) ?_
    refine V_lv [0, 1, 2, 3, 4, 5, 6, 7, 8] rfl ?_
    exact act_std3 C hl hr (by omega) hσ hI0 hn (by omega) (by omega) hq h5 h_ea ⟨by omega, by omega⟩ (by omega) (by omega)
  · skip
    refine V_iload_n C dL_act_559 6 rfl ?_
    refine V_iconst (v := nI 4) C dL_act_560 (by decide) ?_
    refine V_ishrn C dL_act_561 ?_
    refine V_sipush (v := nI 3001) C dL_act_562 (by decide) ?_
    have hbl565 := bl_lt (v := (sh x 4)) (n := 3001) (by omega)
    refine V_callS C [.int (sh x 4), .int (nI 3001)] dL_act_565 m_L_below k_L_below tw_508 rfl rfl (Nat.le_of_ble_eq_true rfl) ⟨by omega, by omega, by omega, by omega⟩ (s_below hl (by omega) (sh x 4) (by omega) (by omega)) (kr_some (x := .int (nI (bl (sh x 4) 3001))) ?_) kx_no
    refine V_goto (tgt := 584) C dL_act_568 (by decide) ?_
    refine V_lv [0, 1, 2, 3, 4, 5, 6, 7, 8] rfl ?_
    exact act_std3 C hl hr (by omega) hσ hI0 hn (by omega) (by omega) hq h5 h_ea ⟨by omega, by omega⟩ (by omega) (by omega)
theorem keep_t {ad ad1 : Adr} {QR : Option Value → Adr → Wd → Prop} (h : ad1 [0] = ad [0] ∧ ad1 [2] = ad [2]) (hq : ∀ ad' σ tl t lo, (ad' [0] = ad [0] ∧ ad' [2] = ad [2]) → IV σ → 1 ≤ cN σ → QR (some (.int (nI 1))) ad' (LW ad' σ σ tl t lo)) : ∀ ad' σ tl t lo, (ad' [0] = ad1 [0] ∧ ad' [2] = ad1 [2]) → IV σ → 1 ≤ cN σ → QR (some (.int (nI 1))) ad' (LW ad' σ σ tl t lo) := fun ad' σ tl t lo hk => hq ad' σ tl t lo ⟨hk.1.trans h.1, hk.2.trans h.2⟩
set_option maxHeartbeats 4000000 in
theorem act_std {p : Program} {l : Launch} {e : Env} {s : State} {m : MethodId} {args : Array Value} {below : List Frame} {meth : Method} {c : Code} {D : va_G} {ba d mc ms : Nat} {ad : Adr} {cells slots : Nat} {QR : Option Value → Adr → Wd → Prop} {QX : String → Adr → Wd → Prop} (C : Cx p l s m args meth c D ba RL cL_act 19 [] d) (hl : l.stackTraces = false) (hr : meth.sig.returnType = (some .boolean)) (hd : 10 ≤ d) {σ : CS} {tl : Int32} {t : TT} {lo : Nat → Int32} (hσ : cOK σ) (hI0 : cI σ) (hn : 1 ≤ cN σ) (hcm : cells + 26 ≤ mc) (hsm : slots + 170 ≤ ms) {x : Int32} {so : Nat} {j : Nat} (hq : ∀ ad' σ tl t lo, (ad' [0] = ad [0] ∧ ad' [2] = ad [2]) → IV σ → 1 ≤ cN σ → QR (some (.int (nI 1))) ad' (LW ad' σ σ tl t lo))  : V p l e s m args below meth c D ba d mc ms (MO D ba QR QX below args s mc ms) 19 ad (LSW ad σ σ tl t lo) 488 [(8, .int (nI (cK σ))), (7, .int (nI (hSc (cH σ j)))), (6, .ref (ad [2, 3, j])), (5, .int (nI j)), (0, .ref (ad [0])), (1, .ref (ad [2])), (2, .int x), (3, .int (nI (cN σ))), (4, .int (nI so))] [] cells slots := by
  have hσ1 := hσ.1
  have hσ2 := hσ.2.1
  refine V_iload C dL_act_488 0 rfl ?_
  refine V_iconst (v := nI 5) C dL_act_490 (by decide) ?_
  refine V_icmpn_ne (tgt := 496) C dL_act_491 (by decide) (by omega) (by decide) (fun hb1 => ?_) (fun hb1 => ?_)
  · skip
    refine V_iconst (v := nI 5) C dL_act_496 (by decide) ?_
    refine V_newIn (N := 5) C [2, 4, cK σ] dL_act_497 tw_69 (by decide) (SW_df (Nat.le_refl _)) (by omega) (by omega) (fun q => ?_)
    have hq5 : q = aset ad [2, 4, cK σ] q [2, 4, cK σ] := aset_s.symm
    refine V_stE (st' := [.ref (aset ad [2, 4, cK σ] q [2, 4, cK σ])]) (by rw [← hq5]) ?_
    obtain ⟨ad1, hAad1⟩ : ∃ z, z = aset ad [2, 4, cK σ] q := ⟨_, rfl⟩
    rw [← hAad1]
    refine V_wd (w' := wset (LSW ad1 σ σ tl t lo) [2, 4, cK σ] (eI 5 (fun _ => 0))) (by rw [hAad1]; exact (by rw [LSW_ad4])) ?_
    refine V_lvE (lv' := [(8, .int (nI (cK σ))), (7, .int (nI (hSc (cH σ j)))), (6, .ref (ad1 [2, 3, j])), (5, .int (nI j)), (0, .ref (ad1 [0])), (1, .ref (ad1 [2])), (2, .int x), (3, .int (nI (cN σ))), (4, .int (nI so))]) (by first | rfl | (rw [hAad1]; done) | (rw [hAad1]; simp [aset])) ?_
    refine V_stE (st' := [.ref (ad1 [2, 4, cK σ])]) (by first | rfl | (rw [hAad1]; done) | (rw [hAad1]; simp [aset])) ?_
    refine V_dup C dL_act_499 rfl ?_
    refine V_iconst (v := nI 0) C dL_act_500 (by decide) ?_
    refine V_iload_n C dL_act_501 6 rfl ?_
    refine V_iconst (v := nI 2) C dL_act_502 (by decide) ?_
    refine V_ishrn C dL_act_503 ?_
    refine V_iload_n C dL_act_504 6 rfl ?_
    refine V_iconst (v := nI 2) C dL_act_505 (by decide) ?_
    have hbl506 := bl_lt (v := x) (n := 2) (by omega)
    refine V_callS C [.int x, .int (nI 2)] dL_act_506 m_L_below k_L_below tw_508 rfl rfl (Nat.le_of_ble_eq_true rfl) ⟨by omega, by omega, by omega, by omega⟩ (s_below hl (by omega) x (by omega) (by omega)) (kr_some (x := .int (nI (bl x 2))) ?_) kx_no
    refine V_ifn_ne (tgt := 518) C dL_act_509 (by decide) (by omega) (fun hb2 => ?_) (fun hb2 => ?_)
    · skip
      refine V_bipush (v := nI 60) C dL_act_518 (by decide) ?_
      have hbl520 := bl_lt (v := (sh x 2)) (n := 60) (by omega)
      refine V_callS C [.int (sh x 2), .int (nI 60)] dL_act_520 m_L_below k_L_below tw_508 rfl rfl (Nat.le_of_ble_eq_true rfl) ⟨by omega, by omega, by omega, by omega⟩ (s_below hl (by omega) (sh x 2) (by omega) (by omega)) (kr_some (x := .int (nI (bl (sh x 2) 60))) ?_) kx_no
      refine V_lv [0, 1, 2, 3, 4, 5, 6, 7, 8] rfl ?_
      exact act_std2 C hl hr (by omega) hσ hI0 hn (by omega) (by omega) (keep_t ⟨by rw [hAad1]; simp [aset], by rw [hAad1]; simp [aset]⟩ hq) (by omega) (by omega)
    · skip
      refine V_sipush (v := nI 501) C dL_act_512 (by decide) ?_
      refine V_goto (tgt := 520) C dL_act_515 (by decide) ?_
      have hbl520 := bl_lt (v := (sh x 2)) (n := 501) (by omega)
      refine V_callS C [.int (sh x 2), .int (nI 501)] dL_act_520 m_L_below k_L_below tw_508 rfl rfl (Nat.le_of_ble_eq_true rfl) ⟨by omega, by omega, by omega, by omega⟩ (s_below hl (by omega) (sh x 2) (by omega) (by omega)) (kr_some (x := .int (nI (bl (sh x 2) 501))) ?_) kx_no
      refine V_lv [0, 1, 2, 3, 4, 5, 6, 7, 8] rfl ?_
      exact act_std2 C hl hr (by omega) hσ hI0 hn (by omega) (by omega) (keep_t ⟨by rw [hAad1]; simp [aset], by rw [hAad1]; simp [aset]⟩ hq) (by omega) (by omega)
  · skip
    refine V_wd (w' := LW ad σ σ tl t lo) LW_LS.symm ?_
    refine V_iconst (v := nI 1) C dL_act_494 (by decide) ?_
    exact V_iret C .boolean dL_act_495 hr rfl (hq _ _ _ _ _ ⟨rfl, rfl⟩ ⟨hσ, hI0⟩ (by first | exact hn | exact Nat.le_add_left 1 _)) (by omega) (by omega)
set_option maxHeartbeats 4000000 in
theorem act_surf2 {p : Program} {l : Launch} {e : Env} {s : State} {m : MethodId} {args : Array Value} {below : List Frame} {meth : Method} {c : Code} {D : va_G} {ba d mc ms : Nat} {ad : Adr} {cells slots : Nat} {QR : Option Value → Adr → Wd → Prop} {QX : String → Adr → Wd → Prop} (C : Cx p l s m args meth c D ba RL cL_act 19 [] d) (hl : l.stackTraces = false) (hr : meth.sig.returnType = (some .boolean)) (hd : 10 ≤ d) {σ : CS} {tl : Int32} {t : TT} {lo : Nat → Int32} (hσ : cOK σ) (hI0 : cI σ) (hn : 1 ≤ cN σ) (hcm : cells + 24 ≤ mc) (hsm : slots + 160 ≤ ms) {x : Int32} {so : Nat} (hq : ∀ ad' σ tl t lo, (ad' [0] = ad [0] ∧ ad' [2] = ad [2]) → IV σ → 1 ≤ cN σ → QR (some (.int (nI 1))) ad' (LW ad' σ σ tl t lo)) {j : Nat} (hj : j < cN σ) (h6 : hSc (cH σ j) < 6) {ds hb : Nat} (h_ds : 1 ≤ ds ∧ ds ≤ 60) (h_hb : hb ≤ 99)  : V p l e s m args below meth c D ba d mc ms (MO D ba QR QX below args s mc ms) 19 ad (wset (LSW ad σ σ tl t lo) [2, 6, j, hSc (cH σ j)] (eI 2 (upd (fun _ => 0) 0 (nI ds)))) 225 [(7, .int (nI (hSc (cH σ j)))), (6, .ref (ad [2, 3, j])), (5, .int (nI j)), (0, .ref (ad [0])), (1, .ref (ad [2])), (2, .int x), (3, .int (nI (cN σ))), (4, .int (nI so))] [.int (nI hb), .int (nI 1), .ref (ad [2, 6, j, hSc (cH σ j)]), .ref (ad [2, 6, j, hSc (cH σ j)])] cells slots := by
  have hσ1 := hσ.1
  have hσ2 := hσ.2.1
  have hu := hσ.2.2.1 j hj
  have hu1 := hu.1
  have hu2 := hu.2.1
  have hu3 := hu.2.2.1
  have hu4 := hu.2.2.2.1
  refine V_iastn C dL_act_225 rfl wset_s (by omega) (by decide) ?_
  refine V_wd (w' := wset (LSW ad σ σ tl t lo) ([2, 6, j, hSc (cH σ j)]) (eI 2 (upd (upd (fun _ => 0) 0 (nI ds)) 1 (nI hb)))) wset_wset ?_
  refine V_wd (w' := wset (LSW ad σ σ tl t lo) [2, 6, j, hSc (cH σ j)] (eI 2 (suF (hb, ds)))) rfl ?_
  refine V_astore C [(8, .ref (ad [2, 6, j, hSc (cH σ j)])), (7, .int (nI (hSc (cH σ j)))), (6, .ref (ad [2, 3, j])), (5, .int (nI j)), (0, .ref (ad [0])), (1, .ref (ad [2])), (2, .int x), (3, .int (nI (cN σ))), (4, .int (nI so))] dL_act_226 (by decide) rfl ?_
  refine V_aload C dL_act_228 2 rfl ?_
  refine V_aload C dL_act_230 2 rfl ?_
  refine V_get (ci := 6) (k := 0) C dL_act_232 RX7 RX7 TX7 5 fw_X7 rfl (by decide) tw_529 rfl rfl ((wset_n (by simp)).trans (SW_h hj)) rfl ?_
  refine V_aload C dL_act_235 0 rfl ?_
  refine V_callS C [.ref (ad [2, 5, j]), .ref (ad [2, 6, j, hSc (cH σ j)])] dL_act_237 m_X8_with k_X8_with tw_552 rfl rfl (Nat.le_of_ble_eq_true rfl) ⟨by omega, by omega, by omega, by omega⟩ (s_with (LA := [2, 5, j]) (LR := [2, 6, j, hSc (cH σ j)]) (LN := [2, 9]) (Lr := fun k => [2, 6, j, k]) (mr := fun _ => 2) (fr := fun k => suF (hSu (cH σ j) k)) hl (by omega) ((wset_n (by simp)).trans (SW_s hj)) (fun k hk => (wset_n (by simp; omega)).trans (SW_u hj hk)) wset_s ((wset_n (by simp)).trans SW_9) (by omega)) ?_ kx_no
  rintro v2 adz wz ⟨q9, rfl, rfl, rfl⟩
  refine V_stE (st' := [.ref q9, .ref (ad [2, 3, j])]) rfl ?_
  have hrow1 : adN (hSc (cH σ j)) (fun k => aset ad [2, 9] q9 [2, 6, j, k]) = adN (hSc (cH σ j)) (fun k => ad [2, 6, j, k]) := adN_congr (fun k hk => aset_n (by simp))
  obtain ⟨ad1, hAad1⟩ : ∃ z, z = aset ad [2, 9] q9 := ⟨_, rfl⟩
  rw [← hAad1]
  refine V_wd (w' := wset (wset (LSW ad1 σ σ tl t lo) [2, 6, j, hSc (cH σ j)] (eI 2 (suF (hb, ds)))) [2, 9] (eA (hSc (cH σ j) + 1) (va_up (adN (hSc (cH σ j)) (fun k => ad1 [2, 6, j, k])) (hSc (cH σ j)) (some (ad1 [2, 6, j, hSc (cH σ j)]))))) (by rw [hAad1]; exact (by rw [hrow1, LSW_ad9, aset_n (by simp)])) ?_
  refine V_lvE (lv' := [(8, .ref (ad1 [2, 6, j, hSc (cH σ j)])), (7, .int (nI (hSc (cH σ j)))), (6, .ref (ad1 [2, 3, j])), (5, .int (nI j)), (0, .ref (ad1 [0])), (1, .ref (ad1 [2])), (2, .int x), (3, .int (nI (cN σ))), (4, .int (nI so))]) (by first | rfl | (rw [hAad1]; done) | (rw [hAad1]; simp [aset])) ?_
  refine V_stE (st' := [.ref (ad1 [2, 9]), .ref (ad1 [2, 3, j])]) (by first | rfl | (rw [hAad1]; done) | (rw [hAad1]; simp [aset])) ?_
  refine V_put (ci := 6) (k := 0) C dL_act_240 RX7 RX7 TX7 5 tyX7 tyX7_ok nmX7 fw_X7 rfl (by decide) tw_529 rfl (Or.inl rfl) rfl rfl rfl ((wset_n (by simp)).trans ((wset_n (by simp)).trans (SW_h hj))) (Nat.le_of_ble_eq_true rfl) ?_
  refine V_wd (w' := wset (wset (wset (LSW ad1 σ σ tl t lo) [2, 6, j, hSc (cH σ j)] (eI 2 (suF (hb, ds)))) [2, 9] (eA (hSc (cH σ j) + 1) (va_up (adN (hSc (cH σ j)) (fun k => ad1 [2, 6, j, k])) (hSc (cH σ j)) (some (ad1 [2, 6, j, hSc (cH σ j)]))))) ([2, 3, j]) (.inr (6, [.ref (ad1 [2, 9]), .int (nI (hDm (cH σ j))), .int (nI (hDu (cH σ j))), .int (hCe (cH σ j)), .int (nI (hDy (cH σ j)))]))) rfl ?_
  refine V_aload C dL_act_243 2 rfl ?_
  refine V_callV (r := (RX7, TX7, 5)) C [] dL_act_245 m_X7_strike k_X7_strike tw_556 rfl rfl rfl wset_s rfl rfl (Nat.le_of_ble_eq_true rfl) ⟨by omega, by omega, by omega, by omega⟩ (s_strikeG hl (by omega) wset_s) (kr_none ?_) kx_no
  refine V_wd (w' := wset (wset (wset (LSW ad1 σ σ tl t lo) [2, 6, j, hSc (cH σ j)] (eI 2 (suF (hb, ds)))) [2, 9] (eA (hSc (cH σ j) + 1) (va_up (adN (hSc (cH σ j)) (fun k => ad1 [2, 6, j, k])) (hSc (cH σ j)) (some (ad1 [2, 6, j, hSc (cH σ j)]))))) ([2, 3, j]) (.inr (6, [.ref (ad1 [2, 9]), .int (nI (hDm (cH σ j))), .int (nI (hDu (cH σ j))), .int (-1), .int (nI 0)]))) wset_wset ?_
  refine V_ren (A := [2, 5, j]) (B := [2, 9]) (by simp) ?_
  obtain ⟨ad2, hAad2⟩ : ∃ z, z = aset ad1 [2, 5, j] (ad1 [2, 9]) := ⟨_, rfl⟩
  rw [← hAad2]
  refine V_wd (w' := LSW ad2 σ (setH σ j (hSc (cH σ j) + 1, hDm (cH σ j), hDu (cH σ j), -1, 0, fup (hSu (cH σ j)) (hSc (cH σ j)) (hb, ds))) tl t lo) (by rw [hAad2]; exact LSW_addS hj rfl) ?_
  refine V_lvE (lv' := [(8, .ref (ad2 [2, 6, j, hSc (cH σ j)])), (7, .int (nI (hSc (cH σ j)))), (6, .ref (ad2 [2, 3, j])), (5, .int (nI j)), (0, .ref (ad2 [0])), (1, .ref (ad2 [2])), (2, .int x), (3, .int (nI (cN σ))), (4, .int (nI so))]) (by first | rfl | (rw [hAad2]; done) | (rw [hAad2]; simp [aset])) ?_
  refine V_stE (st' := []) (by first | rfl | (rw [hAad2]; done) | (rw [hAad2]; simp [aset])) ?_
  have hrow : hSc (cH (setH σ j (hSc (cH σ j) + 1, hDm (cH σ j), hDu (cH σ j), -1, 0, fup (hSu (cH σ j)) (hSc (cH σ j)) (hb, ds))) j) = hSc (cH σ j) + 1 := by show hSc (fup _ j _ j) = _; rw [fup_s]
  have hrow2 : hSu (cH (setH σ j (hSc (cH σ j) + 1, hDm (cH σ j), hDu (cH σ j), -1, 0, fup (hSu (cH σ j)) (hSc (cH σ j)) (hb, ds))) j) (hSc (cH σ j)) = (hb, ds) := by show hSu (fup _ j _ j) _ = _; rw [fup_s]; exact fup_s
  refine V_aload_n C dL_act_248 4 rfl ?_
  refine V_iload C dL_act_249 3 rfl ?_
  refine V_aload C dL_act_251 0 rfl ?_
  refine V_iconst (v := nI 0) C dL_act_253 (by decide) ?_
  refine V_ialdn (v := (nI ds)) C dL_act_254 rfl ((SW_u (σ := setH σ j (hSc (cH σ j) + 1, hDm (cH σ j), hDu (cH σ j), -1, 0, fup (hSu (cH σ j)) (hSc (cH σ j)) (hb, ds))) hj (by rw [hrow]; exact Nat.lt_succ_self _)).trans (by rw [hrow2])) (by decide) (by decide) rfl ?_
  refine V_aload C dL_act_255 0 rfl ?_
  refine V_iconst (v := nI 1) C dL_act_257 (by decide) ?_
  refine V_ialdn (v := (nI hb)) C dL_act_258 rfl ((SW_u (σ := setH σ j (hSc (cH σ j) + 1, hDm (cH σ j), hDu (cH σ j), -1, 0, fup (hSu (cH σ j)) (hSc (cH σ j)) (hb, ds))) hj (by rw [hrow]; exact Nat.lt_succ_self _)).trans (by rw [hrow2])) (by decide) (by decide) rfl ?_
  refine V_wd (w' := LW ad2 σ (setH σ j (hSc (cH σ j) + 1, hDm (cH σ j), hDu (cH σ j), -1, 0, fup (hSu (cH σ j)) (hSc (cH σ j)) (hb, ds))) tl t lo) LW_LS.symm ?_
  refine V_callV (r := (RX6, TX6, 8)) C [.int (nI j), .int (nI ds), .int (nI hb)] dL_act_259 m_X6_addSurface k_X6_addSurface tw_221 rfl rfl rfl PW_b rfl rfl (Nat.le_of_ble_eq_true rfl) ⟨by omega, by omega, by omega, by omega⟩ (p_addSurface (i := 0) hl (by omega) hσ hj h_ds.2 h_hb (inR_ok (by omega) (by omega) (by decide)) (inR_ok (by omega) (by omega) (by decide)) h6) (kr_RPa (x := .int (nI (hSc (cH σ j)))) (fun ad3 hK tl t lo => ?_)) kx_no
  refine V_lv [1] rfl ?_
  refine V_wd (w' := LW ad3 (setH σ j (hSc (cH σ j) + 1, hDm (cH σ j), hDu (cH σ j), -1, 0, fup (hSu (cH σ j)) (hSc (cH σ j)) (hb, ds))) (setH σ j (hSc (cH σ j) + 1, hDm (cH σ j), hDu (cH σ j), -1, 0, fup (hSu (cH σ j)) (hSc (cH σ j)) (hb, ds))) tl t lo) (LW_a hK) ?_
  refine V_iload C dL_act_262 0 rfl ?_
  refine V_icmpn_ne (tgt := 271) C dL_act_264 (by decide) (by omega) (by omega) (fun hb1 => by exfalso; omega) (fun hb1 => ?_)
  refine V_iconst (v := nI 1) C dL_act_267 (by decide) ?_
  refine V_goto (tgt := 272) C dL_act_268 (by decide) ?_
  exact V_iret C .boolean dL_act_272 hr rfl (hq _ _ _ _ _ ⟨hK.2.trans (by rw [hAad2, hAad1]; simp [aset]), (hK.1 2 [] (by decide)).trans (by rw [hAad2, hAad1]; simp [aset])⟩ (addS_ok hσ hI0 hj h6 h_hb h_ds.1 h_ds.2) hn) (by omega) (by omega)
set_option maxHeartbeats 4000000 in
theorem act_surf {p : Program} {l : Launch} {e : Env} {s : State} {m : MethodId} {args : Array Value} {below : List Frame} {meth : Method} {c : Code} {D : va_G} {ba d mc ms : Nat} {ad : Adr} {cells slots : Nat} {QR : Option Value → Adr → Wd → Prop} {QX : String → Adr → Wd → Prop} (C : Cx p l s m args meth c D ba RL cL_act 19 [] d) (hl : l.stackTraces = false) (hr : meth.sig.returnType = (some .boolean)) (hd : 10 ≤ d) {σ : CS} {tl : Int32} {t : TT} {lo : Nat → Int32} (hσ : cOK σ) (hI0 : cI σ) (hn : 1 ≤ cN σ) (hcm : cells + 26 ≤ mc) (hsm : slots + 170 ≤ ms) {x : Int32} {so : Nat} (hq : ∀ ad' σ tl t lo, (ad' [0] = ad [0] ∧ ad' [2] = ad [2]) → IV σ → 1 ≤ cN σ → QR (some (.int (nI 1))) ad' (LW ad' σ σ tl t lo)) {j : Nat} (hj : j < cN σ)  : V p l e s m args below meth c D ba d mc ms (MO D ba QR QX below args s mc ms) 19 ad (LSW ad σ σ tl t lo) 168 [(7, .int (nI (hSc (cH σ j)))), (6, .ref (ad [2, 3, j])), (5, .int (nI j)), (0, .ref (ad [0])), (1, .ref (ad [2])), (2, .int x), (3, .int (nI (cN σ))), (4, .int (nI so))] [] cells slots := by
  have hσ1 := hσ.1
  have hσ2 := hσ.2.1
  have hu := hσ.2.2.1 j hj
  have hu1 := hu.1
  have hu2 := hu.2.1
  have hu3 := hu.2.2.1
  have hu4 := hu.2.2.2.1
  refine V_iload C dL_act_168 0 rfl ?_
  refine V_bipush (v := nI 6) C dL_act_170 (by decide) ?_
  refine V_icmpn_ne (tgt := 177) C dL_act_172 (by decide) (by omega) (by decide) (fun hb1 => ?_) (fun hb1 => ?_)
  · skip
    refine V_iconst (v := nI 2) C dL_act_177 (by decide) ?_
    refine V_newIn (N := 2) C [2, 6, j, hSc (cH σ j)] dL_act_178 tw_69 (by decide) (SW_uf (Nat.le_refl _)) (by omega) (by omega) (fun q => ?_)
    have hq5 : q = aset ad [2, 6, j, hSc (cH σ j)] q [2, 6, j, hSc (cH σ j)] := aset_s.symm
    refine V_stE (st' := [.ref (aset ad [2, 6, j, hSc (cH σ j)] q [2, 6, j, hSc (cH σ j)])]) (by rw [← hq5]) ?_
    obtain ⟨ad1, hAad1⟩ : ∃ z, z = aset ad [2, 6, j, hSc (cH σ j)] q := ⟨_, rfl⟩
    rw [← hAad1]
    refine V_wd (w' := wset (LSW ad1 σ σ tl t lo) [2, 6, j, hSc (cH σ j)] (eI 2 (fun _ => 0))) (by rw [hAad1]; exact (by rw [LSW_ad6])) ?_
    refine V_lvE (lv' := [(7, .int (nI (hSc (cH σ j)))), (6, .ref (ad1 [2, 3, j])), (5, .int (nI j)), (0, .ref (ad1 [0])), (1, .ref (ad1 [2])), (2, .int x), (3, .int (nI (cN σ))), (4, .int (nI so))]) (by first | rfl | (rw [hAad1]; done) | (rw [hAad1]; simp [aset])) ?_
    refine V_stE (st' := [.ref (ad1 [2, 6, j, hSc (cH σ j)])]) (by first | rfl | (rw [hAad1]; done) | (rw [hAad1]; simp [aset])) ?_
    refine V_dup C dL_act_180 rfl ?_
    refine V_iconst (v := nI 0) C dL_act_181 (by decide) ?_
    refine V_iconst (v := nI 1) C dL_act_182 (by decide) ?_
    refine V_iload_n C dL_act_183 5 rfl ?_
    refine V_iconst (v := nI 3) C dL_act_184 (by decide) ?_
    refine V_ishrn C dL_act_185 ?_
    refine V_bipush (v := nI 60) C dL_act_186 (by decide) ?_
    have hbl188 := bl_lt (v := (sh x 3)) (n := 60) (by omega)
    refine V_callS C [.int (sh x 3), .int (nI 60)] dL_act_188 m_L_below k_L_below tw_508 rfl rfl (Nat.le_of_ble_eq_true rfl) ⟨by omega, by omega, by omega, by omega⟩ (s_below hl (by omega) (sh x 3) (by omega) (by omega)) (kr_some (x := .int (nI (bl (sh x 3) 60))) ?_) kx_no
    refine V_iaddn C dL_act_191 ?_
    refine V_iastn C dL_act_192 rfl wset_s (by omega) (by decide) ?_
    refine V_wd (w' := wset (LSW ad1 σ σ tl t lo) ([2, 6, j, hSc (cH σ j)]) (eI 2 (upd (fun _ => 0) 0 (nI (1 + (bl (sh x 3) 60)))))) wset_wset ?_
    refine V_dup C dL_act_193 rfl ?_
    refine V_iconst (v := nI 1) C dL_act_194 (by decide) ?_
    refine V_iload_n C dL_act_195 5 rfl ?_
    refine V_iconst (v := nI 3) C dL_act_196 (by decide) ?_
    have hbl197 := bl_lt (v := x) (n := 3) (by omega)
    refine V_callS C [.int x, .int (nI 3)] dL_act_197 m_L_below k_L_below tw_508 rfl rfl (Nat.le_of_ble_eq_true rfl) ⟨by omega, by omega, by omega, by omega⟩ (s_below hl (by omega) x (by omega) (by omega)) (kr_some (x := .int (nI (bl x 3))) ?_) kx_no
    refine V_ifn_ne (tgt := 214) C dL_act_200 (by decide) (by omega) (fun hb2 => ?_) (fun hb2 => ?_)
    · skip
      refine V_bipush (v := nI 60) C dL_act_214 (by decide) ?_
      refine V_iload_n C dL_act_216 5 rfl ?_
      refine V_iconst (v := nI 5) C dL_act_217 (by decide) ?_
      refine V_ishrn C dL_act_218 ?_
      refine V_bipush (v := nI 40) C dL_act_219 (by decide) ?_
      have hbl221 := bl_lt (v := (sh x 5)) (n := 40) (by omega)
      refine V_callS C [.int (sh x 5), .int (nI 40)] dL_act_221 m_L_below k_L_below tw_508 rfl rfl (Nat.le_of_ble_eq_true rfl) ⟨by omega, by omega, by omega, by omega⟩ (s_below hl (by omega) (sh x 5) (by omega) (by omega)) (kr_some (x := .int (nI (bl (sh x 5) 40))) ?_) kx_no
      refine V_iaddn C dL_act_224 ?_
      refine V_lv [0, 1, 2, 3, 4, 5, 6, 7] rfl ?_
      exact act_surf2 C hl hr (by omega) hσ hI0 hn (by omega) (by omega) (keep_t ⟨by rw [hAad1]; simp [aset], by rw [hAad1]; simp [aset]⟩ hq) hj (by omega) ⟨by omega, by omega⟩ (by omega)
    · skip
      refine V_iload_n C dL_act_203 5 rfl ?_
      refine V_iconst (v := nI 5) C dL_act_204 (by decide) ?_
      refine V_ishrn C dL_act_205 ?_
      refine V_bipush (v := nI 100) C dL_act_206 (by decide) ?_
      have hbl208 := bl_lt (v := (sh x 5)) (n := 100) (by omega)
      refine V_callS C [.int (sh x 5), .int (nI 100)] dL_act_208 m_L_below k_L_below tw_508 rfl rfl (Nat.le_of_ble_eq_true rfl) ⟨by omega, by omega, by omega, by omega⟩ (s_below hl (by omega) (sh x 5) (by omega) (by omega)) (kr_some (x := .int (nI (bl (sh x 5) 100))) ?_) kx_no
      refine V_goto (tgt := 225) C dL_act_211 (by decide) ?_
      refine V_lv [0, 1, 2, 3, 4, 5, 6, 7] rfl ?_
      exact act_surf2 C hl hr (by omega) hσ hI0 hn (by omega) (by omega) (keep_t ⟨by rw [hAad1]; simp [aset], by rw [hAad1]; simp [aset]⟩ hq) hj (by omega) ⟨by omega, by omega⟩ (by omega)
  · skip
    refine V_wd (w' := LW ad σ σ tl t lo) LW_LS.symm ?_
    refine V_iconst (v := nI 1) C dL_act_175 (by decide) ?_
    exact V_iret C .boolean dL_act_176 hr rfl (hq _ _ _ _ _ ⟨rfl, rfl⟩ ⟨hσ, hI0⟩ (by first | exact hn | exact Nat.le_add_left 1 _)) (by omega) (by omega)
