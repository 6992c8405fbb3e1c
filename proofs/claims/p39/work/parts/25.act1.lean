
set_option maxHeartbeats 4000000 in
theorem act_damp {p : Program} {l : Launch} {e : Env} {s : State} {m : MethodId} {args : Array Value} {below : List Frame} {meth : Method} {c : Code} {D : va_G} {ba d mc ms : Nat} {ad : Adr} {cells slots : Nat} {QR : Option Value → Adr → Wd → Prop} {QX : String → Adr → Wd → Prop} (C : Cx p l s m args meth c D ba RL cL_act 19 [] d) (hl : l.stackTraces = false) (hr : meth.sig.returnType = (some .boolean)) (hd : 10 ≤ d) {σ : CS} {tl : Int32} {t : TT} {lo : Nat → Int32} (hσ : cOK σ) (hI0 : cI σ) (hn : 1 ≤ cN σ) (hcm : cells + 24 ≤ mc) (hsm : slots + 160 ≤ ms) {x : Int32} {so : Nat} (hq : ∀ ad' σ tl t lo, (ad' [0] = ad [0] ∧ ad' [2] = ad [2]) → IV σ → 1 ≤ cN σ → QR (some (.int (nI 1))) ad' (LW ad' σ σ tl t lo)) {j : Nat} (hj : j < cN σ)  : V p l e s m args below meth c D ba d mc ms (MO D ba QR QX below args s mc ms) 19 ad (LSW ad σ σ tl t lo) 411 [(8, .int (nI (cK σ))), (7, .int (nI (hSc (cH σ j)))), (6, .ref (ad [2, 3, j])), (5, .int (nI j)), (0, .ref (ad [0])), (1, .ref (ad [2])), (2, .int x), (3, .int (nI (cN σ))), (4, .int (nI so))] [] cells slots := by
  have hσ1 := hσ.1
  have hσ2 := hσ.2.1
  have hu := hσ.2.2.1 j hj
  have hu1 := hu.1
  have hu2 := hu.2.1
  have hu3 := hu.2.2.1
  have hu4 := hu.2.2.2.1
  refine V_aload C dL_act_411 2 rfl ?_
  refine V_get (ci := 6) (k := 1) C dL_act_413 RX7 RX7 TX7 5 fw_X7 rfl (by decide) tw_531 rfl rfl (SW_h hj) rfl ?_
  refine V_istore C [(11, .int (nI (hDm (cH σ j)))), (8, .int (nI (cK σ))), (7, .int (nI (hSc (cH σ j)))), (6, .ref (ad [2, 3, j])), (5, .int (nI j)), (0, .ref (ad [0])), (1, .ref (ad [2])), (2, .int x), (3, .int (nI (cN σ))), (4, .int (nI so))] dL_act_416 (by decide) rfl ?_
  refine V_aload C dL_act_418 3 rfl ?_
  refine V_iload_n C dL_act_420 7 rfl ?_
  refine V_iconst (v := nI 3) C dL_act_421 (by decide) ?_
  refine V_ishrn C dL_act_422 ?_
  refine V_bipush (v := nI 91) C dL_act_423 (by decide) ?_
  have hbl425 := bl_lt (v := (sh x 3)) (n := 91) (by omega)
  refine V_callS C [.int (sh x 3), .int (nI 91)] dL_act_425 m_L_below k_L_below tw_508 rfl rfl (Nat.le_of_ble_eq_true rfl) ⟨by omega, by omega, by omega, by omega⟩ (s_below hl (by omega) (sh x 3) (by omega) (by omega)) (kr_some (x := .int (nI (bl (sh x 3) 91))) ?_) kx_no
  refine V_put (ci := 6) (k := 1) C dL_act_428 RX7 RX7 TX7 5 tyX7 tyX7_ok nmX7 fw_X7 rfl (by decide) tw_531 rfl (Or.inl rfl) rfl rfl rfl (SW_h hj) (Nat.le_of_ble_eq_true rfl) ?_
  refine V_wd (w' := wset (LSW ad σ σ tl t lo) ([2, 3, j]) (.inr (6, [.ref (ad [2, 5, j]), .int (nI (bl (sh x 3) 91)), .int (nI (hDu (cH σ j))), .int (hCe (cH σ j)), .int (nI (hDy (cH σ j)))]))) rfl ?_
  refine V_aload C dL_act_431 3 rfl ?_
  refine V_callV (r := (RX7, TX7, 5)) C [] dL_act_433 m_X7_strike k_X7_strike tw_556 rfl rfl rfl wset_s rfl rfl (Nat.le_of_ble_eq_true rfl) ⟨by omega, by omega, by omega, by omega⟩ (s_strikeG hl (by omega) wset_s) (kr_none ?_) kx_no
  refine V_wd (w' := wset (LSW ad σ σ tl t lo) ([2, 3, j]) (.inr (6, [.ref (ad [2, 5, j]), .int (nI (bl (sh x 3) 91)), .int (nI (hDu (cH σ j))), .int (-1), .int (nI 0)]))) wset_wset ?_
  refine V_aload_n C dL_act_436 5 rfl ?_
  refine V_iload C dL_act_437 4 rfl ?_
  refine V_aload C dL_act_439 3 rfl ?_
  refine V_get (ci := 6) (k := 1) C dL_act_441 RX7 RX7 TX7 5 fw_X7 rfl (by decide) tw_531 rfl rfl wset_s rfl ?_
  refine V_wd (w' := LW ad σ (setH σ j (hSc (cH σ j), (bl (sh x 3) 91), hDu (cH σ j), -1, 0, hSu (cH σ j))) tl t lo) ((SW_h' hj).trans LW_LS.symm) ?_
  refine V_callV (r := (RX6, TX6, 8)) C [.int (nI j), .int (nI (bl (sh x 3) 91))] dL_act_444 m_X6_setDamping k_X6_setDamping tw_564 rfl rfl rfl PW_b rfl rfl (Nat.le_of_ble_eq_true rfl) ⟨by omega, by omega, by omega, by omega⟩ (p_setDamping (i := 0) hl (by omega) hσ hj (by omega) (inR_ok (Nat.zero_le _) (by omega) (by decide))) (kr_RP (x := .int (nI (hDm (cH σ j)))) (fun tl t lo => ?_)) kx_no
  refine V_iload C dL_act_447 0 rfl ?_
  refine V_icmpn_ne (tgt := 456) C dL_act_449 (by decide) (by omega) (by omega) (fun hb1 => by exfalso; omega) (fun hb1 => ?_)
  refine V_iconst (v := nI 1) C dL_act_452 (by decide) ?_
  refine V_goto (tgt := 457) C dL_act_453 (by decide) ?_
  exact V_iret C .boolean dL_act_457 hr rfl (hq _ _ _ _ _ ⟨rfl, rfl⟩ ⟨cOK_set hσ ⟨hu.1, by show (bl (sh x 3) 91) ≤ 90; omega, hu.2.2.1, Nat.zero_le _, hu.2.2.2.2⟩, (cI_set hI0 (Or.inl ⟨rfl, rfl⟩))⟩ (by first | exact hn | exact Nat.le_add_left 1 _)) (by omega) (by omega)
set_option maxHeartbeats 4000000 in
theorem act_clean {p : Program} {l : Launch} {e : Env} {s : State} {m : MethodId} {args : Array Value} {below : List Frame} {meth : Method} {c : Code} {D : va_G} {ba d mc ms : Nat} {ad : Adr} {cells slots : Nat} {QR : Option Value → Adr → Wd → Prop} {QX : String → Adr → Wd → Prop} (C : Cx p l s m args meth c D ba RL cL_act 19 [] d) (hl : l.stackTraces = false) (hr : meth.sig.returnType = (some .boolean)) (hd : 10 ≤ d) {σ : CS} {tl : Int32} {t : TT} {lo : Nat → Int32} (hσ : cOK σ) (hI0 : cI σ) (hn : 1 ≤ cN σ) (hcm : cells + 24 ≤ mc) (hsm : slots + 160 ≤ ms) {x : Int32} {so : Nat} (hq : ∀ ad' σ tl t lo, (ad' [0] = ad [0] ∧ ad' [2] = ad [2]) → IV σ → 1 ≤ cN σ → QR (some (.int (nI 1))) ad' (LW ad' σ σ tl t lo)) {j : Nat} (hj : j < cN σ)  : V p l e s m args below meth c D ba d mc ms (MO D ba QR QX below args s mc ms) 19 ad (LSW ad σ σ tl t lo) 458 [(8, .int (nI (cK σ))), (7, .int (nI (hSc (cH σ j)))), (6, .ref (ad [2, 3, j])), (5, .int (nI j)), (0, .ref (ad [0])), (1, .ref (ad [2])), (2, .int x), (3, .int (nI (cN σ))), (4, .int (nI so))] [] cells slots := by
  have hσ1 := hσ.1
  have hσ2 := hσ.2.1
  have hu := hσ.2.2.1 j hj
  have hu1 := hu.1
  have hu2 := hu.2.1
  have hu3 := hu.2.2.1
  have hu4 := hu.2.2.2.1
  refine V_aload C dL_act_458 2 rfl ?_
  refine V_get (ci := 6) (k := 2) C dL_act_460 RX7 RX7 TX7 5 fw_X7 rfl (by decide) tw_534 rfl rfl (SW_h hj) rfl ?_
  refine V_istore C [(12, .int (nI (hDu (cH σ j)))), (8, .int (nI (cK σ))), (7, .int (nI (hSc (cH σ j)))), (6, .ref (ad [2, 3, j])), (5, .int (nI j)), (0, .ref (ad [0])), (1, .ref (ad [2])), (2, .int x), (3, .int (nI (cN σ))), (4, .int (nI so))] dL_act_463 (by decide) rfl ?_
  refine V_aload C dL_act_465 3 rfl ?_
  refine V_iconst (v := nI 0) C dL_act_467 (by decide) ?_
  refine V_put (ci := 6) (k := 2) C dL_act_468 RX7 RX7 TX7 5 tyX7 tyX7_ok nmX7 fw_X7 rfl (by decide) tw_534 rfl (Or.inl rfl) rfl rfl rfl (SW_h hj) (Nat.le_of_ble_eq_true rfl) ?_
  refine V_wd (w' := wset (LSW ad σ σ tl t lo) ([2, 3, j]) (.inr (6, [.ref (ad [2, 5, j]), .int (nI (hDm (cH σ j))), .int (nI 0), .int (hCe (cH σ j)), .int (nI (hDy (cH σ j)))]))) rfl ?_
  refine V_aload_n C dL_act_471 5 rfl ?_
  refine V_iload C dL_act_472 4 rfl ?_
  refine V_wd (w' := LW ad σ (setH σ j (hSc (cH σ j), hDm (cH σ j), 0, hCe (cH σ j), hDy (cH σ j), hSu (cH σ j))) tl t lo) ((SW_h' hj).trans LW_LS.symm) ?_
  refine V_callV (r := (RX6, TX6, 8)) C [.int (nI j)] dL_act_474 m_X6_clean k_X6_clean tw_568 rfl rfl rfl PW_b rfl rfl (Nat.le_of_ble_eq_true rfl) ⟨by omega, by omega, by omega, by omega⟩ (p_clean (i := 0) hl (by omega) hσ hj) (kr_RP (x := .int (nI (hDu (cH σ j)))) (fun tl t lo => ?_)) kx_no
  refine V_iload C dL_act_477 0 rfl ?_
  refine V_icmpn_ne (tgt := 486) C dL_act_479 (by decide) (by omega) (by omega) (fun hb1 => by exfalso; omega) (fun hb1 => ?_)
  refine V_iconst (v := nI 1) C dL_act_482 (by decide) ?_
  refine V_goto (tgt := 487) C dL_act_483 (by decide) ?_
  exact V_iret C .boolean dL_act_487 hr rfl (hq _ _ _ _ _ ⟨rfl, rfl⟩ ⟨cOK_set hσ ⟨hu.1, hu.2.1, Nat.zero_le _, hu.2.2.2.1, hu.2.2.2.2⟩, cI_set hI0 (hI0 j hj)⟩ (by first | exact hn | exact Nat.le_add_left 1 _)) (by omega) (by omega)
set_option maxHeartbeats 4000000 in
theorem act_revoke {p : Program} {l : Launch} {e : Env} {s : State} {m : MethodId} {args : Array Value} {below : List Frame} {meth : Method} {c : Code} {D : va_G} {ba d mc ms : Nat} {ad : Adr} {cells slots : Nat} {QR : Option Value → Adr → Wd → Prop} {QX : String → Adr → Wd → Prop} (C : Cx p l s m args meth c D ba RL cL_act 19 [] d) (hl : l.stackTraces = false) (hr : meth.sig.returnType = (some .boolean)) (hd : 10 ≤ d) {σ : CS} {tl : Int32} {t : TT} {lo : Nat → Int32} (hσ : cOK σ) (hI0 : cI σ) (hn : 1 ≤ cN σ) (hcm : cells + 24 ≤ mc) (hsm : slots + 160 ≤ ms) {x : Int32} {so : Nat} (hq : ∀ ad' σ tl t lo, (ad' [0] = ad [0] ∧ ad' [2] = ad [2]) → IV σ → 1 ≤ cN σ → QR (some (.int (nI 1))) ad' (LW ad' σ σ tl t lo)) {j : Nat} (hj : j < cN σ)  : V p l e s m args below meth c D ba d mc ms (MO D ba QR QX below args s mc ms) 19 ad (LSW ad σ σ tl t lo) 775 [(8, .int (nI (cK σ))), (7, .int (nI (hSc (cH σ j)))), (6, .ref (ad [2, 3, j])), (5, .int (nI j)), (0, .ref (ad [0])), (1, .ref (ad [2])), (2, .int x), (3, .int (nI (cN σ))), (4, .int (nI so))] [] cells slots := by
  have hσ1 := hσ.1
  have hσ2 := hσ.2.1
  have hu := hσ.2.2.1 j hj
  have hu1 := hu.1
  have hu2 := hu.2.1
  have hu3 := hu.2.2.1
  have hu4 := hu.2.2.2.1
  refine V_aload C dL_act_775 2 rfl ?_
  refine V_get (ci := 6) (k := 3) C dL_act_777 RX7 RX7 TX7 5 fw_X7 rfl (by decide) tw_537 rfl rfl (SW_h hj) rfl ?_
  refine V_if_lt (tgt := 791) C dL_act_780 (by decide) (fun hb1 => ?_) (fun hb1 => ?_)
  · skip
    refine V_wd (w' := LW ad σ σ tl t lo) LW_LS.symm ?_
    refine V_iconst (v := nI 1) C dL_act_791 (by decide) ?_
    exact V_iret C .boolean dL_act_792 hr rfl (hq _ _ _ _ _ ⟨rfl, rfl⟩ ⟨hσ, hI0⟩ (by first | exact hn | exact Nat.le_add_left 1 _)) (by omega) (by omega)
  · skip
    refine V_iload_n C dL_act_783 6 rfl ?_
    refine V_iconst (v := nI 3) C dL_act_784 (by decide) ?_
    have hbl785 := bl_lt (v := x) (n := 3) (by omega)
    refine V_callS C [.int x, .int (nI 3)] dL_act_785 m_L_below k_L_below tw_508 rfl rfl (Nat.le_of_ble_eq_true rfl) ⟨by omega, by omega, by omega, by omega⟩ (s_below hl (by omega) x (by omega) (by omega)) (kr_some (x := .int (nI (bl x 3))) ?_) kx_no
    refine V_ifn_le (tgt := 793) C dL_act_788 (by decide) (by omega) (fun hb2 => ?_) (fun hb2 => ?_)
    · skip
      have hc := (hI_ge (hI0 j hj) hb1).1
      refine V_aload C dL_act_793 2 rfl ?_
      refine V_get (ci := 6) (k := 4) C dL_act_795 RX7 RX7 TX7 5 fw_X7 rfl (by decide) tw_539 rfl rfl (SW_h hj) rfl ?_
      refine V_istore C [(16, .int (nI (hDy (cH σ j)))), (8, .int (nI (cK σ))), (7, .int (nI (hSc (cH σ j)))), (6, .ref (ad [2, 3, j])), (5, .int (nI j)), (0, .ref (ad [0])), (1, .ref (ad [2])), (2, .int x), (3, .int (nI (cN σ))), (4, .int (nI so))] dL_act_798 (by decide) rfl ?_
      refine V_aload C dL_act_800 3 rfl ?_
      refine V_callV (r := (RX7, TX7, 5)) C [] dL_act_802 m_X7_strike k_X7_strike tw_556 rfl rfl rfl (SW_h hj) rfl rfl (Nat.le_of_ble_eq_true rfl) ⟨by omega, by omega, by omega, by omega⟩ (s_strikeG hl (by omega) (SW_h hj)) (kr_none ?_) kx_no
      refine V_wd (w' := wset (LSW ad σ σ tl t lo) ([2, 3, j]) (.inr (6, [.ref (ad [2, 5, j]), .int (nI (hDm (cH σ j))), .int (nI (hDu (cH σ j))), .int (-1), .int (nI 0)]))) rfl ?_
      refine V_aload_n C dL_act_805 5 rfl ?_
      refine V_iload C dL_act_806 4 rfl ?_
      refine V_wd (w' := LW ad σ (setH σ j (hSc (cH σ j), hDm (cH σ j), hDu (cH σ j), -1, 0, hSu (cH σ j))) tl t lo) ((SW_h' hj).trans LW_LS.symm) ?_
      refine V_callV (r := (RX6, TX6, 8)) C [.int (nI j)] dL_act_808 m_X6_revoke k_X6_revoke tw_609 rfl rfl rfl PW_b rfl rfl (Nat.le_of_ble_eq_true rfl) ⟨by omega, by omega, by omega, by omega⟩ (p_revoke (i := 0) hl (by omega) hσ hj hc) (kr_RP (x := .int (nI (hDy (cH σ j)))) (fun tl t lo => ?_)) kx_no
      refine V_iload C dL_act_811 0 rfl ?_
      refine V_icmpn_ne (tgt := 820) C dL_act_813 (by decide) (by omega) (by omega) (fun hb3 => by exfalso; omega) (fun hb3 => ?_)
      refine V_iconst (v := nI 1) C dL_act_816 (by decide) ?_
      refine V_goto (tgt := 821) C dL_act_817 (by decide) ?_
      exact V_iret C .boolean dL_act_821 hr rfl (hq _ _ _ _ _ ⟨rfl, rfl⟩ ⟨cOK_set hσ ⟨hu.1, hu.2.1, hu.2.2.1, Nat.zero_le _, hu.2.2.2.2⟩, (cI_set hI0 (Or.inl ⟨rfl, rfl⟩))⟩ (by first | exact hn | exact Nat.le_add_left 1 _)) (by omega) (by omega)
    · skip
      refine V_wd (w' := LW ad σ σ tl t lo) LW_LS.symm ?_
      refine V_iconst (v := nI 1) C dL_act_791 (by decide) ?_
      exact V_iret C .boolean dL_act_792 hr rfl (hq _ _ _ _ _ ⟨rfl, rfl⟩ ⟨hσ, hI0⟩ (by first | exact hn | exact Nat.le_add_left 1 _)) (by omega) (by omega)
theorem SW_move {i : Nat} {ad : Adr} {σ : CS} {o : Wd} {j k dm du dy : Nat} {ce : Int32} {q0 : Nat × Nat} (hj : j < cN σ) (hk : k < hSc (cH σ j)) : wset (wset (SW i ad σ o) [i, 6, j, k] (eI 2 (suF q0))) [i, 3, j] (eLH (ad [i, 5, j]) dm du ce dy) = SW i ad (setH σ j (hSc (cH σ j), dm, du, ce, dy, fup (hSu (cH σ j)) k q0)) o := by
  rw [SW_u' hj hk]
  have e : cH (setH σ j (hSc (cH σ j), hDm (cH σ j), hDu (cH σ j), hCe (cH σ j), hDy (cH σ j), fup (hSu (cH σ j)) k q0)) j = (hSc (cH σ j), hDm (cH σ j), hDu (cH σ j), hCe (cH σ j), hDy (cH σ j), fup (hSu (cH σ j)) k q0) := fup_s
  rw [SW_h' (σ := setH σ j (hSc (cH σ j), hDm (cH σ j), hDu (cH σ j), hCe (cH σ j), hDy (cH σ j), fup (hSu (cH σ j)) k q0)) hj, e, setH_setH]
theorem su_move {h : HallS} {k v : Nat} (hh : hOK h) (h1 : 1 ≤ v) (h2 : v ≤ 60) (hk : k < hSc h) : hOK (hSc h, hDm h, hDu h, -1, 0, fup (hSu h) k ((hSu h k).1, v)) := by
  refine ⟨hh.1, hh.2.1, hh.2.2.1, Nat.zero_le _, fun a ha => ?_⟩
  show (fup (hSu h) k ((hSu h k).1, v) a).1 ≤ 99 ∧ 1 ≤ (fup (hSu h) k ((hSu h k).1, v) a).2 ∧ (fup (hSu h) k ((hSu h k).1, v) a).2 ≤ 60
  by_cases hz : a = k
  · subst hz; rw [fup_s]; exact ⟨(hh.2.2.2.2 a ha).1, h1, h2⟩
  · rw [fup_n hz]; exact hh.2.2.2.2 a ha
set_option maxHeartbeats 4000000 in
theorem act_move {p : Program} {l : Launch} {e : Env} {s : State} {m : MethodId} {args : Array Value} {below : List Frame} {meth : Method} {c : Code} {D : va_G} {ba d mc ms : Nat} {ad : Adr} {cells slots : Nat} {QR : Option Value → Adr → Wd → Prop} {QX : String → Adr → Wd → Prop} (C : Cx p l s m args meth c D ba RL cL_act 19 [] d) (hl : l.stackTraces = false) (hr : meth.sig.returnType = (some .boolean)) (hd : 10 ≤ d) {σ : CS} {tl : Int32} {t : TT} {lo : Nat → Int32} (hσ : cOK σ) (hI0 : cI σ) (hn : 1 ≤ cN σ) (hcm : cells + 24 ≤ mc) (hsm : slots + 160 ≤ ms) {x : Int32} {so : Nat} (hq : ∀ ad' σ tl t lo, (ad' [0] = ad [0] ∧ ad' [2] = ad [2]) → IV σ → 1 ≤ cN σ → QR (some (.int (nI 1))) ad' (LW ad' σ σ tl t lo)) {j : Nat} (hj : j < cN σ) (hm1 : 1 ≤ hSc (cH σ j))  : V p l e s m args below meth c D ba d mc ms (MO D ba QR QX below args s mc ms) 19 ad (LSW ad σ σ tl t lo) 340 [(8, .int (nI (cK σ))), (7, .int (nI (hSc (cH σ j)))), (6, .ref (ad [2, 3, j])), (5, .int (nI j)), (0, .ref (ad [0])), (1, .ref (ad [2])), (2, .int x), (3, .int (nI (cN σ))), (4, .int (nI so))] [] cells slots := by
  have hσ1 := hσ.1
  have hσ2 := hσ.2.1
  have hu := hσ.2.2.1 j hj
  have hu1 := hu.1
  have hu2 := hu.2.1
  have hu3 := hu.2.2.1
  have hu4 := hu.2.2.2.1
  refine V_aload C dL_act_340 2 rfl ?_
  refine V_get (ci := 6) (k := 0) C dL_act_342 RX7 RX7 TX7 5 fw_X7 rfl (by decide) tw_529 rfl rfl (SW_h hj) rfl ?_
  refine V_iload_n C dL_act_345 6 rfl ?_
  refine V_iconst (v := nI 4) C dL_act_346 (by decide) ?_
  refine V_ishrn C dL_act_347 ?_
  refine V_iload C dL_act_348 1 rfl ?_
  have hbl350 := bl_lt (v := (sh x 4)) (n := (hSc (cH σ j))) (by omega)
  refine V_callS C [.int (sh x 4), .int (nI (hSc (cH σ j)))] dL_act_350 m_L_below k_L_below tw_508 rfl rfl (Nat.le_of_ble_eq_true rfl) ⟨by omega, by omega, by omega, by omega⟩ (s_below hl (by omega) (sh x 4) (by omega) (by omega)) (kr_some (x := .int (nI (bl (sh x 4) (hSc (cH σ j))))) ?_) kx_no
  have hk : (bl (sh x 4) (hSc (cH σ j))) < hSc (cH σ j) := hbl350
  have hs9 := hu.2.2.2.2 _ hk
  refine V_aaldA (v := .ref (ad [2, 6, j, (bl (sh x 4) (hSc (cH σ j)))])) C dL_act_353 rfl (SW_s hj) (by omega) (by omega) (by rw [adN_lt hk]; rfl) ?_
  refine V_astore C [(9, .ref (ad [2, 6, j, (bl (sh x 4) (hSc (cH σ j)))])), (8, .int (nI (cK σ))), (7, .int (nI (hSc (cH σ j)))), (6, .ref (ad [2, 3, j])), (5, .int (nI j)), (0, .ref (ad [0])), (1, .ref (ad [2])), (2, .int x), (3, .int (nI (cN σ))), (4, .int (nI so))] dL_act_354 (by decide) rfl ?_
  refine V_aload C dL_act_356 0 rfl ?_
  refine V_iconst (v := nI 0) C dL_act_358 (by decide) ?_
  refine V_ialdn (v := (nI ((hSu (cH σ j) (bl (sh x 4) (hSc (cH σ j)))).2))) C dL_act_359 rfl (SW_u hj hk) (by decide) (by decide) rfl ?_
  refine V_istore C [(10, .int (nI ((hSu (cH σ j) (bl (sh x 4) (hSc (cH σ j)))).2))), (9, .ref (ad [2, 6, j, (bl (sh x 4) (hSc (cH σ j)))])), (8, .int (nI (cK σ))), (7, .int (nI (hSc (cH σ j)))), (6, .ref (ad [2, 3, j])), (5, .int (nI j)), (0, .ref (ad [0])), (1, .ref (ad [2])), (2, .int x), (3, .int (nI (cN σ))), (4, .int (nI so))] dL_act_360 (by decide) rfl ?_
  refine V_aload C dL_act_362 1 rfl ?_
  refine V_iconst (v := nI 0) C dL_act_364 (by decide) ?_
  refine V_iconst (v := nI 1) C dL_act_365 (by decide) ?_
  refine V_iload_n C dL_act_366 8 rfl ?_
  refine V_bipush (v := nI 6) C dL_act_367 (by decide) ?_
  refine V_ishrn C dL_act_369 ?_
  refine V_bipush (v := nI 60) C dL_act_370 (by decide) ?_
  have hbl372 := bl_lt (v := (sh x 6)) (n := 60) (by omega)
  refine V_callS C [.int (sh x 6), .int (nI 60)] dL_act_372 m_L_below k_L_below tw_508 rfl rfl (Nat.le_of_ble_eq_true rfl) ⟨by omega, by omega, by omega, by omega⟩ (s_below hl (by omega) (sh x 6) (by omega) (by omega)) (kr_some (x := .int (nI (bl (sh x 6) 60))) ?_) kx_no
  refine V_iaddn C dL_act_375 ?_
  refine V_iastn C dL_act_376 rfl (SW_u hj hk) (by omega) (by decide) ?_
  refine V_wd (w' := wset (LSW ad σ σ tl t lo) ([2, 6, j, (bl (sh x 4) (hSc (cH σ j)))]) (eI 2 (upd (suF (hSu (cH σ j) (bl (sh x 4) (hSc (cH σ j))))) 0 (nI (1 + (bl (sh x 6) 60)))))) rfl ?_
  refine V_wd (w' := wset (LSW ad σ σ tl t lo) [2, 6, j, (bl (sh x 4) (hSc (cH σ j)))] (eI 2 (suF ((hSu (cH σ j) (bl (sh x 4) (hSc (cH σ j)))).1, 1 + bl (sh x 6) 60)))) (congrArg (fun f => wset (LSW ad σ σ tl t lo) [2, 6, j, (bl (sh x 4) (hSc (cH σ j)))] (eI 2 f)) suF_up) ?_
  refine V_aload C dL_act_377 4 rfl ?_
  refine V_callV (r := (RX7, TX7, 5)) C [] dL_act_379 m_X7_strike k_X7_strike tw_556 rfl rfl rfl ((wset_n (by simp)).trans (SW_h hj)) rfl rfl (Nat.le_of_ble_eq_true rfl) ⟨by omega, by omega, by omega, by omega⟩ (s_strikeG hl (by omega) ((wset_n (by simp)).trans (SW_h hj))) (kr_none ?_) kx_no
  refine V_wd (w' := wset (wset (LSW ad σ σ tl t lo) [2, 6, j, (bl (sh x 4) (hSc (cH σ j)))] (eI 2 (suF ((hSu (cH σ j) (bl (sh x 4) (hSc (cH σ j)))).1, 1 + bl (sh x 6) 60)))) ([2, 3, j]) (.inr (6, [.ref (ad [2, 5, j]), .int (nI (hDm (cH σ j))), .int (nI (hDu (cH σ j))), .int (-1), .int (nI 0)]))) rfl ?_
  refine V_aload_n C dL_act_382 6 rfl ?_
  refine V_iload C dL_act_383 5 rfl ?_
  refine V_iload_n C dL_act_385 8 rfl ?_
  refine V_iconst (v := nI 4) C dL_act_386 (by decide) ?_
  refine V_ishrn C dL_act_387 ?_
  refine V_iload C dL_act_388 3 rfl ?_
  have hbl390 := bl_lt (v := (sh x 4)) (n := (hSc (cH σ j))) (by omega)
  refine V_callS C [.int (sh x 4), .int (nI (hSc (cH σ j)))] dL_act_390 m_L_below k_L_below tw_508 rfl rfl (Nat.le_of_ble_eq_true rfl) ⟨by omega, by omega, by omega, by omega⟩ (s_below hl (by omega) (sh x 4) (by omega) (by omega)) (kr_some (x := .int (nI (bl (sh x 4) (hSc (cH σ j))))) ?_) kx_no
  refine V_aload C dL_act_393 1 rfl ?_
  refine V_iconst (v := nI 0) C dL_act_395 (by decide) ?_
  refine V_ialdn (v := (nI (1 + bl (sh x 6) 60))) C dL_act_396 rfl ((wset_n (by simp)).trans wset_s) (by decide) (by decide) rfl ?_
  refine V_wd (w' := LW ad σ (setH σ j (hSc (cH σ j), hDm (cH σ j), hDu (cH σ j), -1, 0, fup (hSu (cH σ j)) (bl (sh x 4) (hSc (cH σ j))) ((hSu (cH σ j) (bl (sh x 4) (hSc (cH σ j)))).1, 1 + bl (sh x 6) 60))) tl t lo) ((SW_move (q0 := ((hSu (cH σ j) (bl (sh x 4) (hSc (cH σ j)))).1, 1 + bl (sh x 6) 60)) hj hk).trans LW_LS.symm) ?_
  refine V_callV (r := (RX6, TX6, 8)) C [.int (nI j), .int (nI (bl (sh x 4) (hSc (cH σ j)))), .int (nI (1 + bl (sh x 6) 60))] dL_act_397 m_X6_moveSurface k_X6_moveSurface tw_560 rfl rfl rfl PW_b rfl rfl (Nat.le_of_ble_eq_true rfl) ⟨by omega, by omega, by omega, by omega⟩ (p_move (i := 0) hl (by omega) hσ hj hk (by omega) (inR_ok (by omega) (by omega) (by decide))) (kr_RP (x := .int (nI ((hSu (cH σ j) (bl (sh x 4) (hSc (cH σ j)))).2))) (fun tl t lo => ?_)) kx_no
  refine V_iload C dL_act_400 0 rfl ?_
  refine V_icmpn_ne (tgt := 409) C dL_act_402 (by decide) (by omega) (by omega) (fun hb1 => by exfalso; omega) (fun hb1 => ?_)
  refine V_iconst (v := nI 1) C dL_act_405 (by decide) ?_
  refine V_goto (tgt := 410) C dL_act_406 (by decide) ?_
  exact V_iret C .boolean dL_act_410 hr rfl (hq _ _ _ _ _ ⟨rfl, rfl⟩ ⟨cOK_set hσ (su_move hu (by omega) (by omega) hk), (cI_set hI0 (Or.inl ⟨rfl, rfl⟩))⟩ (by first | exact hn | exact Nat.le_add_left 1 _)) (by omega) (by omega)
abbrev oldC (v : Nat) (σ : CS) : CS := (cN σ, cK σ, cDay σ + nI v, cIns σ, olderH v (cH σ) (cN σ), cS σ)
theorem oldH_add {v : Nat} {h : HallS} : oldH 1 (oldH v h) = oldH (v + 1) h := by
  show (hSc h, hDm h, min 100 (min 100 (hDu h + v) + 1), (if 1 < hDy h - v then (if v < hDy h then hCe h else -1) else -1), hDy h - v - 1, hSu h) = (hSc h, hDm h, min 100 (hDu h + (v + 1)), (if v + 1 < hDy h then hCe h else -1), hDy h - (v + 1), hSu h)
  rw [show min 100 (min 100 (hDu h + v) + 1) = min 100 (hDu h + (v + 1)) by omega, Nat.sub_sub]
  by_cases hc : v + 1 < hDy h
  · rw [if_pos (show 1 < hDy h - v by omega), if_pos (show v < hDy h by omega), if_pos hc]
  · rw [if_neg (show ¬ 1 < hDy h - v by omega), if_neg hc]
theorem oldH_0 {h : HallS} (hd : hDu h ≤ 100) (hi : hI h) : oldH 0 h = h := by
  show (hSc h, hDm h, min 100 (hDu h + 0), (if 0 < hDy h then hCe h else -1), hDy h - 0, hSu h) = h
  rw [Nat.add_zero, show min 100 (hDu h) = hDu h by omega, Nat.sub_zero]
  rcases hi with ⟨z1, z2⟩ | ⟨q, h5, hq, hy⟩
  · rw [if_neg (by omega), ← z1]
  · rw [if_pos (by omega)]
theorem olderH_add {v n : Nat} {H : Nat → HallS} : olderH 1 (olderH v H n) n = olderH (v + 1) H n := by
  funext j
  unfold olderH
  by_cases hj : j < n
  · rw [if_pos hj, if_pos hj, if_pos hj, oldH_add]
  · rw [if_neg hj, if_neg hj, if_neg hj]
theorem oldC_0 {σ : CS} (hσ : cOK σ) (hI0 : cI σ) {H : Wd → Wd} {ad : Adr} {i : Nat} {o : Wd} : SW i ad (oldC 0 σ) o = SW i ad σ o := by
  show put i (SC i ad (oldC 0 σ)) o = put i (SC i ad σ) o
  have hH : ∀ j, j < cN σ → olderH 0 (cH σ) (cN σ) j = cH σ j := fun j hj => by
    unfold olderH; rw [if_pos hj]; exact oldH_0 (hσ.2.2.1 j hj).2.2.1 (hI0 j hj)
  congr 1
  funext L
  have h0 : cDay σ + nI 0 = cDay σ := by rw [nI_0, Int32.add_zero]
  rcases L with _ | ⟨c, _ | ⟨j, _ | ⟨k, _ | ⟨x, y⟩⟩⟩⟩
  · show some (eLS (cDay σ + nI 0) (cIns σ) (ad [i, 1]) (ad [i, 2])) = _
    rw [h0]; rfl
  · rfl
  · by_cases hj : j < cN σ
    · simp only [SC, oldC, cN, cK, cH, cS] at hj hH ⊢
      rw [hH j hj]
    · simp only [SC, oldC, cN, cK, cH, cS] at hj ⊢
      simp [hj]
  · by_cases hj : j < cN σ
    · simp only [SC, oldC, cN, cK, cH, cS] at hj hH ⊢
      rw [hH j hj]
    · simp only [SC, oldC, cN, cK, cH, cS] at hj ⊢
      simp [hj]
  · rfl
theorem oldC_s {v : Nat} {σ : CS} : dayUp (cN (oldC v σ), cK (oldC v σ), cDay (oldC v σ), cIns (oldC v σ), olderH 1 (cH (oldC v σ)) (cN (oldC v σ)), cS (oldC v σ)) = oldC (v + 1) σ := by
  show (cN σ, cK σ, cDay σ + nI v + nI 1, cIns σ, olderH 1 (olderH v (cH σ) (cN σ)) (cN σ), cS σ) = (cN σ, cK σ, cDay σ + nI (v + 1), cIns σ, olderH (v + 1) (cH σ) (cN σ), cS σ)
  rw [olderH_add, Int32.add_assoc, nI_add]
theorem hI_oldn {h : HallS} {v : Nat} (hi : hI h) : hI (oldH v h) := by
  by_cases hc : v < hDy h
  · rcases hi with ⟨z, z2⟩ | ⟨q, h5, hq, hy⟩
    · omega
    · refine Or.inr ⟨q, h5, ?_, ?_⟩
      · show (if v < hDy h then hCe h else -1) = nI q
        rw [if_pos hc]; exact hq
      · show 1 ≤ hDy h - v
        omega
  · refine Or.inl ⟨?_, ?_⟩
    · show (if v < hDy h then hCe h else -1) = -1
      rw [if_neg hc]
    · show hDy h - v = 0
      omega
theorem oldC_ok {v : Nat} {σ : CS} (hσ : cOK σ) (hI0 : cI σ) : cOK (oldC v σ) ∧ cI (oldC v σ) := by
  refine ⟨⟨hσ.1, hσ.2.1, fun j hj => ?_, hσ.2.2.2⟩, fun j hj => ?_⟩
  · show hOK (olderH v (cH σ) (cN σ) j)
    unfold olderH; rw [if_pos hj]; exact oldH_ok (hσ.2.2.1 j hj)
  · show hI (olderH v (cH σ) (cN σ) j)
    unfold olderH; rw [if_pos hj]; exact hI_oldn (hI0 j hj)
set_option maxHeartbeats 4000000 in
theorem lp_days {p : Program} {l : Launch} {e : Env} {s : State} {m : MethodId} {args : Array Value} {below : List Frame} {meth : Method} {c : Code} {D : va_G} {ba d mc ms : Nat} {ad : Adr} {cells slots : Nat} {QR : Option Value → Adr → Wd → Prop} {QX : String → Adr → Wd → Prop} (C : Cx p l s m args meth c D ba RL cL_act 19 [] d) (hl : l.stackTraces = false) (hr : meth.sig.returnType = (some .boolean)) (hd : 10 ≤ d) {σ : CS} {tl : Int32} {t : TT} {lo : Nat → Int32} (hσ : cOK σ) (hI0 : cI σ) (hn : 1 ≤ cN σ) {j dd : Nat} (hd1 : 1 ≤ dd) (hd2 : dd ≤ 100) (hcm : cells + 24 ≤ mc) (hsm : slots + 160 ≤ ms) {x : Int32} {so : Nat}  : ∀ (n : Nat) (k : Nat), k + n = dd → (∀ ad' σ tl t lo, (ad' [0] = ad [0] ∧ ad' [2] = ad [2]) → IV σ → 1 ≤ cN σ → QR (some (.int (nI 1))) ad' (LW ad' σ σ tl t lo)) → V p l e s m args below meth c D ba d mc ms (MO D ba QR QX below args s mc ms) 19 ad (LSW ad σ (oldC k σ) tl t lo) 849 [(18, .int (nI k)), (17, .int (nI dd)), (8, .int (nI (cK σ))), (7, .int (nI (hSc (cH σ j)))), (6, .ref (ad [2, 3, j])), (5, .int (nI j)), (0, .ref (ad [0])), (1, .ref (ad [2])), (2, .int x), (3, .int (nI (cN σ))), (4, .int (nI so))] [] cells slots := by
  intro n
  induction n with
  | zero =>
    intro k hk hq
    have hσ1 := hσ.1
    have hce := certs_le (olderH dd (cH σ) (cN σ)) (cN σ)
    refine V_iload C dL_act_849 0 rfl ?_
    refine V_iload C dL_act_851 1 rfl ?_
    refine V_icmpn_ge (tgt := 866) C dL_act_853 (by decide) (by omega) (by omega) (fun hb1 => ?_) (fun hb1 => by exfalso; omega)
    obtain rfl : k = dd := by omega
    refine V_aload_n C dL_act_866 6 rfl ?_
    refine V_iload C dL_act_867 1 rfl ?_
    refine V_wd (w' := LW ad σ (oldC k σ) tl t lo) LW_LS.symm ?_
    refine V_callV (r := (RX6, TX6, 8)) C [.int (nI k)] dL_act_869 m_X6_passDays k_X6_passDays tw_618 rfl rfl rfl PW_b rfl rfl (Nat.le_of_ble_eq_true rfl) ⟨by omega, by omega, by omega, by omega⟩ (p_pass (i := 0) hl (by omega) hσ (by omega) (inR_ok (by omega) (by omega) (by decide))) (kr_RP (x := .int (nI (certs (olderH k (cH σ) (cN σ)) (cN σ)))) (fun tl t lo => ?_)) kx_no
    refine V_aload_n C dL_act_872 7 rfl ?_
    refine V_wd (w' := LSW ad (oldC k σ) (oldC k σ) tl t lo) LW_LS ?_
    refine V_callV (r := (RX8, TX8, 4)) C [] dL_act_873 m_X8_certified k_X8_certified tw_633 rfl rfl rfl (SW_b (σ := oldC k σ)) rfl rfl (Nat.le_of_ble_eq_true rfl) ⟨by omega, by omega, by omega, by omega⟩ (s_certified (i := 2) (σ := oldC k σ) hl (by omega) (oldC_ok hσ hI0).1 (oldC_ok hσ hI0).2) (kr_some (x := .int (nI (certs (olderH k (cH σ) (cN σ)) (cN σ)))) ?_) kx_no
    refine V_icmpn_ne (tgt := 883) C dL_act_876 (by decide) (by omega) (by omega) (fun hb2 => by exfalso; omega) (fun hb2 => ?_)
    refine V_iconst (v := nI 1) C dL_act_879 (by decide) ?_
    refine V_goto (tgt := 884) C dL_act_880 (by decide) ?_
    refine V_wd (w' := LW ad (oldC k σ) (oldC k σ) tl t lo) LW_LS.symm ?_
    exact V_iret C .boolean dL_act_884 hr rfl (hq _ _ _ _ _ ⟨rfl, rfl⟩ (oldC_ok hσ hI0) (by first | exact hn | exact Nat.le_add_left 1 _)) (by omega) (by omega)
  | succ n ih =>
    intro k hk hq
    have hσ1 := hσ.1
    have hce := certs_le (olderH dd (cH σ) (cN σ)) (cN σ)
    refine V_iload C dL_act_849 0 rfl ?_
    refine V_iload C dL_act_851 1 rfl ?_
    refine V_icmpn_ge (tgt := 866) C dL_act_853 (by decide) (by omega) (by omega) (fun hb1 => by exfalso; omega) (fun hb1 => ?_)
    refine V_aload_n C dL_act_856 7 rfl ?_
    refine V_callV (r := (RX8, TX8, 4)) C [] dL_act_857 m_X8_pass k_X8_pass tw_613 rfl rfl rfl (SW_b (σ := oldC k σ)) rfl rfl (Nat.le_of_ble_eq_true rfl) ⟨by omega, by omega, by omega, by omega⟩ (s_pass (i := 2) (σ := oldC k σ) hl (by omega) (oldC_ok hσ hI0).1 (oldC_ok hσ hI0).2) (kr_none ?_) kx_no
    refine V_iincn C [(18, .int (nI (k + 1))), (17, .int (nI dd)), (8, .int (nI (cK σ))), (7, .int (nI (hSc (cH σ j)))), (6, .ref (ad [2, 3, j])), (5, .int (nI j)), (0, .ref (ad [0])), (1, .ref (ad [2])), (2, .int x), (3, .int (nI (cN σ))), (4, .int (nI so))] dL_act_860 0 rfl (by decide) rfl ?_
    refine V_goto (tgt := 849) C dL_act_863 (by decide) ?_
    refine V_wd (w' := LSW ad σ (oldC (k + 1) σ) tl t lo) (congrArg (fun s => SW 2 ad s (PW 0 ad σ tl t lo nW)) oldC_s) ?_
    refine V_lv [0, 1, 2, 3, 4, 5, 6, 7, 8, 9, 10] rfl ?_
    exact ih (k + 1) (by omega) hq
set_option maxHeartbeats 4000000 in
theorem act_days {p : Program} {l : Launch} {e : Env} {s : State} {m : MethodId} {args : Array Value} {below : List Frame} {meth : Method} {c : Code} {D : va_G} {ba d mc ms : Nat} {ad : Adr} {cells slots : Nat} {QR : Option Value → Adr → Wd → Prop} {QX : String → Adr → Wd → Prop} (C : Cx p l s m args meth c D ba RL cL_act 19 [] d) (hl : l.stackTraces = false) (hr : meth.sig.returnType = (some .boolean)) (hd : 10 ≤ d) {σ : CS} {tl : Int32} {t : TT} {lo : Nat → Int32} (hσ : cOK σ) (hI0 : cI σ) (hn : 1 ≤ cN σ) (hcm : cells + 24 ≤ mc) (hsm : slots + 160 ≤ ms) {x : Int32} {so : Nat} (hq : ∀ ad' σ tl t lo, (ad' [0] = ad [0] ∧ ad' [2] = ad [2]) → IV σ → 1 ≤ cN σ → QR (some (.int (nI 1))) ad' (LW ad' σ σ tl t lo)) {j : Nat} (hj : j < cN σ)  : V p l e s m args below meth c D ba d mc ms (MO D ba QR QX below args s mc ms) 19 ad (LSW ad σ σ tl t lo) 822 [(8, .int (nI (cK σ))), (7, .int (nI (hSc (cH σ j)))), (6, .ref (ad [2, 3, j])), (5, .int (nI j)), (0, .ref (ad [0])), (1, .ref (ad [2])), (2, .int x), (3, .int (nI (cN σ))), (4, .int (nI so))] [] cells slots := by
  have hσ1 := hσ.1
  have hσ2 := hσ.2.1
  have hu := hσ.2.2.1 j hj
  have hu1 := hu.1
  have hu2 := hu.2.1
  have hu3 := hu.2.2.1
  have hu4 := hu.2.2.2.1
  refine V_iconst (v := nI 1) C dL_act_822 (by decide) ?_
  refine V_iload_n C dL_act_823 6 rfl ?_
  refine V_iconst (v := nI 2) C dL_act_824 (by decide) ?_
  refine V_ishrn C dL_act_825 ?_
  refine V_iload_n C dL_act_826 6 rfl ?_
  refine V_iconst (v := nI 4) C dL_act_827 (by decide) ?_
  have hbl828 := bl_lt (v := x) (n := 4) (by omega)
  refine V_callS C [.int x, .int (nI 4)] dL_act_828 m_L_below k_L_below tw_508 rfl rfl (Nat.le_of_ble_eq_true rfl) ⟨by omega, by omega, by omega, by omega⟩ (s_below hl (by omega) x (by omega) (by omega)) (kr_some (x := .int (nI (bl x 4))) ?_) kx_no
  refine V_ifn_ne (tgt := 839) C dL_act_831 (by decide) (by omega) (fun hb1 => ?_) (fun hb1 => ?_)
  · skip
    refine V_iconst (v := nI 4) C dL_act_839 (by decide) ?_
    have hbl840 := bl_lt (v := (sh x 2)) (n := 4) (by omega)
    refine V_callS C [.int (sh x 2), .int (nI 4)] dL_act_840 m_L_below k_L_below tw_508 rfl rfl (Nat.le_of_ble_eq_true rfl) ⟨by omega, by omega, by omega, by omega⟩ (s_below hl (by omega) (sh x 2) (by omega) (by omega)) (kr_some (x := .int (nI (bl (sh x 2) 4))) ?_) kx_no
    refine V_iaddn C dL_act_843 ?_
    obtain ⟨dd, hdd⟩ : ∃ z, z = 1 + (bl (sh x 2) 4) := ⟨_, rfl⟩
    rw [← hdd]
    refine V_istore C [(17, .int (nI dd)), (8, .int (nI (cK σ))), (7, .int (nI (hSc (cH σ j)))), (6, .ref (ad [2, 3, j])), (5, .int (nI j)), (0, .ref (ad [0])), (1, .ref (ad [2])), (2, .int x), (3, .int (nI (cN σ))), (4, .int (nI so))] dL_act_844 (by decide) rfl ?_
    refine V_iconst (v := nI 0) C dL_act_846 (by decide) ?_
    refine V_istore C [(18, .int (nI 0)), (17, .int (nI dd)), (8, .int (nI (cK σ))), (7, .int (nI (hSc (cH σ j)))), (6, .ref (ad [2, 3, j])), (5, .int (nI j)), (0, .ref (ad [0])), (1, .ref (ad [2])), (2, .int x), (3, .int (nI (cN σ))), (4, .int (nI so))] dL_act_847 (by decide) rfl ?_
    refine V_wd (w' := LSW ad σ (oldC 0 σ) tl t lo) (oldC_0 hσ hI0 (H := id)).symm ?_
    refine V_lv [0, 1, 2, 3, 4, 5, 6, 7, 8, 9, 10] rfl ?_
    exact lp_days C hl hr (by omega) hσ hI0 hn (by omega) (by omega) hcm hsm dd 0 (by omega) hq
  · skip
    refine V_bipush (v := nI 100) C dL_act_834 (by decide) ?_
    refine V_goto (tgt := 840) C dL_act_836 (by decide) ?_
    have hbl840 := bl_lt (v := (sh x 2)) (n := 100) (by omega)
    refine V_callS C [.int (sh x 2), .int (nI 100)] dL_act_840 m_L_below k_L_below tw_508 rfl rfl (Nat.le_of_ble_eq_true rfl) ⟨by omega, by omega, by omega, by omega⟩ (s_below hl (by omega) (sh x 2) (by omega) (by omega)) (kr_some (x := .int (nI (bl (sh x 2) 100))) ?_) kx_no
    refine V_iaddn C dL_act_843 ?_
    obtain ⟨dd, hdd⟩ : ∃ z, z = 1 + (bl (sh x 2) 100) := ⟨_, rfl⟩
    rw [← hdd]
    refine V_istore C [(17, .int (nI dd)), (8, .int (nI (cK σ))), (7, .int (nI (hSc (cH σ j)))), (6, .ref (ad [2, 3, j])), (5, .int (nI j)), (0, .ref (ad [0])), (1, .ref (ad [2])), (2, .int x), (3, .int (nI (cN σ))), (4, .int (nI so))] dL_act_844 (by decide) rfl ?_
    refine V_iconst (v := nI 0) C dL_act_846 (by decide) ?_
    refine V_istore C [(18, .int (nI 0)), (17, .int (nI dd)), (8, .int (nI (cK σ))), (7, .int (nI (hSc (cH σ j)))), (6, .ref (ad [2, 3, j])), (5, .int (nI j)), (0, .ref (ad [0])), (1, .ref (ad [2])), (2, .int x), (3, .int (nI (cN σ))), (4, .int (nI so))] dL_act_847 (by decide) rfl ?_
    refine V_wd (w' := LSW ad σ (oldC 0 σ) tl t lo) (oldC_0 hσ hI0 (H := id)).symm ?_
    refine V_lv [0, 1, 2, 3, 4, 5, 6, 7, 8, 9, 10] rfl ?_
    exact lp_days C hl hr (by omega) hσ hI0 hn (by omega) (by omega) hcm hsm dd 0 (by omega) hq
