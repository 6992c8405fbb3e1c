
set_option maxRecDepth 20000 in
set_option maxHeartbeats 4000000 in
theorem lw_than {p : Program} {l : Launch} {e : Env} {s : State} {m : MethodId} {args : Array Value} {below : List Frame} {meth : Method} {c : Code} {D : va_G} {ba d mc ms : Nat} {ad : Adr} {Q : State → Prop} {tb : List ExceptionTableEntry} (C : Cx p l s m args meth c D ba RL cL_law 23 tb d) (hl : l.stackTraces = false) (hd : 12 ≤ d) {σ : CS} (hσ : cOK σ) (hI0 : cI σ) {j : Nat} (hj : j < cN σ) {X : Int32} {tm sm ce : Nat} {C1 S1 : Nat} (hC1 : C1 ≤ mc) (hS1 : S1 ≤ ms) {click : Nat} (hc1 : 1 ≤ click) (hc2 : click ≤ 1000)  : ∀ (n : Nat) (z w0 : Nat) (tl : Int32) (t : TT) (lo : Nat → Int32) (cz sz : Nat), z + 61 * n = 1039 → w0 ≤ z → 2 ≤ z → cz + 8 * n ≤ C1 → sz + 64 * n ≤ S1 → (∀ tl t lo, V p l e s m args below meth c D ba d mc ms Q 23 ad (LW ad σ σ tl t lo) 679 [(9, .int (nI click)), (8, .int (nI j)), (7, .int (nI sm)), (6, .int (nI ce)), (5, .int (nI (cN σ))), (4, .int X), (3, .int (nI tm)), (2, .ref (ad [2])), (1, .ref (ad [0])), (0, .ref (D.2 99 0))] [] C1 S1) → V p l e s m args below meth c D ba d mc ms Q 23 ad (LW ad σ σ tl t lo) 628 [(21, .int (nI z)), (20, .int (nI (LO (cH σ j) click w0))), (9, .int (nI click)), (8, .int (nI j)), (7, .int (nI sm)), (6, .int (nI ce)), (5, .int (nI (cN σ))), (4, .int X), (3, .int (nI tm)), (2, .ref (ad [2])), (1, .ref (ad [0])), (0, .ref (D.2 99 0))] [] cz sz := by
  intro n
  induction n with
  | zero =>
    intro z w0 tl t lo cz sz hzn hw hz2 hcz hsz K
    have hσ1 := hσ.1
    have hσ2 := hσ.2.1
    have hu := hσ.2.2.1 j hj
    have hu1 := hu.1
    have hu2 := hu.2.1
    have hu3 := hu.2.2.1
    have hu4 := hu.2.2.2.1
    refine V_iload C dL_law_628 0 rfl ?_
    refine V_sipush (v := nI 1000) C dL_law_630 (by decide) ?_
    refine V_icmpn_gt (tgt := 679) C dL_law_633 (by decide) (by omega) (by decide) (fun hb1 => ?_) (fun hb1 => by exfalso; omega)
    refine V_lv [2, 3, 4, 5, 6, 7, 8, 9, 10, 11] rfl ?_
    exact V_cs (by omega) (by omega) (K tl t lo)
  | succ n ih =>
    intro z w0 tl t lo cz sz hzn hw hz2 hcz hsz K
    have hσ1 := hσ.1
    have hσ2 := hσ.2.1
    have hu := hσ.2.2.1 j hj
    have hu1 := hu.1
    have hu2 := hu.2.1
    have hu3 := hu.2.2.1
    have hu4 := hu.2.2.2.1
    rw [show 61 * (n + 1) = 61 * n + 61 from Nat.mul_succ 61 n] at hzn
    rw [show 8 * (n + 1) = 8 * n + 8 from Nat.mul_succ 8 n] at hcz
    rw [show 64 * (n + 1) = 64 * n + 64 from Nat.mul_succ 64 n] at hsz
    refine V_iload C dL_law_628 0 rfl ?_
    refine V_sipush (v := nI 1000) C dL_law_630 (by decide) ?_
    refine V_icmpn_gt (tgt := 679) C dL_law_633 (by decide) (by omega) (by decide) (fun hb1 => by exfalso; omega) (fun hb1 => ?_)
    refine V_aload_n C dL_law_636 10 rfl ?_
    refine V_iload C dL_law_637 3 rfl ?_
    refine V_iload C dL_law_639 2 rfl ?_
    refine V_iload C dL_law_641 0 rfl ?_
    refine V_callV (r := (RX6, TX6, 8)) C [.int (nI j), .int (nI click), .int (nI z)] dL_law_643 m_X6_loudEchoes k_X6_loudEchoes tw_355 rfl rfl rfl PW_b rfl rfl (Nat.le_of_ble_eq_true rfl) ⟨by omega, by omega, by omega, by omega⟩ (p_loudEchoes (i := 0) hl (by omega) hσ hj hc2 (inR_ok hc1 hc2 (by decide)) (inR_ok (by omega) (by omega) (by decide))) (kr_RP (x := .int (tly (cH σ j) (nI z) click).2.1) (fun tl t lo => ?_)) kx_no
    refine V_stE (st' := [.int (nI (LO (cH σ j) click z))]) (by rw [LO_is]) ?_
    have hlo := LO_le (h := (cH σ j)) (cl := click) (z := z) hu1
    have hlw := LO_le (h := (cH σ j)) (cl := click) (z := w0) hu1
    have hmo := LO_mono (h := (cH σ j)) (cl := click) hw (show z < 2 ^ 31 by omega)
    refine V_istore C [(22, .int (nI (LO (cH σ j) click z))), (21, .int (nI z)), (20, .int (nI (LO (cH σ j) click w0))), (9, .int (nI click)), (8, .int (nI j)), (7, .int (nI sm)), (6, .int (nI ce)), (5, .int (nI (cN σ))), (4, .int X), (3, .int (nI tm)), (2, .ref (ad [2])), (1, .ref (ad [0])), (0, .ref (D.2 99 0))] dL_law_646 (by decide) rfl ?_
    refine V_iload C dL_law_648 0 rfl ?_
    refine V_iload C dL_law_650 2 rfl ?_
    refine V_icmpn_gt (tgt := 667) C dL_law_652 (by decide) (by omega) (by omega) (fun hb2 => by exfalso; omega) (fun hb2 => ?_)
    refine V_iload C dL_law_655 1 rfl ?_
    refine V_iload C dL_law_657 3 rfl ?_
    refine V_icmpn_le (tgt := 669) C dL_law_659 (by decide) (by omega) (by omega) (fun hb3 => ?_) (fun hb3 => ?_)
    · skip
      refine V_iload C dL_law_669 0 rfl ?_
      refine V_istore C [(20, .int (nI (LO (cH σ j) click z))), (22, .int (nI (LO (cH σ j) click z))), (21, .int (nI z)), (9, .int (nI click)), (8, .int (nI j)), (7, .int (nI sm)), (6, .int (nI ce)), (5, .int (nI (cN σ))), (4, .int X), (3, .int (nI tm)), (2, .ref (ad [2])), (1, .ref (ad [0])), (0, .ref (D.2 99 0))] dL_law_671 (by decide) rfl ?_
      refine V_iinc C [(21, .int (nI (z + 61))), (20, .int (nI (LO (cH σ j) click z))), (22, .int (nI (LO (cH σ j) click z))), (9, .int (nI click)), (8, .int (nI j)), (7, .int (nI sm)), (6, .int (nI ce)), (5, .int (nI (cN σ))), (4, .int X), (3, .int (nI tm)), (2, .ref (ad [2])), (1, .ref (ad [0])), (0, .ref (D.2 99 0))] dL_law_673 2 rfl (by rw [show Int32.ofInt 61 = nI 61 from rfl, nI_add]) (by decide) rfl ?_
      refine V_goto (tgt := 628) C dL_law_676 (by decide) ?_
      refine V_lv [0, 1, 3, 4, 5, 6, 7, 8, 9, 10, 11, 12] rfl ?_
      exact ih (z + 61) z tl t lo _ _ (by omega) (by omega) (by omega) (by omega) (by omega) K
    · skip
      have hno := LO_none (cl := click) (z := z) hu (by omega) (by omega)
      refine V_iload C dL_law_662 0 rfl ?_
      refine V_ifn_le (tgt := 669) C dL_law_664 (by decide) (by omega) (fun hb4 => ?_) (fun hb4 => by exfalso; omega)
      refine V_iload C dL_law_669 0 rfl ?_
      refine V_istore C [(20, .int (nI (LO (cH σ j) click z))), (22, .int (nI (LO (cH σ j) click z))), (21, .int (nI z)), (9, .int (nI click)), (8, .int (nI j)), (7, .int (nI sm)), (6, .int (nI ce)), (5, .int (nI (cN σ))), (4, .int X), (3, .int (nI tm)), (2, .ref (ad [2])), (1, .ref (ad [0])), (0, .ref (D.2 99 0))] dL_law_671 (by decide) rfl ?_
      refine V_iinc C [(21, .int (nI (z + 61))), (20, .int (nI (LO (cH σ j) click z))), (22, .int (nI (LO (cH σ j) click z))), (9, .int (nI click)), (8, .int (nI j)), (7, .int (nI sm)), (6, .int (nI ce)), (5, .int (nI (cN σ))), (4, .int X), (3, .int (nI tm)), (2, .ref (ad [2])), (1, .ref (ad [0])), (0, .ref (D.2 99 0))] dL_law_673 2 rfl (by rw [show Int32.ofInt 61 = nI 61 from rfl, nI_add]) (by decide) rfl ?_
      refine V_goto (tgt := 628) C dL_law_676 (by decide) ?_
      refine V_lv [0, 1, 3, 4, 5, 6, 7, 8, 9, 10, 11, 12] rfl ?_
      exact ih (z + 61) z tl t lo _ _ (by omega) (by omega) (by omega) (by omega) (by omega) K
set_option maxRecDepth 20000 in
set_option maxHeartbeats 4000000 in
theorem lw_look {p : Program} {l : Launch} {e : Env} {s : State} {m : MethodId} {args : Array Value} {below : List Frame} {meth : Method} {c : Code} {D : va_G} {ba d mc ms : Nat} {ad : Adr} {Q : State → Prop} {tb : List ExceptionTableEntry} (C : Cx p l s m args meth c D ba RL cL_law 23 tb d) (hl : l.stackTraces = false) (hd : 12 ≤ d) {σ : CS} (hσ : cOK σ) (hI0 : cI σ) {j : Nat} (hj : j < cN σ) {X : Int32} {tm sm ce : Nat} {C1 S1 : Nat} (hC1 : C1 ≤ mc) (hS1 : S1 ≤ ms) {click : Nat} (hc1 : 1 ≤ click) (hc2 : click ≤ 1000) {mm : Nat} (hm2 : 6 * mm ≤ 3000) {tl : Int32} {t : TT} {lo : Nat → Int32} {cz sz : Nat} (hcz : cz + 200 ≤ C1) (hsz : sz + 1600 ≤ S1) (K : ∀ tl t lo, V p l e s m args below meth c D ba d mc ms Q 23 ad (LW ad σ σ tl t lo) 679 [(9, .int (nI click)), (8, .int (nI j)), (7, .int (nI sm)), (6, .int (nI ce)), (5, .int (nI (cN σ))), (4, .int X), (3, .int (nI tm)), (2, .ref (ad [2])), (1, .ref (ad [0])), (0, .ref (D.2 99 0))] [] C1 S1) : V p l e s m args below meth c D ba d mc ms Q 23 ad (LW ad σ σ tl t lo) 525 [(19, .int (nI (6 * mm))), (18, .int (LK (cH σ j) click (hSc (cH σ j)) mm)), (17, .int ((tal (nI 1) (AK (cH σ j) click (hSc (cH σ j)))).2.2.2)), (16, .int ((tal (nI 1) (AK (cH σ j) click (hSc (cH σ j)))).2.2.1)), (15, .int ((tal (nI (1 + click / 2)) (AK (cH σ j) click (hSc (cH σ j)))).2.1)), (14, .int ((tal (nI 1) (AK (cH σ j) click (hSc (cH σ j)))).1)), (9, .int (nI click)), (8, .int (nI j)), (7, .int (nI sm)), (6, .int (nI ce)), (5, .int (nI (cN σ))), (4, .int X), (3, .int (nI tm)), (2, .ref (ad [2])), (1, .ref (ad [0])), (0, .ref (D.2 99 0))] [] cz sz := by
  have hσ1 := hσ.1
  have hσ2 := hσ.2.1
  have hu := hσ.2.2.1 j hj
  have hu1 := hu.1
  have hu2 := hu.2.1
  have hu3 := hu.2.2.1
  have hu4 := hu.2.2.2.1
  refine V_aload_n C dL_law_525 14 rfl ?_
  refine V_lvE (lv' := [(19, .int (nI (6 * mm))), (18, .int (ldz (cH σ j) click mm)), (17, .int ((tly (cH σ j) (nI 1) click).2.2.2)), (16, .int ((tly (cH σ j) (nI 1) click).2.2.1)), (15, .int ((tly (cH σ j) (nI (1 + click / 2)) click).2.1)), (14, .int ((tly (cH σ j) (nI 1) click).1)), (9, .int (nI click)), (8, .int (nI j)), (7, .int (nI sm)), (6, .int (nI ce)), (5, .int (nI (cN σ))), (4, .int X), (3, .int (nI tm)), (2, .ref (ad [2])), (1, .ref (ad [0])), (0, .ref (D.2 99 0))]) (by rw [tly_T, tly_T, ldz_L]) ?_
  refine V_iload C dL_law_526 7 rfl ?_
  refine V_iload C dL_law_528 6 rfl ?_
  refine V_callV (r := (RX6, TX6, 8)) C [.int (nI j), .int (nI click)] dL_law_530 m_X6_echoes k_X6_echoes tw_310 rfl rfl rfl PW_b rfl rfl (Nat.le_of_ble_eq_true rfl) ⟨by omega, by omega, by omega, by omega⟩ (p_echoes (i := 0) hl (by omega) hσ hj hc2 (inR_ok hc1 hc2 (by decide))) (kr_RP (x := .int ((tly (cH σ j) (nI 1) click).1)) (fun tl t lo => ?_)) kx_no
  refine V_iload C dL_law_533 5 rfl ?_
  refine V_icmp_ne (tgt := 612) C dL_law_535 (by decide) (fun hb1 => by exfalso; exact hb1 rfl) (fun hb1 => ?_)
  refine V_aload_n C dL_law_538 14 rfl ?_
  refine V_iload C dL_law_539 7 rfl ?_
  refine V_iload C dL_law_541 6 rfl ?_
  refine V_iconst (v := nI 1) C dL_law_543 (by decide) ?_
  refine V_iload C dL_law_544 6 rfl ?_
  refine V_iconst (v := nI 2) C dL_law_546 (by decide) ?_
  refine V_idivn C dL_law_547 (by omega) (by omega) (by omega) ?_
  refine V_iaddn C dL_law_548 ?_
  refine V_callV (r := (RX6, TX6, 8)) C [.int (nI j), .int (nI click), .int (nI (1 + (click / 2)))] dL_law_549 m_X6_loudEchoes k_X6_loudEchoes tw_355 rfl rfl rfl PW_b rfl rfl (Nat.le_of_ble_eq_true rfl) ⟨by omega, by omega, by omega, by omega⟩ (p_loudEchoes (i := 0) hl (by omega) hσ hj hc2 (inR_ok hc1 hc2 (by decide)) (inR_ok (by omega) (by omega) (by decide))) (kr_RP (x := .int ((tly (cH σ j) (nI (1 + click / 2)) click).2.1)) (fun tl t lo => ?_)) kx_no
  refine V_iload C dL_law_552 4 rfl ?_
  refine V_icmp_ne (tgt := 612) C dL_law_554 (by decide) (fun hb2 => by exfalso; exact hb2 rfl) (fun hb2 => ?_)
  refine V_aload_n C dL_law_557 14 rfl ?_
  refine V_iload C dL_law_558 7 rfl ?_
  refine V_iload C dL_law_560 6 rfl ?_
  refine V_callV (r := (RX6, TX6, 8)) C [.int (nI j), .int (nI click)] dL_law_562 m_X6_firstEcho k_X6_firstEcho tw_359 rfl rfl rfl PW_b rfl rfl (Nat.le_of_ble_eq_true rfl) ⟨by omega, by omega, by omega, by omega⟩ (p_firstEcho (i := 0) hl (by omega) hσ hj hc2 (inR_ok hc1 hc2 (by decide))) (kr_RP (x := .int ((tly (cH σ j) (nI 1) click).2.2.1)) (fun tl t lo => ?_)) kx_no
  refine V_iload C dL_law_565 3 rfl ?_
  refine V_icmp_ne (tgt := 612) C dL_law_567 (by decide) (fun hb3 => by exfalso; exact hb3 rfl) (fun hb3 => ?_)
  refine V_aload_n C dL_law_570 14 rfl ?_
  refine V_iload C dL_law_571 7 rfl ?_
  refine V_iload C dL_law_573 6 rfl ?_
  refine V_callV (r := (RX6, TX6, 8)) C [.int (nI j), .int (nI click)] dL_law_575 m_X6_lastEcho k_X6_lastEcho tw_363 rfl rfl rfl PW_b rfl rfl (Nat.le_of_ble_eq_true rfl) ⟨by omega, by omega, by omega, by omega⟩ (p_lastEcho (i := 0) hl (by omega) hσ hj hc2 (inR_ok hc1 hc2 (by decide))) (kr_RP (x := .int ((tly (cH σ j) (nI 1) click).2.2.2)) (fun tl t lo => ?_)) kx_no
  refine V_iload C dL_law_578 2 rfl ?_
  refine V_icmp_ne (tgt := 612) C dL_law_580 (by decide) (fun hb4 => by exfalso; exact hb4 rfl) (fun hb4 => ?_)
  refine V_aload_n C dL_law_583 14 rfl ?_
  refine V_iload C dL_law_584 7 rfl ?_
  refine V_iload C dL_law_586 6 rfl ?_
  refine V_iload C dL_law_588 0 rfl ?_
  refine V_callV (r := (RX6, TX6, 8)) C [.int (nI j), .int (nI click), .int (nI (6 * mm))] dL_law_590 m_X6_loudnessAt k_X6_loudnessAt tw_367 rfl rfl rfl PW_b rfl rfl (Nat.le_of_ble_eq_true rfl) ⟨by omega, by omega, by omega, by omega⟩ (b_loudnessAt hl (by omega) hσ hj hc1 hc2 hm2) (kr_RP (x := .int (ldz (cH σ j) click mm)) (fun tl t lo => ?_)) kx_no
  refine V_iload C dL_law_593 1 rfl ?_
  refine V_icmp_ne (tgt := 612) C dL_law_595 (by decide) (fun hb5 => by exfalso; exact hb5 rfl) (fun hb5 => ?_)
  refine V_aload_n C dL_law_598 14 rfl ?_
  refine V_iload C dL_law_599 7 rfl ?_
  refine V_iload C dL_law_601 6 rfl ?_
  refine V_iconst (v := nI 1) C dL_law_603 (by decide) ?_
  refine V_callV (r := (RX6, TX6, 8)) C [.int (nI j), .int (nI click), .int (nI 1)] dL_law_604 m_X6_loudEchoes k_X6_loudEchoes tw_355 rfl rfl rfl PW_b rfl rfl (Nat.le_of_ble_eq_true rfl) ⟨by omega, by omega, by omega, by omega⟩ (p_loudEchoes (i := 0) hl (by omega) hσ hj hc2 (inR_ok hc1 hc2 (by decide)) (inR_ok (by decide) (by decide) (by decide))) (kr_RP (x := .int ((tly (cH σ j) (nI 1) click).2.1)) (fun tl t lo => ?_)) kx_no
  refine V_iload C dL_law_607 5 rfl ?_
  refine V_icmp_eq (tgt := 614) C dL_law_609 (by decide) (fun hb6 => ?_) (fun hb6 => by exfalso; exact hb6 (LO_1 hu hc2))
  refine V_aload_n C dL_law_614 14 rfl ?_
  refine V_iload C dL_law_615 7 rfl ?_
  refine V_iload C dL_law_617 6 rfl ?_
  refine V_iconst (v := nI 1) C dL_law_619 (by decide) ?_
  refine V_callV (r := (RX6, TX6, 8)) C [.int (nI j), .int (nI click), .int (nI 1)] dL_law_620 m_X6_loudEchoes k_X6_loudEchoes tw_355 rfl rfl rfl PW_b rfl rfl (Nat.le_of_ble_eq_true rfl) ⟨by omega, by omega, by omega, by omega⟩ (p_loudEchoes (i := 0) hl (by omega) hσ hj hc2 (inR_ok hc1 hc2 (by decide)) (inR_ok (by decide) (by decide) (by decide))) (kr_RP (x := .int ((tly (cH σ j) (nI 1) click).2.1)) (fun tl t lo => ?_)) kx_no
  refine V_istore C [(20, .int ((tly (cH σ j) (nI 1) click).2.1)), (19, .int (nI (6 * mm))), (18, .int (ldz (cH σ j) click mm)), (17, .int ((tly (cH σ j) (nI 1) click).2.2.2)), (16, .int ((tly (cH σ j) (nI 1) click).2.2.1)), (15, .int ((tly (cH σ j) (nI (1 + click / 2)) click).2.1)), (14, .int ((tly (cH σ j) (nI 1) click).1)), (9, .int (nI click)), (8, .int (nI j)), (7, .int (nI sm)), (6, .int (nI ce)), (5, .int (nI (cN σ))), (4, .int X), (3, .int (nI tm)), (2, .ref (ad [2])), (1, .ref (ad [0])), (0, .ref (D.2 99 0))] dL_law_623 (by decide) rfl ?_
  refine V_iconst (v := nI 2) C dL_law_625 (by decide) ?_
  refine V_istore C [(21, .int (nI 2)), (20, .int ((tly (cH σ j) (nI 1) click).2.1)), (19, .int (nI (6 * mm))), (18, .int (ldz (cH σ j) click mm)), (17, .int ((tly (cH σ j) (nI 1) click).2.2.2)), (16, .int ((tly (cH σ j) (nI 1) click).2.2.1)), (15, .int ((tly (cH σ j) (nI (1 + click / 2)) click).2.1)), (14, .int ((tly (cH σ j) (nI 1) click).1)), (9, .int (nI click)), (8, .int (nI j)), (7, .int (nI sm)), (6, .int (nI ce)), (5, .int (nI (cN σ))), (4, .int X), (3, .int (nI tm)), (2, .ref (ad [2])), (1, .ref (ad [0])), (0, .ref (D.2 99 0))] dL_law_626 (by decide) rfl ?_
  refine V_lvE (lv' := [(21, .int (nI 2)), (20, .int (nI (LO (cH σ j) click 1))), (19, .int (nI (6 * mm))), (18, .int (ldz (cH σ j) click mm)), (17, .int ((tly (cH σ j) (nI 1) click).2.2.2)), (16, .int ((tly (cH σ j) (nI 1) click).2.2.1)), (15, .int ((tly (cH σ j) (nI (1 + click / 2)) click).2.1)), (14, .int ((tly (cH σ j) (nI 1) click).1)), (9, .int (nI click)), (8, .int (nI j)), (7, .int (nI sm)), (6, .int (nI ce)), (5, .int (nI (cN σ))), (4, .int X), (3, .int (nI tm)), (2, .ref (ad [2])), (1, .ref (ad [0])), (0, .ref (D.2 99 0))]) (by rw [LO_is]) ?_
  refine V_lv [0, 1, 8, 9, 10, 11, 12, 13, 14, 15, 16, 17] rfl ?_
  exact lw_than C hl (by omega) hσ hI0 hj hC1 hS1 hc1 hc2 17 2 1 tl t lo _ _ (by omega) (by omega) (by omega) (by omega) (by omega) K
set_option maxRecDepth 20000 in
set_option maxHeartbeats 4000000 in
theorem lw_hall2 {p : Program} {l : Launch} {e : Env} {s : State} {m : MethodId} {args : Array Value} {below : List Frame} {meth : Method} {c : Code} {D : va_G} {ba d mc ms : Nat} {ad : Adr} {Q : State → Prop} {tb : List ExceptionTableEntry} (C : Cx p l s m args meth c D ba RL cL_law 23 tb d) (hl : l.stackTraces = false) (hd : 12 ≤ d) {σ : CS} (hσ : cOK σ) (hI0 : cI σ) {j : Nat} (hj : j < cN σ) {X : Int32} {tm sm ce : Nat} {C1 S1 : Nat} (hC1 : C1 ≤ mc) (hS1 : S1 ≤ ms) {click : Nat} (hc1 : 1 ≤ click) (hc2 : click ≤ 1000) {tl : Int32} {t : TT} {lo : Nat → Int32} {cz sz : Nat} (hcz : cz + 1000 ≤ C1) (hsz : sz + 8400 ≤ S1) (K : ∀ tl t lo, V p l e s m args below meth c D ba d mc ms Q 23 ad (LW ad σ σ tl t lo) 679 [(9, .int (nI click)), (8, .int (nI j)), (7, .int (nI sm)), (6, .int (nI ce)), (5, .int (nI (cN σ))), (4, .int X), (3, .int (nI tm)), (2, .ref (ad [2])), (1, .ref (ad [0])), (0, .ref (D.2 99 0))] [] C1 S1) : V p l e s m args below meth c D ba d mc ms Q 23 ad (LW ad σ σ tl t lo) 235 [(11, .int (nI (hDm (cH σ j)))), (10, .int (nI (hDu (cH σ j)))), (9, .int (nI click)), (8, .int (nI j)), (7, .int (nI sm)), (6, .int (nI ce)), (5, .int (nI (cN σ))), (4, .int X), (3, .int (nI tm)), (2, .ref (ad [2])), (1, .ref (ad [0])), (0, .ref (D.2 99 0))] [] cz sz := by
  have hσ1 := hσ.1
  have hσ2 := hσ.2.1
  have hu := hσ.2.2.1 j hj
  have hu1 := hu.1
  have hu2 := hu.2.1
  have hu3 := hu.2.2.1
  have hu4 := hu.2.2.2.1
  refine V_new (ci := 5) (fs := [.null, .null, .int 0, .int 0, .int 0, .int 0, .null, .null]) C [1] dL_law_235 RX6 TX6 8 tyX6 tyX6_ok fw_X6 rfl tw_17 tw_18 tw_1 (fun j hj => by rcases (show j = 0 ∨ j = 1 ∨ j = 2 ∨ j = 3 ∨ j = 4 ∨ j = 5 ∨ j = 6 ∨ j = 7 by omega) with rfl | rfl | rfl | rfl | rfl | rfl | rfl | rfl <;> rfl) LW_1 (by omega) (by omega) (fun q0 => ?_)
  obtain ⟨a1, hA1⟩ : ∃ z, z = aset ad [1] q0 := ⟨_, rfl⟩
  rw [← hA1]
  have hq1 : q0 = a1 [1] := by rw [hA1]; exact aset_s.symm
  have hKa : K1 ad a1 := fun k r hk => by rw [hA1]; exact aset_n (by simp [hk])
  refine V_stE (st' := [.ref (a1 [1])]) (by rw [hq1]) ?_
  refine V_lvE (lv' := [(11, .int (nI (hDm (cH σ j)))), (10, .int (nI (hDu (cH σ j)))), (9, .int (nI click)), (8, .int (nI j)), (7, .int (nI sm)), (6, .int (nI ce)), (5, .int (nI (cN σ))), (4, .int X), (3, .int (nI tm)), (2, .ref (a1 [2])), (1, .ref (a1 [0])), (0, .ref (D.2 99 0))]) (by rw [hKa 0 [] (by decide), hKa 2 [] (by decide)]) ?_
  refine V_wd (w' := wset (put 1 (fun _ => none) (LW a1 σ σ tl t lo)) [1] (.inr (5, [.null, .null, .int 0, .int 0, .int 0, .int 0, .null, .null]))) (by rw [put0_id (fun _ => LW_1), LW_K1 hKa]) ?_
  refine V_dup C dL_law_238 rfl ?_
  refine V_callI C [] dL_law_239 m_X6_init k_X6_init tw_19 rfl rfl (Nat.le_of_ble_eq_true rfl) ⟨by omega, by omega, by omega, by omega⟩ (p_init (i := 1) (o := LW a1 σ σ tl t lo) hl (by omega)) ?_ kx_no
  rintro v2 a2 w2 ⟨rfl, hK, rfl⟩
  have hK0 : K1 ad a2 := fun k r hk => (hK.1 k r hk).trans (hKa k r hk)
  refine V_stE (st' := [.ref (a2 [1])]) (by rw [hK.2]; rfl) ?_
  refine V_lvE (lv' := [(11, .int (nI (hDm (cH σ j)))), (10, .int (nI (hDu (cH σ j)))), (9, .int (nI click)), (8, .int (nI j)), (7, .int (nI sm)), (6, .int (nI ce)), (5, .int (nI (cN σ))), (4, .int X), (3, .int (nI tm)), (2, .ref (a2 [2])), (1, .ref (a2 [0])), (0, .ref (D.2 99 0))]) (by rw [hK.1 0 [] (by decide), hK.1 2 [] (by decide)]) ?_
  refine V_wd (w' := L3 a2 σ tl t lo (oneC (cH σ j) 0) 0 (0, 0, 0, 0) (fun _ => 0)) (L3_K hK) ?_
  refine V_wd (w' := L3b a2 σ tl t lo (oneC (cH σ j) 0) 0 (0, 0, 0, 0) (fun _ => 0)) L3_sw ?_
  refine V_astore C [(12, .ref (a2 [1])), (11, .int (nI (hDm (cH σ j)))), (10, .int (nI (hDu (cH σ j)))), (9, .int (nI click)), (8, .int (nI j)), (7, .int (nI sm)), (6, .int (nI ce)), (5, .int (nI (cN σ))), (4, .int X), (3, .int (nI tm)), (2, .ref (a2 [2])), (1, .ref (a2 [0])), (0, .ref (D.2 99 0))] dL_law_242 (by decide) rfl ?_
  refine V_aload_n C dL_law_244 11 rfl ?_
  refine V_iload C dL_law_245 4 rfl ?_
  refine V_callV (r := (RX6, TX6, 8)) C [.int (nI j)] dL_law_247 m_X6_surfacesOf k_X6_surfacesOf tw_278 rfl rfl rfl PW_b rfl rfl (Nat.le_of_ble_eq_true rfl) ⟨by omega, by omega, by omega, by omega⟩ (p_surfacesOf (i := 0) hl (by omega) hσ hj) (kr_RP (x := .int (nI (hSc (cH σ j)))) (fun tl t lo => ?_)) kx_no
  refine V_istore C [(13, .int (nI (hSc (cH σ j)))), (12, .ref (a2 [1])), (11, .int (nI (hDm (cH σ j)))), (10, .int (nI (hDu (cH σ j)))), (9, .int (nI click)), (8, .int (nI j)), (7, .int (nI sm)), (6, .int (nI ce)), (5, .int (nI (cN σ))), (4, .int X), (3, .int (nI tm)), (2, .ref (a2 [2])), (1, .ref (a2 [0])), (0, .ref (D.2 99 0))] dL_law_250 (by decide) rfl ?_
  refine V_iconst (v := nI 0) C dL_law_252 (by decide) ?_
  refine V_istore C [(14, .int (nI 0)), (13, .int (nI (hSc (cH σ j)))), (12, .ref (a2 [1])), (11, .int (nI (hDm (cH σ j)))), (10, .int (nI (hDu (cH σ j)))), (9, .int (nI click)), (8, .int (nI j)), (7, .int (nI sm)), (6, .int (nI ce)), (5, .int (nI (cN σ))), (4, .int X), (3, .int (nI tm)), (2, .ref (a2 [2])), (1, .ref (a2 [0])), (0, .ref (D.2 99 0))] dL_law_253 (by decide) rfl ?_
  refine V_iconst (v := nI 0) C dL_law_255 (by decide) ?_
  refine V_istore C [(15, .int (nI 0)), (14, .int (nI 0)), (13, .int (nI (hSc (cH σ j)))), (12, .ref (a2 [1])), (11, .int (nI (hDm (cH σ j)))), (10, .int (nI (hDu (cH σ j)))), (9, .int (nI click)), (8, .int (nI j)), (7, .int (nI sm)), (6, .int (nI ce)), (5, .int (nI (cN σ))), (4, .int X), (3, .int (nI tm)), (2, .ref (a2 [2])), (1, .ref (a2 [0])), (0, .ref (D.2 99 0))] dL_law_256 (by decide) rfl ?_
  refine V_iconst (v := -1) C dL_law_258 (by decide) ?_
  refine V_istore C [(16, .int (-1)), (15, .int (nI 0)), (14, .int (nI 0)), (13, .int (nI (hSc (cH σ j)))), (12, .ref (a2 [1])), (11, .int (nI (hDm (cH σ j)))), (10, .int (nI (hDu (cH σ j)))), (9, .int (nI click)), (8, .int (nI j)), (7, .int (nI sm)), (6, .int (nI ce)), (5, .int (nI (cN σ))), (4, .int X), (3, .int (nI tm)), (2, .ref (a2 [2])), (1, .ref (a2 [0])), (0, .ref (D.2 99 0))] dL_law_259 (by decide) rfl ?_
  refine V_iconst (v := -1) C dL_law_261 (by decide) ?_
  refine V_istore C [(17, .int (-1)), (16, .int (-1)), (15, .int (nI 0)), (14, .int (nI 0)), (13, .int (nI (hSc (cH σ j)))), (12, .ref (a2 [1])), (11, .int (nI (hDm (cH σ j)))), (10, .int (nI (hDu (cH σ j)))), (9, .int (nI click)), (8, .int (nI j)), (7, .int (nI sm)), (6, .int (nI ce)), (5, .int (nI (cN σ))), (4, .int X), (3, .int (nI tm)), (2, .ref (a2 [2])), (1, .ref (a2 [0])), (0, .ref (D.2 99 0))] dL_law_262 (by decide) rfl ?_
  refine V_iconst (v := nI 0) C dL_law_264 (by decide) ?_
  refine V_istore C [(18, .int (nI 0)), (17, .int (-1)), (16, .int (-1)), (15, .int (nI 0)), (14, .int (nI 0)), (13, .int (nI (hSc (cH σ j)))), (12, .ref (a2 [1])), (11, .int (nI (hDm (cH σ j)))), (10, .int (nI (hDu (cH σ j)))), (9, .int (nI click)), (8, .int (nI j)), (7, .int (nI sm)), (6, .int (nI ce)), (5, .int (nI (cN σ))), (4, .int X), (3, .int (nI tm)), (2, .ref (a2 [2])), (1, .ref (a2 [0])), (0, .ref (D.2 99 0))] dL_law_265 (by decide) rfl ?_
  refine V_bipush (v := nI 6) C dL_law_267 (by decide) ?_
  refine V_iconst (v := nI 1) C dL_law_269 (by decide) ?_
  refine V_iload C dL_law_270 14 rfl ?_
  refine V_iconst (v := nI 5) C dL_law_272 (by decide) ?_
  refine V_ishrn C dL_law_273 ?_
  refine V_sipush (v := nI 500) C dL_law_274 (by decide) ?_
  have hbl277 := bl_lt (v := (sh X 5)) (n := 500) (by omega)
  refine V_callS C [.int (sh X 5), .int (nI 500)] dL_law_277 m_L_below k_L_below tw_508 rfl rfl (Nat.le_of_ble_eq_true rfl) ⟨by omega, by omega, by omega, by omega⟩ (s_below hl (by omega) (sh X 5) (by omega) (by omega)) (kr_some (x := .int (nI (bl (sh X 5) 500))) ?_) kx_no
  refine V_iaddn C dL_law_280 ?_
  obtain ⟨mm, hmm⟩ : ∃ z, z = 1 + (bl (sh X 5) 500) := ⟨_, rfl⟩
  have hm2 : 6 * mm ≤ 3000 := by omega
  rw [← hmm]
  refine V_imuln C dL_law_281 ?_
  refine V_istore C [(19, .int (nI (6 * mm))), (18, .int (nI 0)), (17, .int (-1)), (16, .int (-1)), (15, .int (nI 0)), (14, .int (nI 0)), (13, .int (nI (hSc (cH σ j)))), (12, .ref (a2 [1])), (11, .int (nI (hDm (cH σ j)))), (10, .int (nI (hDu (cH σ j)))), (9, .int (nI click)), (8, .int (nI j)), (7, .int (nI sm)), (6, .int (nI ce)), (5, .int (nI (cN σ))), (4, .int X), (3, .int (nI tm)), (2, .ref (a2 [2])), (1, .ref (a2 [0])), (0, .ref (D.2 99 0))] dL_law_282 (by decide) rfl ?_
  refine V_iload C dL_law_284 0 rfl ?_
  refine V_sipush (v := nI 3000) C dL_law_286 (by decide) ?_
  refine V_icmpn_le (tgt := 297) C dL_law_289 (by decide) (by omega) (by decide) (fun hb1 => ?_) (fun hb1 => by exfalso; omega)
  refine V_iconst (v := nI 0) C dL_law_297 (by decide) ?_
  refine V_istore C [(20, .int (nI 0)), (19, .int (nI (6 * mm))), (18, .int (nI 0)), (17, .int (-1)), (16, .int (-1)), (15, .int (nI 0)), (14, .int (nI 0)), (13, .int (nI (hSc (cH σ j)))), (12, .ref (a2 [1])), (11, .int (nI (hDm (cH σ j)))), (10, .int (nI (hDu (cH σ j)))), (9, .int (nI click)), (8, .int (nI j)), (7, .int (nI sm)), (6, .int (nI ce)), (5, .int (nI (cN σ))), (4, .int X), (3, .int (nI tm)), (2, .ref (a2 [2])), (1, .ref (a2 [0])), (0, .ref (D.2 99 0))] dL_law_298 (by decide) rfl ?_
  refine V_lv [0, 1, 2, 3, 4, 5, 6, 7, 8, 9, 11, 12, 13, 14, 15, 16, 17, 18, 19, 20] rfl ?_
  refine V_lvE (lv' := [(20, .int (nI 0)), (19, .int (nI (6 * mm))), (18, .int (LK (cH σ j) click 0 mm)), (17, .int ((tal (nI 1) (AK (cH σ j) click 0)).2.2.2)), (16, .int ((tal (nI 1) (AK (cH σ j) click 0)).2.2.1)), (15, .int ((tal (nI (1 + click / 2)) (AK (cH σ j) click 0)).2.1)), (14, .int ((tal (nI 1) (AK (cH σ j) click 0)).1)), (13, .int (nI (hSc (cH σ j)))), (12, .ref (a2 [1])), (11, .int (nI (hDm (cH σ j)))), (9, .int (nI click)), (8, .int (nI j)), (7, .int (nI sm)), (6, .int (nI ce)), (5, .int (nI (cN σ))), (4, .int X), (3, .int (nI tm)), (2, .ref (a2 [2])), (1, .ref (a2 [0])), (0, .ref (D.2 99 0))]) rfl ?_
  refine lw_surf (C1 := cz + 800) (S1 := sz + 6200) C hl (by omega) hσ hI0 hj (by omega) (by omega) hc1 hc2 hm2 (hSc (cH σ j)) 0 a2 tl t lo _ _ _ _ _ (by omega) hK0 (by omega) (by omega) (fun tl t lo => ?_)
  exact lw_look C hl (by omega) hσ hI0 hj hC1 hS1 hc1 hc2 hm2 (by omega) (by omega) K
set_option maxRecDepth 20000 in
set_option maxHeartbeats 4000000 in
theorem lw_halls {p : Program} {l : Launch} {e : Env} {s : State} {m : MethodId} {args : Array Value} {below : List Frame} {meth : Method} {c : Code} {D : va_G} {ba d mc ms : Nat} {ad : Adr} {Q : State → Prop} {tb : List ExceptionTableEntry} (C : Cx p l s m args meth c D ba RL cL_law 23 tb d) (hl : l.stackTraces = false) (hd : 12 ≤ d) {σ : CS} (hσ : cOK σ) (hI0 : cI σ) {X : Int32} {tm : Nat} {C1 S1 : Nat} (hC1 : C1 ≤ mc) (hS1 : S1 ≤ ms)  : ∀ (n : Nat) (j : Nat) (tl : Int32) (t : TT) (lo : Nat → Int32) (cz sz : Nat), j + n = cN σ → cz + 1100 * n ≤ C1 → sz + 9000 * n ≤ S1 → (∀ tl t lo, V p l e s m args below meth c D ba d mc ms Q 23 ad (LW ad σ σ tl t lo) 685 [(7, .int (nI (sumD (cH σ) (cN σ)))), (6, .int (nI (certs (cH σ) (cN σ)))), (5, .int (nI (cN σ))), (4, .int X), (3, .int (nI tm)), (2, .ref (ad [2])), (1, .ref (ad [0])), (0, .ref (D.2 99 0))] [] C1 S1) → V p l e s m args below meth c D ba d mc ms Q 23 ad (LW ad σ σ tl t lo) 95 [(8, .int (nI j)), (7, .int (nI (upF (sumN (cH σ)) j 0))), (6, .int (nI (upF (certN (cH σ)) j 0))), (5, .int (nI (cN σ))), (4, .int X), (3, .int (nI tm)), (2, .ref (ad [2])), (1, .ref (ad [0])), (0, .ref (D.2 99 0))] [] cz sz := by
  intro n
  induction n with
  | zero =>
    intro j tl t lo cz sz hjn hcz hsz K
    have hσ1 := hσ.1
    have hσ2 := hσ.2.1
    refine V_iload C dL_law_95 0 rfl ?_
    refine V_iload C dL_law_97 3 rfl ?_
    refine V_icmpn_ge (tgt := 685) C dL_law_99 (by decide) (by omega) (by omega) (fun hb1 => ?_) (fun hb1 => by exfalso; omega)
    refine V_lv [1, 2, 3, 4, 5, 6, 7, 8] rfl ?_
    refine V_lvE (lv' := [(7, .int (nI (sumD (cH σ) (cN σ)))), (6, .int (nI (certs (cH σ) (cN σ)))), (5, .int (nI (cN σ))), (4, .int X), (3, .int (nI tm)), (2, .ref (ad [2])), (1, .ref (ad [0])), (0, .ref (D.2 99 0))]) (by rw [show j = cN σ by omega]; rfl) ?_
    exact V_cs (by omega) (by omega) (K tl t lo)
  | succ n ih =>
    intro j tl t lo cz sz hjn hcz hsz K
    have hσ1 := hσ.1
    have hσ2 := hσ.2.1
    rw [show 1100 * (n + 1) = 1100 * n + 1100 from Nat.mul_succ 1100 n] at hcz
    rw [show 9000 * (n + 1) = 9000 * n + 9000 from Nat.mul_succ 9000 n] at hsz
    refine V_iload C dL_law_95 0 rfl ?_
    refine V_iload C dL_law_97 3 rfl ?_
    refine V_icmpn_ge (tgt := 685) C dL_law_99 (by decide) (by omega) (by omega) (fun hb1 => by exfalso; omega) (fun hb1 => ?_)
    have hj : j < cN σ := by omega
    have hu := hσ.2.2.1 j hj
    have hu1 := hu.1
    have hu2 := hu.2.1
    have hu3 := hu.2.2.1
    have hu4 := hu.2.2.2.1
    have hle9 : (if hCe (cH σ j) = -1 then 0 else 1) ≤ 1 := by split <;> omega
    have hIj := hI0 j hj
    refine V_iconst (v := nI 1) C dL_law_102 (by decide) ?_
    refine V_iload C dL_law_103 4 rfl ?_
    refine V_iconst (v := nI 2) C dL_law_105 (by decide) ?_
    refine V_ishrn C dL_law_106 ?_
    refine V_bipush (v := nI 37) C dL_law_107 (by decide) ?_
    refine V_iload C dL_law_109 0 rfl ?_
    refine V_imuln C dL_law_111 ?_
    refine V_iadd C dL_law_112 ?_
    refine V_sipush (v := nI 1000) C dL_law_113 (by decide) ?_
    have hbl116 := bl_lt (v := ((sh X 2) + (nI (37 * j)))) (n := 1000) (by omega)
    refine V_callS C [.int ((sh X 2) + (nI (37 * j))), .int (nI 1000)] dL_law_116 m_L_below k_L_below tw_508 rfl rfl (Nat.le_of_ble_eq_true rfl) ⟨by omega, by omega, by omega, by omega⟩ (s_below hl (by omega) ((sh X 2) + (nI (37 * j))) (by omega) (by omega)) (kr_some (x := .int (nI (bl ((sh X 2) + (nI (37 * j))) 1000))) ?_) kx_no
    refine V_iaddn C dL_law_119 ?_
    obtain ⟨click, hcl⟩ : ∃ z, z = 1 + (bl ((sh X 2) + (nI (37 * j))) 1000) := ⟨_, rfl⟩
    have hc1 : 1 ≤ click := by omega
    have hc2 : click ≤ 1000 := by omega
    rw [← hcl]
    refine V_istore C [(9, .int (nI click)), (8, .int (nI j)), (7, .int (nI (upF (sumN (cH σ)) j 0))), (6, .int (nI (upF (certN (cH σ)) j 0))), (5, .int (nI (cN σ))), (4, .int X), (3, .int (nI tm)), (2, .ref (ad [2])), (1, .ref (ad [0])), (0, .ref (D.2 99 0))] dL_law_120 (by decide) rfl ?_
    refine V_aload_n C dL_law_122 8 rfl ?_
    refine V_iload C dL_law_123 1 rfl ?_
    refine V_callV (r := (RX6, TX6, 8)) C [.int (nI j)] dL_law_125 m_X6_dustOf k_X6_dustOf tw_306 rfl rfl rfl PW_b rfl rfl (Nat.le_of_ble_eq_true rfl) ⟨by omega, by omega, by omega, by omega⟩ (p_dustOf (i := 0) hl (by omega) hσ hj) (kr_RP (x := .int (nI (hDu (cH σ j)))) (fun tl t lo => ?_)) kx_no
    refine V_istore C [(10, .int (nI (hDu (cH σ j)))), (9, .int (nI click)), (8, .int (nI j)), (7, .int (nI (upF (sumN (cH σ)) j 0))), (6, .int (nI (upF (certN (cH σ)) j 0))), (5, .int (nI (cN σ))), (4, .int X), (3, .int (nI tm)), (2, .ref (ad [2])), (1, .ref (ad [0])), (0, .ref (D.2 99 0))] dL_law_128 (by decide) rfl ?_
    refine V_aload_n C dL_law_130 9 rfl ?_
    refine V_iload C dL_law_131 2 rfl ?_
    refine V_callV (r := (RX6, TX6, 8)) C [.int (nI j)] dL_law_133 m_X6_dampingOf k_X6_dampingOf tw_302 rfl rfl rfl PW_b rfl rfl (Nat.le_of_ble_eq_true rfl) ⟨by omega, by omega, by omega, by omega⟩ (p_dampingOf (i := 0) hl (by omega) hσ hj) (kr_RP (x := .int (nI (hDm (cH σ j)))) (fun tl t lo => ?_)) kx_no
    refine V_istore C [(11, .int (nI (hDm (cH σ j)))), (10, .int (nI (hDu (cH σ j)))), (9, .int (nI click)), (8, .int (nI j)), (7, .int (nI (upF (sumN (cH σ)) j 0))), (6, .int (nI (upF (certN (cH σ)) j 0))), (5, .int (nI (cN σ))), (4, .int X), (3, .int (nI tm)), (2, .ref (ad [2])), (1, .ref (ad [0])), (0, .ref (D.2 99 0))] dL_law_136 (by decide) rfl ?_
    refine V_iload C dL_law_138 1 rfl ?_
    refine V_ifn_lt (tgt := 207) C dL_law_140 (by decide) (by omega) ?_
    refine V_iload C dL_law_143 1 rfl ?_
    refine V_bipush (v := nI 100) C dL_law_145 (by decide) ?_
    refine V_icmpn_gt (tgt := 207) C dL_law_147 (by decide) (by omega) (by decide) (fun hb3 => by exfalso; omega) (fun hb3 => ?_)
    refine V_iload C dL_law_150 0 rfl ?_
    refine V_ifn_lt (tgt := 207) C dL_law_152 (by decide) (by omega) ?_
    refine V_iload C dL_law_155 0 rfl ?_
    refine V_bipush (v := nI 90) C dL_law_157 (by decide) ?_
    refine V_icmpn_gt (tgt := 207) C dL_law_159 (by decide) (by omega) (by decide) (fun hb5 => by exfalso; omega) (fun hb5 => ?_)
    refine V_aload_n C dL_law_162 10 rfl ?_
    refine V_iload C dL_law_163 3 rfl ?_
    refine V_callV (r := (RX6, TX6, 8)) C [.int (nI j)] dL_law_165 m_X6_surfacesOf k_X6_surfacesOf tw_278 rfl rfl rfl PW_b rfl rfl (Nat.le_of_ble_eq_true rfl) ⟨by omega, by omega, by omega, by omega⟩ (p_surfacesOf (i := 0) hl (by omega) hσ hj) (kr_RP (x := .int (nI (hSc (cH σ j)))) (fun tl t lo => ?_)) kx_no
    refine V_bipush (v := nI 6) C dL_law_168 (by decide) ?_
    refine V_icmpn_gt (tgt := 207) C dL_law_170 (by decide) (by omega) (by decide) (fun hb6 => by exfalso; omega) (fun hb6 => ?_)
    refine V_aload_n C dL_law_173 10 rfl ?_
    refine V_iload C dL_law_174 3 rfl ?_
    refine V_callV (r := (RX6, TX6, 8)) C [.int (nI j)] dL_law_176 m_X6_isCertified k_X6_isCertified tw_414 rfl rfl rfl PW_b rfl rfl (Nat.le_of_ble_eq_true rfl) ⟨by omega, by omega, by omega, by omega⟩ (p_isCertified (i := 0) hl (by omega) hσ hj) (kr_RP (x := .int (nI (if hCe (cH σ j) = -1 then 0 else 1))) (fun tl t lo => ?_)) kx_no
    refine V_aload_n C dL_law_179 10 rfl ?_
    refine V_iload C dL_law_180 3 rfl ?_
    refine V_callV (r := (RX6, TX6, 8)) C [.int (nI j)] dL_law_182 m_X6_daysLeft k_X6_daysLeft tw_422 rfl rfl rfl PW_b rfl rfl (Nat.le_of_ble_eq_true rfl) ⟨by omega, by omega, by omega, by omega⟩ (p_daysLeft (i := 0) hl (by omega) hσ hj) (kr_RP (x := .int (nI (hDy (cH σ j)))) (fun tl t lo => ?_)) kx_no
    refine V_ifn_le (tgt := 192) C dL_law_185 (by decide) (by omega) (fun hb7 => ?_) (fun hb7 => ?_)
    · skip
      have hce : (if hCe (cH σ j) = -1 then 0 else 1) = 0 := by rcases hIj with z | ⟨q, h5, hq, hy⟩; exact if_pos z.1; omega
      refine V_iconst (v := nI 0) C dL_law_192 (by decide) ?_
      refine V_icmpn_ne (tgt := 207) C dL_law_193 (by decide) (by omega) (by decide) (fun hb8 => by exfalso; omega) (fun hb8 => ?_)
      refine V_aload_n C dL_law_196 10 rfl ?_
      refine V_iload C dL_law_197 3 rfl ?_
      refine V_callV (r := (RX6, TX6, 8)) C [.int (nI j)] dL_law_199 m_X6_daysLeft k_X6_daysLeft tw_422 rfl rfl rfl PW_b rfl rfl (Nat.le_of_ble_eq_true rfl) ⟨by omega, by omega, by omega, by omega⟩ (p_daysLeft (i := 0) hl (by omega) hσ hj) (kr_RP (x := .int (nI (hDy (cH σ j)))) (fun tl t lo => ?_)) kx_no
      refine V_bipush (v := nI 100) C dL_law_202 (by decide) ?_
      refine V_icmpn_le (tgt := 209) C dL_law_204 (by decide) (by omega) (by decide) (fun hb9 => ?_) (fun hb9 => by exfalso; omega)
      refine V_iload C dL_law_209 5 rfl ?_
      refine V_aload_n C dL_law_211 10 rfl ?_
      refine V_iload C dL_law_212 3 rfl ?_
      refine V_callV (r := (RX6, TX6, 8)) C [.int (nI j)] dL_law_214 m_X6_isCertified k_X6_isCertified tw_414 rfl rfl rfl PW_b rfl rfl (Nat.le_of_ble_eq_true rfl) ⟨by omega, by omega, by omega, by omega⟩ (p_isCertified (i := 0) hl (by omega) hσ hj) (kr_RP (x := .int (nI (if hCe (cH σ j) = -1 then 0 else 1))) (fun tl t lo => ?_)) kx_no
      refine V_ifn_eq (tgt := 224) C dL_law_217 (by decide) (by omega) (fun hb10 => ?_) (fun hb10 => ?_)
      · skip
        have hcc : hCe (cH σ j) = -1 := Decidable.byContradiction (fun z => by rw [if_neg z] at hb10; omega)
        refine V_iconst (v := nI 0) C dL_law_224 (by decide) ?_
        refine V_iaddn C dL_law_225 ?_
        refine V_stE (st' := [.int (nI (upF (certN (cH σ)) (j + 1) 0))]) (by rw [upF_succ, ← certN_T hcc]) ?_
        refine V_istore C [(6, .int (nI (upF (certN (cH σ)) (j + 1) 0))), (11, .int (nI (hDm (cH σ j)))), (10, .int (nI (hDu (cH σ j)))), (9, .int (nI click)), (8, .int (nI j)), (7, .int (nI (upF (sumN (cH σ)) j 0))), (5, .int (nI (cN σ))), (4, .int X), (3, .int (nI tm)), (2, .ref (ad [2])), (1, .ref (ad [0])), (0, .ref (D.2 99 0))] dL_law_226 (by decide) rfl ?_
        refine V_iload C dL_law_228 5 rfl ?_
        refine V_iload C dL_law_230 1 rfl ?_
        refine V_iaddn C dL_law_232 ?_
        refine V_stE (st' := [.int (nI (upF (sumN (cH σ)) (j + 1) 0))]) rfl ?_
        refine V_istore C [(7, .int (nI (upF (sumN (cH σ)) (j + 1) 0))), (6, .int (nI (upF (certN (cH σ)) (j + 1) 0))), (11, .int (nI (hDm (cH σ j)))), (10, .int (nI (hDu (cH σ j)))), (9, .int (nI click)), (8, .int (nI j)), (5, .int (nI (cN σ))), (4, .int X), (3, .int (nI tm)), (2, .ref (ad [2])), (1, .ref (ad [0])), (0, .ref (D.2 99 0))] dL_law_233 (by decide) rfl ?_
        refine V_lv [2, 3, 4, 5, 0, 1, 6, 7, 8, 9, 10, 11] rfl ?_
        exact lw_hall2 C hl (by omega) hσ hI0 hj (C1 := cz + 1060) (S1 := sz + 8850) (by omega) (by omega) hc1 hc2 (by omega) (by omega) (fun tl t lo => by
          refine V_iincn C [(8, .int (nI (j + 1))), (9, .int (nI click)), (7, .int (nI (upF (sumN (cH σ)) (j + 1) 0))), (6, .int (nI (upF (certN (cH σ)) (j + 1) 0))), (5, .int (nI (cN σ))), (4, .int X), (3, .int (nI tm)), (2, .ref (ad [2])), (1, .ref (ad [0])), (0, .ref (D.2 99 0))] dL_law_679 1 rfl (by decide) rfl ?_
          refine V_goto (tgt := 95) C dL_law_682 (by decide) ?_
          refine V_lv [0, 2, 3, 4, 5, 6, 7, 8, 9] rfl ?_
          exact ih (j + 1) tl t lo _ _ (by omega) (by omega) (by omega) K)
      · skip
        have hcc : ¬ hCe (cH σ j) = -1 := fun z => by rw [if_pos z] at hb10; exact hb10 rfl
        refine V_iconst (v := nI 1) C dL_law_220 (by decide) ?_
        refine V_goto (tgt := 225) C dL_law_221 (by decide) ?_
        refine V_iaddn C dL_law_225 ?_
        refine V_stE (st' := [.int (nI (upF (certN (cH σ)) (j + 1) 0))]) (by rw [upF_succ, ← certN_F hcc]) ?_
        refine V_istore C [(6, .int (nI (upF (certN (cH σ)) (j + 1) 0))), (11, .int (nI (hDm (cH σ j)))), (10, .int (nI (hDu (cH σ j)))), (9, .int (nI click)), (8, .int (nI j)), (7, .int (nI (upF (sumN (cH σ)) j 0))), (5, .int (nI (cN σ))), (4, .int X), (3, .int (nI tm)), (2, .ref (ad [2])), (1, .ref (ad [0])), (0, .ref (D.2 99 0))] dL_law_226 (by decide) rfl ?_
        refine V_iload C dL_law_228 5 rfl ?_
        refine V_iload C dL_law_230 1 rfl ?_
        refine V_iaddn C dL_law_232 ?_
        refine V_stE (st' := [.int (nI (upF (sumN (cH σ)) (j + 1) 0))]) rfl ?_
        refine V_istore C [(7, .int (nI (upF (sumN (cH σ)) (j + 1) 0))), (6, .int (nI (upF (certN (cH σ)) (j + 1) 0))), (11, .int (nI (hDm (cH σ j)))), (10, .int (nI (hDu (cH σ j)))), (9, .int (nI click)), (8, .int (nI j)), (5, .int (nI (cN σ))), (4, .int X), (3, .int (nI tm)), (2, .ref (ad [2])), (1, .ref (ad [0])), (0, .ref (D.2 99 0))] dL_law_233 (by decide) rfl ?_
        refine V_lv [2, 3, 4, 5, 0, 1, 6, 7, 8, 9, 10, 11] rfl ?_
        exact lw_hall2 C hl (by omega) hσ hI0 hj (C1 := cz + 1060) (S1 := sz + 8850) (by omega) (by omega) hc1 hc2 (by omega) (by omega) (fun tl t lo => by
          refine V_iincn C [(8, .int (nI (j + 1))), (9, .int (nI click)), (7, .int (nI (upF (sumN (cH σ)) (j + 1) 0))), (6, .int (nI (upF (certN (cH σ)) (j + 1) 0))), (5, .int (nI (cN σ))), (4, .int X), (3, .int (nI tm)), (2, .ref (ad [2])), (1, .ref (ad [0])), (0, .ref (D.2 99 0))] dL_law_679 1 rfl (by decide) rfl ?_
          refine V_goto (tgt := 95) C dL_law_682 (by decide) ?_
          refine V_lv [0, 2, 3, 4, 5, 6, 7, 8, 9] rfl ?_
          exact ih (j + 1) tl t lo _ _ (by omega) (by omega) (by omega) K)
    · skip
      have hce : (if hCe (cH σ j) = -1 then 0 else 1) = 1 := by rcases hIj with z | ⟨q, h5, hq, hy⟩; omega; exact if_neg (fun z => nI_nm1 (show q < 2 ^ 31 by omega) (hq.symm.trans z))
      refine V_iconst (v := nI 1) C dL_law_188 (by decide) ?_
      refine V_goto (tgt := 193) C dL_law_189 (by decide) ?_
      refine V_icmpn_ne (tgt := 207) C dL_law_193 (by decide) (by omega) (by decide) (fun hb11 => by exfalso; omega) (fun hb11 => ?_)
      refine V_aload_n C dL_law_196 10 rfl ?_
      refine V_iload C dL_law_197 3 rfl ?_
      refine V_callV (r := (RX6, TX6, 8)) C [.int (nI j)] dL_law_199 m_X6_daysLeft k_X6_daysLeft tw_422 rfl rfl rfl PW_b rfl rfl (Nat.le_of_ble_eq_true rfl) ⟨by omega, by omega, by omega, by omega⟩ (p_daysLeft (i := 0) hl (by omega) hσ hj) (kr_RP (x := .int (nI (hDy (cH σ j)))) (fun tl t lo => ?_)) kx_no
      refine V_bipush (v := nI 100) C dL_law_202 (by decide) ?_
      refine V_icmpn_le (tgt := 209) C dL_law_204 (by decide) (by omega) (by decide) (fun hb12 => ?_) (fun hb12 => by exfalso; omega)
      refine V_iload C dL_law_209 5 rfl ?_
      refine V_aload_n C dL_law_211 10 rfl ?_
      refine V_iload C dL_law_212 3 rfl ?_
      refine V_callV (r := (RX6, TX6, 8)) C [.int (nI j)] dL_law_214 m_X6_isCertified k_X6_isCertified tw_414 rfl rfl rfl PW_b rfl rfl (Nat.le_of_ble_eq_true rfl) ⟨by omega, by omega, by omega, by omega⟩ (p_isCertified (i := 0) hl (by omega) hσ hj) (kr_RP (x := .int (nI (if hCe (cH σ j) = -1 then 0 else 1))) (fun tl t lo => ?_)) kx_no
      refine V_ifn_eq (tgt := 224) C dL_law_217 (by decide) (by omega) (fun hb13 => ?_) (fun hb13 => ?_)
      · skip
        have hcc : hCe (cH σ j) = -1 := Decidable.byContradiction (fun z => by rw [if_neg z] at hb13; omega)
        refine V_iconst (v := nI 0) C dL_law_224 (by decide) ?_
        refine V_iaddn C dL_law_225 ?_
        refine V_stE (st' := [.int (nI (upF (certN (cH σ)) (j + 1) 0))]) (by rw [upF_succ, ← certN_T hcc]) ?_
        refine V_istore C [(6, .int (nI (upF (certN (cH σ)) (j + 1) 0))), (11, .int (nI (hDm (cH σ j)))), (10, .int (nI (hDu (cH σ j)))), (9, .int (nI click)), (8, .int (nI j)), (7, .int (nI (upF (sumN (cH σ)) j 0))), (5, .int (nI (cN σ))), (4, .int X), (3, .int (nI tm)), (2, .ref (ad [2])), (1, .ref (ad [0])), (0, .ref (D.2 99 0))] dL_law_226 (by decide) rfl ?_
        refine V_iload C dL_law_228 5 rfl ?_
        refine V_iload C dL_law_230 1 rfl ?_
        refine V_iaddn C dL_law_232 ?_
        refine V_stE (st' := [.int (nI (upF (sumN (cH σ)) (j + 1) 0))]) rfl ?_
        refine V_istore C [(7, .int (nI (upF (sumN (cH σ)) (j + 1) 0))), (6, .int (nI (upF (certN (cH σ)) (j + 1) 0))), (11, .int (nI (hDm (cH σ j)))), (10, .int (nI (hDu (cH σ j)))), (9, .int (nI click)), (8, .int (nI j)), (5, .int (nI (cN σ))), (4, .int X), (3, .int (nI tm)), (2, .ref (ad [2])), (1, .ref (ad [0])), (0, .ref (D.2 99 0))] dL_law_233 (by decide) rfl ?_
        refine V_lv [2, 3, 4, 5, 0, 1, 6, 7, 8, 9, 10, 11] rfl ?_
        exact lw_hall2 C hl (by omega) hσ hI0 hj (C1 := cz + 1060) (S1 := sz + 8850) (by omega) (by omega) hc1 hc2 (by omega) (by omega) (fun tl t lo => by
          refine V_iincn C [(8, .int (nI (j + 1))), (9, .int (nI click)), (7, .int (nI (upF (sumN (cH σ)) (j + 1) 0))), (6, .int (nI (upF (certN (cH σ)) (j + 1) 0))), (5, .int (nI (cN σ))), (4, .int X), (3, .int (nI tm)), (2, .ref (ad [2])), (1, .ref (ad [0])), (0, .ref (D.2 99 0))] dL_law_679 1 rfl (by decide) rfl ?_
          refine V_goto (tgt := 95) C dL_law_682 (by decide) ?_
          refine V_lv [0, 2, 3, 4, 5, 6, 7, 8, 9] rfl ?_
          exact ih (j + 1) tl t lo _ _ (by omega) (by omega) (by omega) K)
      · skip
        have hcc : ¬ hCe (cH σ j) = -1 := fun z => by rw [if_pos z] at hb13; exact hb13 rfl
        refine V_iconst (v := nI 1) C dL_law_220 (by decide) ?_
        refine V_goto (tgt := 225) C dL_law_221 (by decide) ?_
        refine V_iaddn C dL_law_225 ?_
        refine V_stE (st' := [.int (nI (upF (certN (cH σ)) (j + 1) 0))]) (by rw [upF_succ, ← certN_F hcc]) ?_
        refine V_istore C [(6, .int (nI (upF (certN (cH σ)) (j + 1) 0))), (11, .int (nI (hDm (cH σ j)))), (10, .int (nI (hDu (cH σ j)))), (9, .int (nI click)), (8, .int (nI j)), (7, .int (nI (upF (sumN (cH σ)) j 0))), (5, .int (nI (cN σ))), (4, .int X), (3, .int (nI tm)), (2, .ref (ad [2])), (1, .ref (ad [0])), (0, .ref (D.2 99 0))] dL_law_226 (by decide) rfl ?_
        refine V_iload C dL_law_228 5 rfl ?_
        refine V_iload C dL_law_230 1 rfl ?_
        refine V_iaddn C dL_law_232 ?_
        refine V_stE (st' := [.int (nI (upF (sumN (cH σ)) (j + 1) 0))]) rfl ?_
        refine V_istore C [(7, .int (nI (upF (sumN (cH σ)) (j + 1) 0))), (6, .int (nI (upF (certN (cH σ)) (j + 1) 0))), (11, .int (nI (hDm (cH σ j)))), (10, .int (nI (hDu (cH σ j)))), (9, .int (nI click)), (8, .int (nI j)), (5, .int (nI (cN σ))), (4, .int X), (3, .int (nI tm)), (2, .ref (ad [2])), (1, .ref (ad [0])), (0, .ref (D.2 99 0))] dL_law_233 (by decide) rfl ?_
        refine V_lv [2, 3, 4, 5, 0, 1, 6, 7, 8, 9, 10, 11] rfl ?_
        exact lw_hall2 C hl (by omega) hσ hI0 hj (C1 := cz + 1060) (S1 := sz + 8850) (by omega) (by omega) hc1 hc2 (by omega) (by omega) (fun tl t lo => by
          refine V_iincn C [(8, .int (nI (j + 1))), (9, .int (nI click)), (7, .int (nI (upF (sumN (cH σ)) (j + 1) 0))), (6, .int (nI (upF (certN (cH σ)) (j + 1) 0))), (5, .int (nI (cN σ))), (4, .int X), (3, .int (nI tm)), (2, .ref (ad [2])), (1, .ref (ad [0])), (0, .ref (D.2 99 0))] dL_law_679 1 rfl (by decide) rfl ?_
          refine V_goto (tgt := 95) C dL_law_682 (by decide) ?_
          refine V_lv [0, 2, 3, 4, 5, 6, 7, 8, 9] rfl ?_
          exact ih (j + 1) tl t lo _ _ (by omega) (by omega) (by omega) K)
