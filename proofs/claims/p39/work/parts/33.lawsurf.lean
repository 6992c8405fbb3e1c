
set_option maxRecDepth 20000 in
set_option maxHeartbeats 4000000 in
theorem lw_sf2 {p : Program} {l : Launch} {e : Env} {s : State} {m : MethodId} {args : Array Value} {below : List Frame} {meth : Method} {c : Code} {D : va_G} {ba d mc ms : Nat} {ad : Adr} {Q : State → Prop} {tb : List ExceptionTableEntry} (C : Cx p l s m args meth c D ba RL cL_law 23 tb d) (hl : l.stackTraces = false) (hd : 12 ≤ d) {σ : CS} (hσ : cOK σ) (hI0 : cI σ) {j : Nat} (hj : j < cN σ) {X : Int32} {tm sm ce : Nat} {C1 S1 : Nat} (hC1 : C1 ≤ mc) (hS1 : S1 ≤ ms) {click : Nat} (hc1 : 1 ≤ click) (hc2 : click ≤ 1000) {mm : Nat} (hm2 : 6 * mm ≤ 3000) {k : Nat} (hk : k < hSc (cH σ j)) {a2 : Adr} (hK3 : K1 ad a2) {cz sz : Nat} (hcz : cz + 32 ≤ C1) (hsz : sz + 256 ≤ S1) {tl : Int32} {t : TT} {lo : Nat → Int32} {tl1 : Int32} {t1 : TT} {lo1 : Nat → Int32} (KN : (∀ tl t lo tl1 t1 lo1 cz9 sz9, cz9 ≤ cz + 32 → sz9 ≤ sz + 256 → V p l e s m args below meth c D ba d mc ms Q 23 a2 (L3b a2 σ tl t lo (oneC (cH σ j) (k + 1)) tl1 t1 lo1) 300 [(20, .int (nI (k + 1))), (19, .int (nI (6 * mm))), (18, .int (LK (cH σ j) click (k + 1) mm)), (17, .int ((tal (nI 1) (AK (cH σ j) click (k + 1))).2.2.2)), (16, .int ((tal (nI 1) (AK (cH σ j) click (k + 1))).2.2.1)), (15, .int ((tal (nI (1 + click / 2)) (AK (cH σ j) click (k + 1))).2.1)), (14, .int ((tal (nI 1) (AK (cH σ j) click (k + 1))).1)), (13, .int (nI (hSc (cH σ j)))), (12, .ref (a2 [1])), (11, .int (nI (hDm (cH σ j)))), (9, .int (nI click)), (8, .int (nI j)), (7, .int (nI sm)), (6, .int (nI ce)), (5, .int (nI (cN σ))), (4, .int X), (3, .int (nI tm)), (2, .ref (a2 [2])), (1, .ref (a2 [0])), (0, .ref (D.2 99 0))] [] cz9 sz9))  : V p l e s m args below meth c D ba d mc ms Q 23 a2 (L3 a2 σ tl t lo (oneC (cH σ j) (k + 1)) tl1 t1 lo1) 435 [(20, .int (nI k)), (19, .int (nI (6 * mm))), (18, .int (LK (cH σ j) click (k + 1) mm)), (17, .int ((tal (nI 1) (AK (cH σ j) click k)).2.2.2)), (16, .int ((tal (nI 1) (AK (cH σ j) click (k + 1))).2.2.1)), (15, .int ((tal (nI (1 + click / 2)) (AK (cH σ j) click (k + 1))).2.1)), (14, .int ((tal (nI 1) (AK (cH σ j) click (k + 1))).1)), (13, .int (nI (hSc (cH σ j)))), (12, .ref (a2 [1])), (11, .int (nI (hDm (cH σ j)))), (9, .int (nI click)), (8, .int (nI j)), (7, .int (nI sm)), (6, .int (nI ce)), (5, .int (nI (cN σ))), (4, .int X), (3, .int (nI tm)), (2, .ref (a2 [2])), (1, .ref (a2 [0])), (0, .ref (D.2 99 0))] [] cz sz := by
  have hσ1 := hσ.1
  have hσ2 := hσ.2.1
  have hu := hσ.2.2.1 j hj
  have hu1 := hu.1
  have hu2 := hu.2.1
  have hu3 := hu.2.2.1
  have hu4 := hu.2.2.2.1
  have hs9 := hu.2.2.2.2 k hk
  refine V_iload C dL_law_435 3 rfl ?_
  refine V_aload C dL_law_437 8 rfl ?_
  refine V_iload C dL_law_439 0 rfl ?_
  refine V_iload C dL_law_441 10 rfl ?_
  refine V_callV (r := (RX6, TX6, 8)) C [.int (nI k), .int (nI click)] dL_law_443 m_X6_lastEcho k_X6_lastEcho tw_363 rfl rfl rfl (PW_b (σ := oneC (cH σ j) (k + 1))) rfl rfl (Nat.le_of_ble_eq_true rfl) ⟨by omega, by omega, by omega, by omega⟩ (o_lastEcho hl (by omega) hu hk hc1 hc2) (kr_RP (x := .int ((tly (oneH (cH σ j) k) (nI 1) click).2.2.2)) (fun tl1 t1 lo1 => ?_)) kx_no
  refine V_max C dL_law_446 tw_660 tw_300 tw_15 tw_301 (by omega) (by simp [Value.category]; try omega) (by omega) (by omega) ?_
  refine V_stE (st' := [.int ((tal (nI 1) (AK (cH σ j) click (k + 1))).2.2.2)]) (by rw [la_s]) ?_
  refine V_istore C [(17, .int ((tal (nI 1) (AK (cH σ j) click (k + 1))).2.2.2)), (20, .int (nI k)), (19, .int (nI (6 * mm))), (18, .int (LK (cH σ j) click (k + 1) mm)), (16, .int ((tal (nI 1) (AK (cH σ j) click (k + 1))).2.2.1)), (15, .int ((tal (nI (1 + click / 2)) (AK (cH σ j) click (k + 1))).2.1)), (14, .int ((tal (nI 1) (AK (cH σ j) click (k + 1))).1)), (13, .int (nI (hSc (cH σ j)))), (12, .ref (a2 [1])), (11, .int (nI (hDm (cH σ j)))), (9, .int (nI click)), (8, .int (nI j)), (7, .int (nI sm)), (6, .int (nI ce)), (5, .int (nI (cN σ))), (4, .int X), (3, .int (nI tm)), (2, .ref (a2 [2])), (1, .ref (a2 [0])), (0, .ref (D.2 99 0))] dL_law_449 (by decide) rfl ?_
  refine V_aload_n C dL_law_451 18 rfl ?_
  refine V_iload C dL_law_452 11 rfl ?_
  refine V_iload C dL_law_454 1 rfl ?_
  refine V_wd (w' := L3b a2 σ tl t lo (oneC (cH σ j) (k + 1)) tl1 t1 lo1) L3_sw ?_
  refine V_callV (r := (RX6, TX6, 8)) C [.int (nI j), .int (nI k)] dL_law_456 m_X6_hardnessOf k_X6_hardnessOf tw_291 rfl rfl rfl PW_b rfl rfl (Nat.le_of_ble_eq_true rfl) ⟨by omega, by omega, by omega, by omega⟩ (p_hardnessOf (i := 0) hl (by omega) hσ hj hk) (kr_RP (x := .int (nI ((hSu (cH σ j) k).1 - hDu (cH σ j) / 5))) (fun tl t lo => ?_)) kx_no
  refine V_aload_n C dL_law_459 17 rfl ?_
  refine V_get (ci := 7) (k := 2) C dL_law_460 RX8 RX8 TX8 4 fw_X8 rfl (by decide) tw_648 rfl rfl ((put_n (by decide)).trans ((put_n (by decide)).trans SW_b)) rfl ?_
  refine V_iload C dL_law_463 11 rfl ?_
  refine V_aaldn (v := .ref (a2 [2, 3, j])) C dL_law_465 rfl ((put_n (by decide)).trans ((put_n (by decide)).trans SW_hr)) (by omega) (by omega) (by rw [adN_lt hj]; rfl) ?_
  refine V_get (ci := 6) (k := 0) C dL_law_466 RX7 RX7 TX7 5 fw_X7 rfl (by decide) tw_529 rfl rfl ((put_n (by decide)).trans ((put_n (by decide)).trans (SW_h hj))) rfl ?_
  refine V_iload C dL_law_469 1 rfl ?_
  refine V_aaldA (v := .ref (a2 [2, 6, j, k])) C dL_law_471 rfl ((put_n (by decide)).trans ((put_n (by decide)).trans (SW_s hj))) (by omega) (by omega) (by rw [adN_lt hk]; rfl) ?_
  refine V_iconst (v := nI 1) C dL_law_472 (by decide) ?_
  refine V_ialdn (v := (nI ((hSu (cH σ j) k).1))) C dL_law_473 rfl ((put_n (by decide)).trans ((put_n (by decide)).trans (SW_u hj hk))) (by decide) (by decide) rfl ?_
  refine V_icmpn_gt (tgt := 517) C dL_law_474 (by decide) (by omega) (by omega) (fun hb1 => by exfalso; omega) (fun hb1 => ?_)
  refine V_aload_n C dL_law_477 18 rfl ?_
  refine V_iload C dL_law_478 11 rfl ?_
  refine V_iload C dL_law_480 1 rfl ?_
  refine V_callV (r := (RX6, TX6, 8)) C [.int (nI j), .int (nI k)] dL_law_482 m_X6_hardnessOf k_X6_hardnessOf tw_291 rfl rfl rfl PW_b rfl rfl (Nat.le_of_ble_eq_true rfl) ⟨by omega, by omega, by omega, by omega⟩ (p_hardnessOf (i := 0) hl (by omega) hσ hj hk) (kr_RP (x := .int (nI ((hSu (cH σ j) k).1 - hDu (cH σ j) / 5))) (fun tl t lo => ?_)) kx_no
  refine V_aload_n C dL_law_485 17 rfl ?_
  refine V_get (ci := 7) (k := 2) C dL_law_486 RX8 RX8 TX8 4 fw_X8 rfl (by decide) tw_648 rfl rfl ((put_n (by decide)).trans ((put_n (by decide)).trans SW_b)) rfl ?_
  refine V_iload C dL_law_489 11 rfl ?_
  refine V_aaldn (v := .ref (a2 [2, 3, j])) C dL_law_491 rfl ((put_n (by decide)).trans ((put_n (by decide)).trans SW_hr)) (by omega) (by omega) (by rw [adN_lt hj]; rfl) ?_
  refine V_get (ci := 6) (k := 0) C dL_law_492 RX7 RX7 TX7 5 fw_X7 rfl (by decide) tw_529 rfl rfl ((put_n (by decide)).trans ((put_n (by decide)).trans (SW_h hj))) rfl ?_
  refine V_iload C dL_law_495 1 rfl ?_
  refine V_aaldA (v := .ref (a2 [2, 6, j, k])) C dL_law_497 rfl ((put_n (by decide)).trans ((put_n (by decide)).trans (SW_s hj))) (by omega) (by omega) (by rw [adN_lt hk]; rfl) ?_
  refine V_iconst (v := nI 1) C dL_law_498 (by decide) ?_
  refine V_ialdn (v := (nI ((hSu (cH σ j) k).1))) C dL_law_499 rfl ((put_n (by decide)).trans ((put_n (by decide)).trans (SW_u hj hk))) (by decide) (by decide) rfl ?_
  refine V_bipush (v := nI 20) C dL_law_500 (by decide) ?_
  refine V_isub C dL_law_502 ?_
  refine V_icmp_lt (tgt := 517) C dL_law_503 (by decide) (fun hb2 => by exfalso; exact hard20 hs9.1 hu3 hb2) (fun hb2 => ?_)
  refine V_aload_n C dL_law_506 18 rfl ?_
  refine V_iload C dL_law_507 11 rfl ?_
  refine V_iload C dL_law_509 1 rfl ?_
  refine V_callV (r := (RX6, TX6, 8)) C [.int (nI j), .int (nI k)] dL_law_511 m_X6_hardnessOf k_X6_hardnessOf tw_291 rfl rfl rfl PW_b rfl rfl (Nat.le_of_ble_eq_true rfl) ⟨by omega, by omega, by omega, by omega⟩ (p_hardnessOf (i := 0) hl (by omega) hσ hj hk) (kr_RP (x := .int (nI ((hSu (cH σ j) k).1 - hDu (cH σ j) / 5))) (fun tl t lo => ?_)) kx_no
  refine V_ifn_ge (tgt := 519) C dL_law_514 (by decide) (by omega) ?_
  refine V_iincn C [(20, .int (nI (k + 1))), (17, .int ((tal (nI 1) (AK (cH σ j) click (k + 1))).2.2.2)), (19, .int (nI (6 * mm))), (18, .int (LK (cH σ j) click (k + 1) mm)), (16, .int ((tal (nI 1) (AK (cH σ j) click (k + 1))).2.2.1)), (15, .int ((tal (nI (1 + click / 2)) (AK (cH σ j) click (k + 1))).2.1)), (14, .int ((tal (nI 1) (AK (cH σ j) click (k + 1))).1)), (13, .int (nI (hSc (cH σ j)))), (12, .ref (a2 [1])), (11, .int (nI (hDm (cH σ j)))), (9, .int (nI click)), (8, .int (nI j)), (7, .int (nI sm)), (6, .int (nI ce)), (5, .int (nI (cN σ))), (4, .int X), (3, .int (nI tm)), (2, .ref (a2 [2])), (1, .ref (a2 [0])), (0, .ref (D.2 99 0))] dL_law_519 1 rfl (by decide) rfl ?_
  refine V_goto (tgt := 300) C dL_law_522 (by decide) ?_
  refine V_lv [0, 2, 3, 1, 4, 5, 6, 7, 8, 9, 10, 11, 12, 13, 14, 15, 16, 17, 18, 19] rfl ?_
  exact KN tl t lo tl1 t1 lo1 _ _ (by omega) (by omega)
set_option maxRecDepth 20000 in
set_option maxHeartbeats 4000000 in
theorem lw_surf {p : Program} {l : Launch} {e : Env} {s : State} {m : MethodId} {args : Array Value} {below : List Frame} {meth : Method} {c : Code} {D : va_G} {ba d mc ms : Nat} {ad : Adr} {Q : State → Prop} {tb : List ExceptionTableEntry} (C : Cx p l s m args meth c D ba RL cL_law 23 tb d) (hl : l.stackTraces = false) (hd : 12 ≤ d) {σ : CS} (hσ : cOK σ) (hI0 : cI σ) {j : Nat} (hj : j < cN σ) {X : Int32} {tm sm ce : Nat} {C1 S1 : Nat} (hC1 : C1 ≤ mc) (hS1 : S1 ≤ ms) {click : Nat} (hc1 : 1 ≤ click) (hc2 : click ≤ 1000) {mm : Nat} (hm2 : 6 * mm ≤ 3000)  : ∀ (n : Nat) (k : Nat) (aq : Adr) (tl : Int32) (t : TT) (lo : Nat → Int32) (tl1 : Int32) (t1 : TT) (lo1 : Nat → Int32) (cz sz : Nat), k + n = hSc (cH σ j) → K1 ad aq → cz + 112 * n ≤ C1 → sz + 900 * n ≤ S1 → (∀ tl t lo, V p l e s m args below meth c D ba d mc ms Q 23 ad (LW ad σ σ tl t lo) 525 [(19, .int (nI (6 * mm))), (18, .int (LK (cH σ j) click (hSc (cH σ j)) mm)), (17, .int ((tal (nI 1) (AK (cH σ j) click (hSc (cH σ j)))).2.2.2)), (16, .int ((tal (nI 1) (AK (cH σ j) click (hSc (cH σ j)))).2.2.1)), (15, .int ((tal (nI (1 + click / 2)) (AK (cH σ j) click (hSc (cH σ j)))).2.1)), (14, .int ((tal (nI 1) (AK (cH σ j) click (hSc (cH σ j)))).1)), (9, .int (nI click)), (8, .int (nI j)), (7, .int (nI sm)), (6, .int (nI ce)), (5, .int (nI (cN σ))), (4, .int X), (3, .int (nI tm)), (2, .ref (ad [2])), (1, .ref (ad [0])), (0, .ref (D.2 99 0))] [] C1 S1) → V p l e s m args below meth c D ba d mc ms Q 23 aq (L3b aq σ tl t lo (oneC (cH σ j) k) tl1 t1 lo1) 300 [(20, .int (nI k)), (19, .int (nI (6 * mm))), (18, .int (LK (cH σ j) click k mm)), (17, .int ((tal (nI 1) (AK (cH σ j) click k)).2.2.2)), (16, .int ((tal (nI 1) (AK (cH σ j) click k)).2.2.1)), (15, .int ((tal (nI (1 + click / 2)) (AK (cH σ j) click k)).2.1)), (14, .int ((tal (nI 1) (AK (cH σ j) click k)).1)), (13, .int (nI (hSc (cH σ j)))), (12, .ref (aq [1])), (11, .int (nI (hDm (cH σ j)))), (9, .int (nI click)), (8, .int (nI j)), (7, .int (nI sm)), (6, .int (nI ce)), (5, .int (nI (cN σ))), (4, .int X), (3, .int (nI tm)), (2, .ref (aq [2])), (1, .ref (aq [0])), (0, .ref (D.2 99 0))] [] cz sz := by
  intro n
  induction n with
  | zero =>
    intro k aq tl t lo tl1 t1 lo1 cz sz hkn hK0 hcz hsz K
    have hσ1 := hσ.1
    have hσ2 := hσ.2.1
    have hu := hσ.2.2.1 j hj
    have hu1 := hu.1
    have hu2 := hu.2.1
    have hu3 := hu.2.2.1
    have hu4 := hu.2.2.2.1
    refine V_iload C dL_law_300 0 rfl ?_
    refine V_iload C dL_law_302 7 rfl ?_
    refine V_icmpn_ge (tgt := 525) C dL_law_304 (by decide) (by omega) (by omega) (fun hb1 => ?_) (fun hb1 => by exfalso; omega)
    refine V_lv (lv' := [(19, .int (nI (6 * mm))), (18, .int (LK (cH σ j) click k mm)), (17, .int ((tal (nI 1) (AK (cH σ j) click k)).2.2.2)), (16, .int ((tal (nI 1) (AK (cH σ j) click k)).2.2.1)), (15, .int ((tal (nI (1 + click / 2)) (AK (cH σ j) click k)).2.1)), (14, .int ((tal (nI 1) (AK (cH σ j) click k)).1)), (9, .int (nI click)), (8, .int (nI j)), (7, .int (nI sm)), (6, .int (nI ce)), (5, .int (nI (cN σ))), (4, .int X), (3, .int (nI tm)), (2, .ref (aq [2])), (1, .ref (aq [0])), (0, .ref (D.2 99 0))]) [1, 2, 3, 4, 5, 6, 10, 11, 12, 13, 14, 15, 16, 17, 18, 19] rfl ?_
    refine V_lvE (lv' := [(19, .int (nI (6 * mm))), (18, .int (LK (cH σ j) click (hSc (cH σ j)) mm)), (17, .int ((tal (nI 1) (AK (cH σ j) click (hSc (cH σ j)))).2.2.2)), (16, .int ((tal (nI 1) (AK (cH σ j) click (hSc (cH σ j)))).2.2.1)), (15, .int ((tal (nI (1 + click / 2)) (AK (cH σ j) click (hSc (cH σ j)))).2.1)), (14, .int ((tal (nI 1) (AK (cH σ j) click (hSc (cH σ j)))).1)), (9, .int (nI click)), (8, .int (nI j)), (7, .int (nI sm)), (6, .int (nI ce)), (5, .int (nI (cN σ))), (4, .int X), (3, .int (nI tm)), (2, .ref (ad [2])), (1, .ref (ad [0])), (0, .ref (D.2 99 0))]) (by rw [hK0 0 [] (by decide), hK0 2 [] (by decide), show k = hSc (cH σ j) by omega]) ?_
    refine V_wd (w' := L3 aq σ tl t lo (oneC (cH σ j) k) tl1 t1 lo1) L3_sw.symm ?_
    exact V_back1 hK0 (V_cs (by omega) (by omega) (K tl t lo))
  | succ n ih =>
    intro k aq tl t lo tl1 t1 lo1 cz sz hkn hK0 hcz hsz K
    have hσ1 := hσ.1
    have hσ2 := hσ.2.1
    have hu := hσ.2.2.1 j hj
    have hu1 := hu.1
    have hu2 := hu.2.1
    have hu3 := hu.2.2.1
    have hu4 := hu.2.2.2.1
    rw [show 112 * (n + 1) = 112 * n + 112 from Nat.mul_succ 112 n] at hcz
    rw [show 900 * (n + 1) = 900 * n + 900 from Nat.mul_succ 900 n] at hsz
    refine V_iload C dL_law_300 0 rfl ?_
    refine V_iload C dL_law_302 7 rfl ?_
    refine V_icmpn_ge (tgt := 525) C dL_law_304 (by decide) (by omega) (by omega) (fun hb1 => by exfalso; omega) (fun hb1 => ?_)
    have hk : k < hSc (cH σ j) := by omega
    have hs9 := hu.2.2.2.2 k hk
    refine V_aload C dL_law_307 8 rfl ?_
    refine V_iload C dL_law_309 9 rfl ?_
    refine V_wd (w' := L3 aq σ tl t lo (oneC (cH σ j) k) tl1 t1 lo1) L3_sw.symm ?_
    refine V_callV (r := (RX6, TX6, 8)) C [.int (nI (hDm (cH σ j)))] dL_law_311 m_X6_addHall k_X6_addHall tw_95 rfl rfl rfl (PW_b (σ := oneC (cH σ j) k)) rfl rfl (Nat.le_of_ble_eq_true rfl) ⟨by omega, by omega, by omega, by omega⟩ (p_addHall (i := 1) hl (by omega) (oneC_ok hu k (by omega)) hu2 (inR_ok (Nat.zero_le _) hu2 (by decide)) (by rw [oneC_N]; omega)) (kr_RPa (x := .int (nI (cN (oneC (cH σ j) k)))) (fun a1 hK1 tl1 t1 lo1 => ?_)) kx_no
    refine V_wd (w' := L3 a1 σ tl t lo (addH (oneC (cH σ j) k) (hDm (cH σ j))) tl1 t1 lo1) (L3_K hK1) ?_
    refine V_lvE (lv' := [(20, .int (nI k)), (19, .int (nI (6 * mm))), (18, .int (LK (cH σ j) click k mm)), (17, .int ((tal (nI 1) (AK (cH σ j) click k)).2.2.2)), (16, .int ((tal (nI 1) (AK (cH σ j) click k)).2.2.1)), (15, .int ((tal (nI (1 + click / 2)) (AK (cH σ j) click k)).2.1)), (14, .int ((tal (nI 1) (AK (cH σ j) click k)).1)), (13, .int (nI (hSc (cH σ j)))), (12, .ref (a1 [1])), (11, .int (nI (hDm (cH σ j)))), (9, .int (nI click)), (8, .int (nI j)), (7, .int (nI sm)), (6, .int (nI ce)), (5, .int (nI (cN σ))), (4, .int X), (3, .int (nI tm)), (2, .ref (a1 [2])), (1, .ref (a1 [0])), (0, .ref (D.2 99 0))]) (by rw [hK1.1 0 [] (by decide), hK1.1 2 [] (by decide), hK1.2]) ?_
    refine V_pop C dL_law_314 rfl ?_
    refine V_aload C dL_law_315 8 rfl ?_
    refine V_iload C dL_law_317 0 rfl ?_
    refine V_aload_n C dL_law_319 18 rfl ?_
    refine V_iload C dL_law_320 11 rfl ?_
    refine V_iload C dL_law_322 0 rfl ?_
    refine V_wd (w' := L3b a1 σ tl t lo (addH (oneC (cH σ j) k) (hDm (cH σ j))) tl1 t1 lo1) L3_sw ?_
    refine V_callV (r := (RX6, TX6, 8)) C [.int (nI j), .int (nI k)] dL_law_324 m_X6_distanceOf k_X6_distanceOf tw_282 rfl rfl rfl PW_b rfl rfl (Nat.le_of_ble_eq_true rfl) ⟨by omega, by omega, by omega, by omega⟩ (p_distanceOf (i := 0) hl (by omega) hσ hj hk) (kr_RP (x := .int (nI ((hSu (cH σ j) k).2))) (fun tl t lo => ?_)) kx_no
    refine V_aload_n C dL_law_327 18 rfl ?_
    refine V_iload C dL_law_328 11 rfl ?_
    refine V_iload C dL_law_330 0 rfl ?_
    refine V_callV (r := (RX6, TX6, 8)) C [.int (nI j), .int (nI k)] dL_law_332 m_X6_hardnessOf k_X6_hardnessOf tw_291 rfl rfl rfl PW_b rfl rfl (Nat.le_of_ble_eq_true rfl) ⟨by omega, by omega, by omega, by omega⟩ (p_hardnessOf (i := 0) hl (by omega) hσ hj hk) (kr_RP (x := .int (nI ((hSu (cH σ j) k).1 - hDu (cH σ j) / 5))) (fun tl t lo => ?_)) kx_no
    refine V_wd (w' := L3 a1 σ tl t lo (addH (oneC (cH σ j) k) (hDm (cH σ j))) tl1 t1 lo1) L3_sw.symm ?_
    refine V_callV (r := (RX6, TX6, 8)) C [.int (nI k), .int (nI ((hSu (cH σ j) k).2)), .int (nI ((hSu (cH σ j) k).1 - hDu (cH σ j) / 5))] dL_law_335 m_X6_addSurface k_X6_addSurface tw_221 rfl rfl rfl (PW_b (σ := addH (oneC (cH σ j) k) (hDm (cH σ j)))) rfl rfl (Nat.le_of_ble_eq_true rfl) ⟨by omega, by omega, by omega, by omega⟩ (p_addSurface (i := 1) (σ := addH (oneC (cH σ j) k) (hDm (cH σ j))) (j := k) hl (by omega) (oneA_ok hu hk) (by show k < cN (oneC (cH σ j) k) + 1; rw [oneC_N]; omega) hs9.2.2 (by omega) (inR_ok hs9.2.1 hs9.2.2 (by decide)) (inR_ok (Nat.zero_le _) (by omega) (by decide)) (by rw [oneC_new]; exact (by decide : (0 : Nat) < 6))) (kr_RPa (x := .int (nI (hSc (cH (addH (oneC (cH σ j) k) (hDm (cH σ j))) k)))) (fun a2 hK2 tl1 t1 lo1 => ?_)) kx_no
    refine V_wd (w' := L3 a2 σ tl t lo (oneC (cH σ j) (k + 1)) tl1 t1 lo1) ((L3_K hK2).trans (congrArg (fun z => L3 a2 σ tl t lo z tl1 t1 lo1) oneC_step)) ?_
    refine V_lvE (lv' := [(20, .int (nI k)), (19, .int (nI (6 * mm))), (18, .int (LK (cH σ j) click k mm)), (17, .int ((tal (nI 1) (AK (cH σ j) click k)).2.2.2)), (16, .int ((tal (nI 1) (AK (cH σ j) click k)).2.2.1)), (15, .int ((tal (nI (1 + click / 2)) (AK (cH σ j) click k)).2.1)), (14, .int ((tal (nI 1) (AK (cH σ j) click k)).1)), (13, .int (nI (hSc (cH σ j)))), (12, .ref (a2 [1])), (11, .int (nI (hDm (cH σ j)))), (9, .int (nI click)), (8, .int (nI j)), (7, .int (nI sm)), (6, .int (nI ce)), (5, .int (nI (cN σ))), (4, .int X), (3, .int (nI tm)), (2, .ref (a2 [2])), (1, .ref (a2 [0])), (0, .ref (D.2 99 0))]) (by rw [hK2.1 0 [] (by decide), hK2.1 2 [] (by decide), hK2.2]) ?_
    refine V_stE (st' := [.int (nI 0)]) (by rw [oneC_new]) ?_
    have hK3 : K1 ad a2 := fun k r hk => (hK2.1 k r hk).trans ((hK1.1 k r hk).trans (hK0 k r hk))
    refine V_ifn_eq (tgt := 343) C dL_law_338 (by decide) (by decide) (fun hb2 => ?_) (fun hb2 => by exfalso; omega)
    refine V_iload C dL_law_343 6 rfl ?_
    refine V_aload C dL_law_345 8 rfl ?_
    refine V_iload C dL_law_347 0 rfl ?_
    refine V_iload C dL_law_349 10 rfl ?_
    refine V_callV (r := (RX6, TX6, 8)) C [.int (nI k), .int (nI click)] dL_law_351 m_X6_echoes k_X6_echoes tw_310 rfl rfl rfl (PW_b (σ := oneC (cH σ j) (k + 1))) rfl rfl (Nat.le_of_ble_eq_true rfl) ⟨by omega, by omega, by omega, by omega⟩ (o_echoes hl (by omega) hu hk hc1 hc2) (kr_RP (x := .int ((tly (oneH (cH σ j) k) (nI 1) click).1)) (fun tl1 t1 lo1 => ?_)) kx_no
    refine V_iadd C dL_law_354 ?_
    refine V_stE (st' := [.int ((tal (nI 1) (AK (cH σ j) click (k + 1))).1)]) (by rw [st_co]) ?_
    refine V_istore C [(14, .int ((tal (nI 1) (AK (cH σ j) click (k + 1))).1)), (20, .int (nI k)), (19, .int (nI (6 * mm))), (18, .int (LK (cH σ j) click k mm)), (17, .int ((tal (nI 1) (AK (cH σ j) click k)).2.2.2)), (16, .int ((tal (nI 1) (AK (cH σ j) click k)).2.2.1)), (15, .int ((tal (nI (1 + click / 2)) (AK (cH σ j) click k)).2.1)), (13, .int (nI (hSc (cH σ j)))), (12, .ref (a2 [1])), (11, .int (nI (hDm (cH σ j)))), (9, .int (nI click)), (8, .int (nI j)), (7, .int (nI sm)), (6, .int (nI ce)), (5, .int (nI (cN σ))), (4, .int X), (3, .int (nI tm)), (2, .ref (a2 [2])), (1, .ref (a2 [0])), (0, .ref (D.2 99 0))] dL_law_355 (by decide) rfl ?_
    refine V_iload C dL_law_357 6 rfl ?_
    refine V_aload C dL_law_359 8 rfl ?_
    refine V_iload C dL_law_361 1 rfl ?_
    refine V_iload C dL_law_363 10 rfl ?_
    refine V_iconst (v := nI 1) C dL_law_365 (by decide) ?_
    refine V_iload C dL_law_366 10 rfl ?_
    refine V_iconst (v := nI 2) C dL_law_368 (by decide) ?_
    refine V_idivn C dL_law_369 (by omega) (by omega) (by omega) ?_
    refine V_iaddn C dL_law_370 ?_
    refine V_callV (r := (RX6, TX6, 8)) C [.int (nI k), .int (nI click), .int (nI (1 + (click / 2)))] dL_law_371 m_X6_loudEchoes k_X6_loudEchoes tw_355 rfl rfl rfl (PW_b (σ := oneC (cH σ j) (k + 1))) rfl rfl (Nat.le_of_ble_eq_true rfl) ⟨by omega, by omega, by omega, by omega⟩ (o_loudEchoes hl (by omega) hu hk hc1 hc2 (inR_ok (by omega) (by omega) (by decide))) (kr_RP (x := .int ((tly (oneH (cH σ j) k) (nI (1 + click / 2)) click).2.1)) (fun tl1 t1 lo1 => ?_)) kx_no
    refine V_iadd C dL_law_374 ?_
    refine V_stE (st' := [.int ((tal (nI (1 + click / 2)) (AK (cH σ j) click (k + 1))).2.1)]) (by rw [st_lo]) ?_
    refine V_istore C [(15, .int ((tal (nI (1 + click / 2)) (AK (cH σ j) click (k + 1))).2.1)), (14, .int ((tal (nI 1) (AK (cH σ j) click (k + 1))).1)), (20, .int (nI k)), (19, .int (nI (6 * mm))), (18, .int (LK (cH σ j) click k mm)), (17, .int ((tal (nI 1) (AK (cH σ j) click k)).2.2.2)), (16, .int ((tal (nI 1) (AK (cH σ j) click k)).2.2.1)), (13, .int (nI (hSc (cH σ j)))), (12, .ref (a2 [1])), (11, .int (nI (hDm (cH σ j)))), (9, .int (nI click)), (8, .int (nI j)), (7, .int (nI sm)), (6, .int (nI ce)), (5, .int (nI (cN σ))), (4, .int X), (3, .int (nI tm)), (2, .ref (a2 [2])), (1, .ref (a2 [0])), (0, .ref (D.2 99 0))] dL_law_375 (by decide) rfl ?_
    refine V_iload C dL_law_377 4 rfl ?_
    refine V_aload C dL_law_379 8 rfl ?_
    refine V_iload C dL_law_381 2 rfl ?_
    refine V_iload C dL_law_383 10 rfl ?_
    refine V_iload C dL_law_385 3 rfl ?_
    refine V_callV (r := (RX6, TX6, 8)) C [.int (nI k), .int (nI click), .int (nI (6 * mm))] dL_law_387 m_X6_loudnessAt k_X6_loudnessAt tw_367 rfl rfl rfl (PW_b (σ := oneC (cH σ j) (k + 1))) rfl rfl (Nat.le_of_ble_eq_true rfl) ⟨by omega, by omega, by omega, by omega⟩ (o_loudnessAt hl (by omega) hu hk hc1 hc2 hm2) (kr_RP (x := .int (ldz (oneH (cH σ j) k) click mm)) (fun tl1 t1 lo1 => ?_)) kx_no
    refine V_iadd C dL_law_390 ?_
    refine V_stE (st' := [.int (LK (cH σ j) click (k + 1) mm)]) (by rw [st_at]) ?_
    refine V_istore C [(18, .int (LK (cH σ j) click (k + 1) mm)), (15, .int ((tal (nI (1 + click / 2)) (AK (cH σ j) click (k + 1))).2.1)), (14, .int ((tal (nI 1) (AK (cH σ j) click (k + 1))).1)), (20, .int (nI k)), (19, .int (nI (6 * mm))), (17, .int ((tal (nI 1) (AK (cH σ j) click k)).2.2.2)), (16, .int ((tal (nI 1) (AK (cH σ j) click k)).2.2.1)), (13, .int (nI (hSc (cH σ j)))), (12, .ref (a2 [1])), (11, .int (nI (hDm (cH σ j)))), (9, .int (nI click)), (8, .int (nI j)), (7, .int (nI sm)), (6, .int (nI ce)), (5, .int (nI (cN σ))), (4, .int X), (3, .int (nI tm)), (2, .ref (a2 [2])), (1, .ref (a2 [0])), (0, .ref (D.2 99 0))] dL_law_391 (by decide) rfl ?_
    refine V_aload C dL_law_393 8 rfl ?_
    refine V_iload C dL_law_395 3 rfl ?_
    refine V_iload C dL_law_397 10 rfl ?_
    refine V_callV (r := (RX6, TX6, 8)) C [.int (nI k), .int (nI click)] dL_law_399 m_X6_firstEcho k_X6_firstEcho tw_359 rfl rfl rfl (PW_b (σ := oneC (cH σ j) (k + 1))) rfl rfl (Nat.le_of_ble_eq_true rfl) ⟨by omega, by omega, by omega, by omega⟩ (o_firstEcho hl (by omega) hu hk hc1 hc2) (kr_RP (x := .int ((tly (oneH (cH σ j) k) (nI 1) click).2.2.1)) (fun tl1 t1 lo1 => ?_)) kx_no
    refine V_if_lt (tgt := 435) C dL_law_402 (by decide) (fun hb3 => ?_) (fun hb3 => ?_)
    · skip
      refine V_lvE (lv' := [(18, .int (LK (cH σ j) click (k + 1) mm)), (15, .int ((tal (nI (1 + click / 2)) (AK (cH σ j) click (k + 1))).2.1)), (14, .int ((tal (nI 1) (AK (cH σ j) click (k + 1))).1)), (20, .int (nI k)), (19, .int (nI (6 * mm))), (17, .int ((tal (nI 1) (AK (cH σ j) click k)).2.2.2)), (16, .int ((tal (nI 1) (AK (cH σ j) click (k + 1))).2.2.1)), (13, .int (nI (hSc (cH σ j)))), (12, .ref (a2 [1])), (11, .int (nI (hDm (cH σ j)))), (9, .int (nI click)), (8, .int (nI j)), (7, .int (nI sm)), (6, .int (nI ce)), (5, .int (nI (cN σ))), (4, .int X), (3, .int (nI tm)), (2, .ref (a2 [2])), (1, .ref (a2 [0])), (0, .ref (D.2 99 0))]) (by rw [fi_no hb3]) ?_
      refine V_lv [3, 4, 0, 5, 6, 1, 2, 7, 8, 9, 10, 11, 12, 13, 14, 15, 16, 17, 18, 19] rfl ?_
      exact lw_sf2 C hl (by omega) hσ hI0 hj hC1 hS1 hc1 hc2 hm2 hk hK3 (by omega) (by omega) (fun tl t lo tl1 t1 lo1 cz sz h1 h2 => ih (k + 1) a2 tl t lo tl1 t1 lo1 cz sz (by omega) hK3 (by omega) (by omega) K)
    · skip
      refine V_iload C dL_law_405 6 rfl ?_
      refine V_if_lt (tgt := 424) C dL_law_407 (by decide) (fun hb4 => ?_) (fun hb4 => ?_)
      · skip
        refine V_aload C dL_law_424 8 rfl ?_
        refine V_iload C dL_law_426 3 rfl ?_
        refine V_iload C dL_law_428 10 rfl ?_
        refine V_callV (r := (RX6, TX6, 8)) C [.int (nI k), .int (nI click)] dL_law_430 m_X6_firstEcho k_X6_firstEcho tw_359 rfl rfl rfl (PW_b (σ := oneC (cH σ j) (k + 1))) rfl rfl (Nat.le_of_ble_eq_true rfl) ⟨by omega, by omega, by omega, by omega⟩ (o_firstEcho hl (by omega) hu hk hc1 hc2) (kr_RP (x := .int ((tly (oneH (cH σ j) k) (nI 1) click).2.2.1)) (fun tl1 t1 lo1 => ?_)) kx_no
        refine V_istore C [(16, .int ((tly (oneH (cH σ j) k) (nI 1) click).2.2.1)), (18, .int (LK (cH σ j) click (k + 1) mm)), (15, .int ((tal (nI (1 + click / 2)) (AK (cH σ j) click (k + 1))).2.1)), (14, .int ((tal (nI 1) (AK (cH σ j) click (k + 1))).1)), (20, .int (nI k)), (19, .int (nI (6 * mm))), (17, .int ((tal (nI 1) (AK (cH σ j) click k)).2.2.2)), (13, .int (nI (hSc (cH σ j)))), (12, .ref (a2 [1])), (11, .int (nI (hDm (cH σ j)))), (9, .int (nI click)), (8, .int (nI j)), (7, .int (nI sm)), (6, .int (nI ce)), (5, .int (nI (cN σ))), (4, .int X), (3, .int (nI tm)), (2, .ref (a2 [2])), (1, .ref (a2 [0])), (0, .ref (D.2 99 0))] dL_law_433 (by decide) rfl ?_
        refine V_lvE (lv' := [(16, .int ((tal (nI 1) (AK (cH σ j) click (k + 1))).2.2.1)), (18, .int (LK (cH σ j) click (k + 1) mm)), (15, .int ((tal (nI (1 + click / 2)) (AK (cH σ j) click (k + 1))).2.1)), (14, .int ((tal (nI 1) (AK (cH σ j) click (k + 1))).1)), (20, .int (nI k)), (19, .int (nI (6 * mm))), (17, .int ((tal (nI 1) (AK (cH σ j) click k)).2.2.2)), (13, .int (nI (hSc (cH σ j)))), (12, .ref (a2 [1])), (11, .int (nI (hDm (cH σ j)))), (9, .int (nI click)), (8, .int (nI j)), (7, .int (nI sm)), (6, .int (nI ce)), (5, .int (nI (cN σ))), (4, .int X), (3, .int (nI tm)), (2, .ref (a2 [2])), (1, .ref (a2 [0])), (0, .ref (D.2 99 0))]) (by rw [fi_new hb4]) ?_
        refine V_lv [4, 5, 1, 6, 0, 2, 3, 7, 8, 9, 10, 11, 12, 13, 14, 15, 16, 17, 18, 19] rfl ?_
        exact lw_sf2 C hl (by omega) hσ hI0 hj hC1 hS1 hc1 hc2 hm2 hk hK3 (by omega) (by omega) (fun tl t lo tl1 t1 lo1 cz sz h1 h2 => ih (k + 1) a2 tl t lo tl1 t1 lo1 cz sz (by omega) hK3 (by omega) (by omega) K)
      · skip
        refine V_aload C dL_law_410 8 rfl ?_
        refine V_iload C dL_law_412 3 rfl ?_
        refine V_iload C dL_law_414 10 rfl ?_
        refine V_callV (r := (RX6, TX6, 8)) C [.int (nI k), .int (nI click)] dL_law_416 m_X6_firstEcho k_X6_firstEcho tw_359 rfl rfl rfl (PW_b (σ := oneC (cH σ j) (k + 1))) rfl rfl (Nat.le_of_ble_eq_true rfl) ⟨by omega, by omega, by omega, by omega⟩ (o_firstEcho hl (by omega) hu hk hc1 hc2) (kr_RP (x := .int ((tly (oneH (cH σ j) k) (nI 1) click).2.2.1)) (fun tl1 t1 lo1 => ?_)) kx_no
        refine V_iload C dL_law_419 6 rfl ?_
        refine V_icmp_ge (tgt := 435) C dL_law_421 (by decide) (fun hb5 => ?_) (fun hb5 => ?_)
        · skip
          refine V_lvE (lv' := [(18, .int (LK (cH σ j) click (k + 1) mm)), (15, .int ((tal (nI (1 + click / 2)) (AK (cH σ j) click (k + 1))).2.1)), (14, .int ((tal (nI 1) (AK (cH σ j) click (k + 1))).1)), (20, .int (nI k)), (19, .int (nI (6 * mm))), (17, .int ((tal (nI 1) (AK (cH σ j) click k)).2.2.2)), (16, .int ((tal (nI 1) (AK (cH σ j) click (k + 1))).2.2.1)), (13, .int (nI (hSc (cH σ j)))), (12, .ref (a2 [1])), (11, .int (nI (hDm (cH σ j)))), (9, .int (nI click)), (8, .int (nI j)), (7, .int (nI sm)), (6, .int (nI ce)), (5, .int (nI (cN σ))), (4, .int X), (3, .int (nI tm)), (2, .ref (a2 [2])), (1, .ref (a2 [0])), (0, .ref (D.2 99 0))]) (by rw [fi_more hb3 hb4 hb5]) ?_
          refine V_lv [3, 4, 0, 5, 6, 1, 2, 7, 8, 9, 10, 11, 12, 13, 14, 15, 16, 17, 18, 19] rfl ?_
          exact lw_sf2 C hl (by omega) hσ hI0 hj hC1 hS1 hc1 hc2 hm2 hk hK3 (by omega) (by omega) (fun tl t lo tl1 t1 lo1 cz sz h1 h2 => ih (k + 1) a2 tl t lo tl1 t1 lo1 cz sz (by omega) hK3 (by omega) (by omega) K)
        · skip
          refine V_aload C dL_law_424 8 rfl ?_
          refine V_iload C dL_law_426 3 rfl ?_
          refine V_iload C dL_law_428 10 rfl ?_
          refine V_callV (r := (RX6, TX6, 8)) C [.int (nI k), .int (nI click)] dL_law_430 m_X6_firstEcho k_X6_firstEcho tw_359 rfl rfl rfl (PW_b (σ := oneC (cH σ j) (k + 1))) rfl rfl (Nat.le_of_ble_eq_true rfl) ⟨by omega, by omega, by omega, by omega⟩ (o_firstEcho hl (by omega) hu hk hc1 hc2) (kr_RP (x := .int ((tly (oneH (cH σ j) k) (nI 1) click).2.2.1)) (fun tl1 t1 lo1 => ?_)) kx_no
          refine V_istore C [(16, .int ((tly (oneH (cH σ j) k) (nI 1) click).2.2.1)), (18, .int (LK (cH σ j) click (k + 1) mm)), (15, .int ((tal (nI (1 + click / 2)) (AK (cH σ j) click (k + 1))).2.1)), (14, .int ((tal (nI 1) (AK (cH σ j) click (k + 1))).1)), (20, .int (nI k)), (19, .int (nI (6 * mm))), (17, .int ((tal (nI 1) (AK (cH σ j) click k)).2.2.2)), (13, .int (nI (hSc (cH σ j)))), (12, .ref (a2 [1])), (11, .int (nI (hDm (cH σ j)))), (9, .int (nI click)), (8, .int (nI j)), (7, .int (nI sm)), (6, .int (nI ce)), (5, .int (nI (cN σ))), (4, .int X), (3, .int (nI tm)), (2, .ref (a2 [2])), (1, .ref (a2 [0])), (0, .ref (D.2 99 0))] dL_law_433 (by decide) rfl ?_
          refine V_lvE (lv' := [(16, .int ((tal (nI 1) (AK (cH σ j) click (k + 1))).2.2.1)), (18, .int (LK (cH σ j) click (k + 1) mm)), (15, .int ((tal (nI (1 + click / 2)) (AK (cH σ j) click (k + 1))).2.1)), (14, .int ((tal (nI 1) (AK (cH σ j) click (k + 1))).1)), (20, .int (nI k)), (19, .int (nI (6 * mm))), (17, .int ((tal (nI 1) (AK (cH σ j) click k)).2.2.2)), (13, .int (nI (hSc (cH σ j)))), (12, .ref (a2 [1])), (11, .int (nI (hDm (cH σ j)))), (9, .int (nI click)), (8, .int (nI j)), (7, .int (nI sm)), (6, .int (nI ce)), (5, .int (nI (cN σ))), (4, .int X), (3, .int (nI tm)), (2, .ref (a2 [2])), (1, .ref (a2 [0])), (0, .ref (D.2 99 0))]) (by rw [fi_less hb3 hb4 (Int32.not_le.mp hb5)]) ?_
          refine V_lv [4, 5, 1, 6, 0, 2, 3, 7, 8, 9, 10, 11, 12, 13, 14, 15, 16, 17, 18, 19] rfl ?_
          exact lw_sf2 C hl (by omega) hσ hI0 hj hC1 hS1 hc1 hc2 hm2 hk hK3 (by omega) (by omega) (fun tl t lo tl1 t1 lo1 cz sz h1 h2 => ih (k + 1) a2 tl t lo tl1 t1 lo1 cz sz (by omega) hK3 (by omega) (by omega) K)
