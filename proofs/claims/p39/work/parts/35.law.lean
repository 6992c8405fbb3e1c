
theorem metN_T {q : StdS} {H : Nat → HallS} {k x : Nat} (h : metW (H k) q (hDm (H k)) (hDu (H k)) = 0) : x + 0 = metN q H k x := by unfold metN; rw [if_pos h]; rfl
theorem metN_F {q : StdS} {H : Nat → HallS} {k x : Nat} (h : ¬ metW (H k) q (hDm (H k)) (hDu (H k)) = 0) : x + 1 = metN q H k x := by unfold metN; rw [if_neg h]
set_option maxRecDepth 20000 in
set_option maxHeartbeats 4000000 in
theorem lw_rule1 {p : Program} {l : Launch} {e : Env} {s : State} {m : MethodId} {args : Array Value} {below : List Frame} {meth : Method} {c : Code} {D : va_G} {ba d mc ms : Nat} {ad : Adr} {Q : State → Prop} {tb : List ExceptionTableEntry} (C : Cx p l s m args meth c D ba RL cL_law 23 tb d) (hl : l.stackTraces = false) (hd : 12 ≤ d) {σ : CS} (hσ : cOK σ) (hI0 : cI σ) {X : Int32} {tm : Nat} {C1 S1 : Nat} (hC1 : C1 ≤ mc) (hS1 : S1 ≤ ms) {r : Nat} (hr : r < cK σ)  : ∀ (n : Nat) (j : Nat) (tl : Int32) (t : TT) (lo : Nat → Int32) (cz sz : Nat), j + n = cN σ → cz + 24 * n ≤ C1 → sz + 192 * n ≤ S1 → (∀ tl t lo, V p l e s m args below meth c D ba d mc ms Q 23 ad (LW ad σ σ tl t lo) 811 [(9, .int (nI (metC (cS σ r) (cH σ) (cN σ)))), (8, .int (nI r)), (5, .int (nI (cN σ))), (4, .int X), (3, .int (nI tm)), (2, .ref (ad [2])), (1, .ref (ad [0])), (0, .ref (D.2 99 0))] [] C1 S1) → V p l e s m args below meth c D ba d mc ms Q 23 ad (LW ad σ σ tl t lo) 729 [(10, .int (nI j)), (9, .int (nI (upF (metN (cS σ r) (cH σ)) j 0))), (8, .int (nI r)), (5, .int (nI (cN σ))), (4, .int X), (3, .int (nI tm)), (2, .ref (ad [2])), (1, .ref (ad [0])), (0, .ref (D.2 99 0))] [] cz sz := by
  intro n
  induction n with
  | zero =>
    intro j tl t lo cz sz hjn hcz hsz K
    have hσ1 := hσ.1
    have hσ2 := hσ.2.1
    refine V_iload C dL_law_729 0 rfl ?_
    refine V_iload C dL_law_731 3 rfl ?_
    refine V_icmpn_ge (tgt := 811) C dL_law_733 (by decide) (by omega) (by omega) (fun hb1 => ?_) (fun hb1 => by exfalso; omega)
    refine V_lv [1, 2, 3, 4, 5, 6, 7, 8] rfl ?_
    refine V_lvE (lv' := [(9, .int (nI (metC (cS σ r) (cH σ) (cN σ)))), (8, .int (nI r)), (5, .int (nI (cN σ))), (4, .int X), (3, .int (nI tm)), (2, .ref (ad [2])), (1, .ref (ad [0])), (0, .ref (D.2 99 0))]) (by rw [show j = cN σ by omega]; rfl) ?_
    exact V_cs (by omega) (by omega) (K tl t lo)
  | succ n ih =>
    intro j tl t lo cz sz hjn hcz hsz K
    have hσ1 := hσ.1
    have hσ2 := hσ.2.1
    rw [show 24 * (n + 1) = 24 * n + 24 from Nat.mul_succ 24 n] at hcz
    rw [show 192 * (n + 1) = 192 * n + 192 from Nat.mul_succ 192 n] at hsz
    refine V_iload C dL_law_729 0 rfl ?_
    refine V_iload C dL_law_731 3 rfl ?_
    refine V_icmpn_ge (tgt := 811) C dL_law_733 (by decide) (by omega) (by omega) (fun hb1 => by exfalso; omega) (fun hb1 => ?_)
    have hj : j < cN σ := by omega
    have hu := hσ.2.2.1 j hj
    have hu1 := hu.1
    have hu2 := hu.2.1
    have hu3 := hu.2.2.1
    have hu4 := hu.2.2.2.1
    have hd9 := hσ.2.2.2 r hr
    have hmw := metW_le (cH σ j) (cS σ r) (hDm (cH σ j)) (hDu (cH σ j))
    refine V_aload_n C dL_law_736 7 rfl ?_
    refine V_iload C dL_law_737 0 rfl ?_
    refine V_iload C dL_law_739 2 rfl ?_
    refine V_callV (r := (RX6, TX6, 8)) C [.int (nI j), .int (nI r)] dL_law_741 m_X6_meets k_X6_meets tw_387 rfl rfl rfl PW_b rfl rfl (Nat.le_of_ble_eq_true rfl) ⟨by omega, by omega, by omega, by omega⟩ (p_meets (i := 0) hl (by omega) hσ hj hr) (kr_RP (x := .int (nI (metW (cH σ j) (cS σ r) (hDm (cH σ j)) (hDu (cH σ j))))) (fun tl t lo => ?_)) kx_no
    refine V_istore C [(11, .int (nI (metW (cH σ j) (cS σ r) (hDm (cH σ j)) (hDu (cH σ j))))), (10, .int (nI j)), (9, .int (nI (upF (metN (cS σ r) (cH σ)) j 0))), (8, .int (nI r)), (5, .int (nI (cN σ))), (4, .int X), (3, .int (nI tm)), (2, .ref (ad [2])), (1, .ref (ad [0])), (0, .ref (D.2 99 0))] dL_law_744 (by decide) rfl ?_
    refine V_iload C dL_law_746 2 rfl ?_
    refine V_iload C dL_law_748 0 rfl ?_
    refine V_ifn_eq (tgt := 757) C dL_law_750 (by decide) (by omega) (fun hb2 => ?_) (fun hb2 => ?_)
    · skip
      refine V_iconst (v := nI 0) C dL_law_757 (by decide) ?_
      refine V_iaddn C dL_law_758 ?_
      refine V_stE (st' := [.int (nI (upF (metN (cS σ r) (cH σ)) (j + 1) 0))]) (by rw [upF_succ, ← metN_T hb2]) ?_
      refine V_istore C [(9, .int (nI (upF (metN (cS σ r) (cH σ)) (j + 1) 0))), (11, .int (nI (metW (cH σ j) (cS σ r) (hDm (cH σ j)) (hDu (cH σ j))))), (10, .int (nI j)), (8, .int (nI r)), (5, .int (nI (cN σ))), (4, .int X), (3, .int (nI tm)), (2, .ref (ad [2])), (1, .ref (ad [0])), (0, .ref (D.2 99 0))] dL_law_759 (by decide) rfl ?_
      refine V_iload C dL_law_761 1 rfl ?_
      refine V_ifn_ne (tgt := 769) C dL_law_763 (by decide) (by omega) (fun hb3 => by exfalso; omega) (fun hb3 => ?_)
      refine V_goto (tgt := 805) C dL_law_766 (by decide) ?_
      refine V_lv (lv' := [(10, .int (nI j)), (9, .int (nI (upF (metN (cS σ r) (cH σ)) (j + 1) 0))), (8, .int (nI r)), (5, .int (nI (cN σ))), (4, .int X), (3, .int (nI tm)), (2, .ref (ad [2])), (1, .ref (ad [0])), (0, .ref (D.2 99 0))]) [2, 0, 3, 4, 5, 6, 7, 8, 9] rfl ?_
      refine V_iincn C [(10, .int (nI (j + 1))), (9, .int (nI (upF (metN (cS σ r) (cH σ)) (j + 1) 0))), (8, .int (nI r)), (5, .int (nI (cN σ))), (4, .int X), (3, .int (nI tm)), (2, .ref (ad [2])), (1, .ref (ad [0])), (0, .ref (D.2 99 0))] dL_law_805 0 rfl (by decide) rfl ?_
      refine V_goto (tgt := 729) C dL_law_808 (by decide) ?_
      refine V_lv [0, 1, 2, 3, 4, 5, 6, 7, 8] rfl ?_
      exact ih (j + 1) tl t lo _ _ (by omega) (by omega) (by omega) K
    · skip
      refine V_iconst (v := nI 1) C dL_law_753 (by decide) ?_
      refine V_goto (tgt := 758) C dL_law_754 (by decide) ?_
      refine V_iaddn C dL_law_758 ?_
      refine V_stE (st' := [.int (nI (upF (metN (cS σ r) (cH σ)) (j + 1) 0))]) (by rw [upF_succ, ← metN_F hb2]) ?_
      refine V_istore C [(9, .int (nI (upF (metN (cS σ r) (cH σ)) (j + 1) 0))), (11, .int (nI (metW (cH σ j) (cS σ r) (hDm (cH σ j)) (hDu (cH σ j))))), (10, .int (nI j)), (8, .int (nI r)), (5, .int (nI (cN σ))), (4, .int X), (3, .int (nI tm)), (2, .ref (ad [2])), (1, .ref (ad [0])), (0, .ref (D.2 99 0))] dL_law_759 (by decide) rfl ?_
      refine V_iload C dL_law_761 1 rfl ?_
      refine V_ifn_ne (tgt := 769) C dL_law_763 (by decide) (by omega) (fun hb4 => ?_) (fun hb4 => by exfalso; omega)
      refine V_aload_n C dL_law_769 8 rfl ?_
      refine V_iload C dL_law_770 2 rfl ?_
      refine V_callV (r := (RX6, TX6, 8)) C [.int (nI j)] dL_law_772 m_X6_dampingOf k_X6_dampingOf tw_302 rfl rfl rfl PW_b rfl rfl (Nat.le_of_ble_eq_true rfl) ⟨by omega, by omega, by omega, by omega⟩ (p_dampingOf (i := 0) hl (by omega) hσ hj) (kr_RP (x := .int (nI (hDm (cH σ j)))) (fun tl t lo => ?_)) kx_no
      refine V_istore C [(12, .int (nI (hDm (cH σ j)))), (9, .int (nI (upF (metN (cS σ r) (cH σ)) (j + 1) 0))), (11, .int (nI (metW (cH σ j) (cS σ r) (hDm (cH σ j)) (hDu (cH σ j))))), (10, .int (nI j)), (8, .int (nI r)), (5, .int (nI (cN σ))), (4, .int X), (3, .int (nI tm)), (2, .ref (ad [2])), (1, .ref (ad [0])), (0, .ref (D.2 99 0))] dL_law_775 (by decide) rfl ?_
      refine V_aload_n C dL_law_777 9 rfl ?_
      refine V_iload C dL_law_778 3 rfl ?_
      refine V_iload C dL_law_780 4 rfl ?_
      refine V_iload C dL_law_782 0 rfl ?_
      refine V_iload C dL_law_784 6 rfl ?_
      refine V_iconst (v := nI 3) C dL_law_786 (by decide) ?_
      refine V_ishrn C dL_law_787 ?_
      refine V_bipush (v := nI 91) C dL_law_788 (by decide) ?_
      refine V_iload C dL_law_790 0 rfl ?_
      refine V_isubn C dL_law_792 (by omega) ?_
      have hbl793 := bl_lt (v := (sh X 3)) (n := (91 - (hDm (cH σ j)))) (by omega)
      refine V_callS C [.int (sh X 3), .int (nI (91 - (hDm (cH σ j))))] dL_law_793 m_L_below k_L_below tw_508 rfl rfl (Nat.le_of_ble_eq_true rfl) ⟨by omega, by omega, by omega, by omega⟩ (s_below hl (by omega) (sh X 3) (by omega) (by omega)) (kr_some (x := .int (nI (bl (sh X 3) (91 - (hDm (cH σ j)))))) ?_) kx_no
      refine V_iaddn C dL_law_796 ?_
      have hv9 : (hDm (cH σ j)) + (bl (sh X 3) (91 - (hDm (cH σ j)))) ≤ 90 := by omega
      have hm1 : metW (cH σ j) (cS σ r) ((hDm (cH σ j)) + (bl (sh X 3) (91 - (hDm (cH σ j))))) (hDu (cH σ j)) = 1 := metW_mono hu hd9 (Nat.le_add_right _ _) (by omega)
      refine V_callV (r := (RX6, TX6, 8)) C [.int (nI j), .int (nI r), .int (nI ((hDm (cH σ j)) + (bl (sh X 3) (91 - (hDm (cH σ j))))))] dL_law_797 m_X6_meetsWithDamping k_X6_meetsWithDamping tw_442 rfl rfl rfl PW_b rfl rfl (Nat.le_of_ble_eq_true rfl) ⟨by omega, by omega, by omega, by omega⟩ (p_withDamp (i := 0) hl (by omega) hσ hj hr hv9 (inR_ok (Nat.zero_le _) hv9 (by decide))) (kr_RP (x := .int (nI (metW (cH σ j) (cS σ r) ((hDm (cH σ j)) + (bl (sh X 3) (91 - (hDm (cH σ j))))) (hDu (cH σ j))))) (fun tl t lo => ?_)) kx_no
      refine V_stE (st' := [.int (nI 1)]) (by rw [hm1]) ?_
      refine V_ifn_ne (tgt := 805) C dL_law_800 (by decide) (by decide) (fun hb5 => ?_) (fun hb5 => by exfalso; omega)
      refine V_lv (lv' := [(10, .int (nI j)), (9, .int (nI (upF (metN (cS σ r) (cH σ)) (j + 1) 0))), (8, .int (nI r)), (5, .int (nI (cN σ))), (4, .int X), (3, .int (nI tm)), (2, .ref (ad [2])), (1, .ref (ad [0])), (0, .ref (D.2 99 0))]) [3, 1, 4, 5, 6, 7, 8, 9, 10] rfl ?_
      refine V_iincn C [(10, .int (nI (j + 1))), (9, .int (nI (upF (metN (cS σ r) (cH σ)) (j + 1) 0))), (8, .int (nI r)), (5, .int (nI (cN σ))), (4, .int X), (3, .int (nI tm)), (2, .ref (ad [2])), (1, .ref (ad [0])), (0, .ref (D.2 99 0))] dL_law_805 0 rfl (by decide) rfl ?_
      refine V_goto (tgt := 729) C dL_law_808 (by decide) ?_
      refine V_lv [0, 1, 2, 3, 4, 5, 6, 7, 8] rfl ?_
      exact ih (j + 1) tl t lo _ _ (by omega) (by omega) (by omega) K
set_option maxRecDepth 20000 in
set_option maxHeartbeats 4000000 in
theorem lw_rules {p : Program} {l : Launch} {e : Env} {s : State} {m : MethodId} {args : Array Value} {below : List Frame} {meth : Method} {c : Code} {D : va_G} {ba d mc ms : Nat} {ad : Adr} {Q : State → Prop} {tb : List ExceptionTableEntry} (C : Cx p l s m args meth c D ba RL cL_law 23 tb d) (hl : l.stackTraces = false) (hd : 12 ≤ d) {σ : CS} (hσ : cOK σ) (hI0 : cI σ) {X : Int32} {tm : Nat} {C1 S1 : Nat} (hC1 : C1 ≤ mc) (hS1 : S1 ≤ ms)  : ∀ (n : Nat) (r : Nat) (tl : Int32) (t : TT) (lo : Nat → Int32) (cz sz : Nat), r + n = cK σ → cz + 224 * n + 8 ≤ C1 → sz + 1900 * n + 64 ≤ S1 → (∀ tl t lo, V p l e s m args below meth c D ba d mc ms Q 23 ad (LW ad σ σ tl t lo) 830 [(5, .int (nI (cN σ))), (4, .int X), (3, .int (nI tm)), (2, .ref (ad [2])), (1, .ref (ad [0])), (0, .ref (D.2 99 0))] [] C1 S1) → V p l e s m args below meth c D ba d mc ms Q 23 ad (LW ad σ σ tl t lo) 714 [(8, .int (nI r)), (5, .int (nI (cN σ))), (4, .int X), (3, .int (nI tm)), (2, .ref (ad [2])), (1, .ref (ad [0])), (0, .ref (D.2 99 0))] [] cz sz := by
  intro n
  induction n with
  | zero =>
    intro r tl t lo cz sz hrn hcz hsz K
    have hσ1 := hσ.1
    have hσ2 := hσ.2.1
    refine V_iload C dL_law_714 0 rfl ?_
    refine V_aload_n C dL_law_716 5 rfl ?_
    refine V_callV (r := (RX6, TX6, 8)) C [] dL_law_717 m_X6_standards k_X6_standards tw_430 rfl rfl rfl PW_b rfl rfl (Nat.le_of_ble_eq_true rfl) ⟨by omega, by omega, by omega, by omega⟩ (p_standards (i := 0) hl (by omega) hσ) (kr_RP (x := .int (nI (cK σ))) (fun tl t lo => ?_)) kx_no
    refine V_icmpn_ge (tgt := 830) C dL_law_720 (by decide) (by omega) (by omega) (fun hb1 => ?_) (fun hb1 => by exfalso; omega)
    refine V_lv [1, 2, 3, 4, 5, 6] rfl ?_
    exact V_cs (by omega) (by omega) (K tl t lo)
  | succ n ih =>
    intro r tl t lo cz sz hrn hcz hsz K
    have hσ1 := hσ.1
    have hσ2 := hσ.2.1
    rw [show 224 * (n + 1) = 224 * n + 224 from Nat.mul_succ 224 n] at hcz
    rw [show 1900 * (n + 1) = 1900 * n + 1900 from Nat.mul_succ 1900 n] at hsz
    refine V_iload C dL_law_714 0 rfl ?_
    refine V_aload_n C dL_law_716 5 rfl ?_
    refine V_callV (r := (RX6, TX6, 8)) C [] dL_law_717 m_X6_standards k_X6_standards tw_430 rfl rfl rfl PW_b rfl rfl (Nat.le_of_ble_eq_true rfl) ⟨by omega, by omega, by omega, by omega⟩ (p_standards (i := 0) hl (by omega) hσ) (kr_RP (x := .int (nI (cK σ))) (fun tl t lo => ?_)) kx_no
    refine V_icmpn_ge (tgt := 830) C dL_law_720 (by decide) (by omega) (by omega) (fun hb1 => by exfalso; omega) (fun hb1 => ?_)
    have hr : r < cK σ := by omega
    refine V_iconst (v := nI 0) C dL_law_723 (by decide) ?_
    refine V_istore C [(9, .int (nI 0)), (8, .int (nI r)), (5, .int (nI (cN σ))), (4, .int X), (3, .int (nI tm)), (2, .ref (ad [2])), (1, .ref (ad [0])), (0, .ref (D.2 99 0))] dL_law_724 (by decide) rfl ?_
    refine V_iconst (v := nI 0) C dL_law_726 (by decide) ?_
    refine V_istore C [(10, .int (nI 0)), (9, .int (nI 0)), (8, .int (nI r)), (5, .int (nI (cN σ))), (4, .int X), (3, .int (nI tm)), (2, .ref (ad [2])), (1, .ref (ad [0])), (0, .ref (D.2 99 0))] dL_law_727 (by decide) rfl ?_
    refine V_lv [0, 1, 2, 3, 4, 5, 6, 7, 8] rfl ?_
    refine lw_rule1 (C1 := cz + 208) (S1 := sz + 1700) C hl (by omega) hσ hI0 (by omega) (by omega) hr (cN σ) 0 tl t lo _ _ (by omega) (by omega) (by omega) (fun tl t lo => ?_)
    refine V_iload C dL_law_811 0 rfl ?_
    refine V_aload_n C dL_law_813 6 rfl ?_
    refine V_iload C dL_law_814 1 rfl ?_
    have hmc9 := metC_le (cS σ r) (cH σ) (cN σ)
    refine V_callV (r := (RX6, TX6, 8)) C [.int (nI r)] dL_law_816 m_X6_hallsMeeting k_X6_hallsMeeting tw_410 rfl rfl rfl PW_b rfl rfl (Nat.le_of_ble_eq_true rfl) ⟨by omega, by omega, by omega, by omega⟩ (p_hallsMeeting (i := 0) hl (by omega) hσ hr) (kr_RP (x := .int (nI (metC (cS σ r) (cH σ) (cN σ)))) (fun tl t lo => ?_)) kx_no
    refine V_icmpn_eq (tgt := 824) C dL_law_819 (by decide) (by omega) (by omega) (fun hb2 => ?_) (fun hb2 => by exfalso; omega)
    refine V_iincn C [(8, .int (nI (r + 1))), (9, .int (nI (metC (cS σ r) (cH σ) (cN σ)))), (5, .int (nI (cN σ))), (4, .int X), (3, .int (nI tm)), (2, .ref (ad [2])), (1, .ref (ad [0])), (0, .ref (D.2 99 0))] dL_law_824 1 rfl (by decide) rfl ?_
    refine V_goto (tgt := 714) C dL_law_827 (by decide) ?_
    refine V_lv [0, 2, 3, 4, 5, 6, 7] rfl ?_
    exact ih (r + 1) tl t lo _ _ (by omega) (by omega) (by omega) K
set_option maxRecDepth 20000 in
set_option maxHeartbeats 4000000 in
theorem lw_all {p : Program} {l : Launch} {e : Env} {s : State} {m : MethodId} {args : Array Value} {below : List Frame} {meth : Method} {c : Code} {D : va_G} {ba d mc ms : Nat} {ad : Adr} {Q : State → Prop} {tb : List ExceptionTableEntry} (C : Cx p l s m args meth c D ba RL cL_law 23 tb d) (hl : l.stackTraces = false) (hd : 12 ≤ d) {σ : CS} (hσ : cOK σ) (hI0 : cI σ) {X : Int32} {tm : Nat} {C1 S1 : Nat} (hC1 : C1 ≤ mc) (hS1 : S1 ≤ ms) (hn : 1 ≤ cN σ) {tl : Int32} {t : TT} {lo : Nat → Int32} {cz sz : Nat} (hcz : cz + 10100 ≤ C1) (hsz : sz + 82000 ≤ S1) (K : ∀ tl t lo, V p l e s m args below meth c D ba d mc ms Q 23 ad (LW ad σ σ tl t lo) 830 [(5, .int (nI (cN σ))), (4, .int X), (3, .int (nI tm)), (2, .ref (ad [2])), (1, .ref (ad [0])), (0, .ref (D.2 99 0))] [] C1 S1) : V p l e s m args below meth c D ba d mc ms Q 23 ad (LW ad σ σ tl t lo) 80 [(4, .int X), (3, .int (nI tm)), (2, .ref (ad [2])), (1, .ref (ad [0])), (0, .ref (D.2 99 0))] [] cz sz := by
  have hσ1 := hσ.1
  have hσ2 := hσ.2.1
  have hce := certs_le (cH σ) (cN σ)
  have hsd : sumD (cH σ) (cN σ) ≤ 720 := by have := sumD_le hσ (cN σ) (Nat.le_refl _); omega
  refine V_aload_n C dL_law_80 3 rfl ?_
  refine V_callV (r := (RX6, TX6, 8)) C [] dL_law_81 m_X6_halls k_X6_halls tw_426 rfl rfl rfl PW_b rfl rfl (Nat.le_of_ble_eq_true rfl) ⟨by omega, by omega, by omega, by omega⟩ (p_halls (i := 0) hl (by omega) hσ) (kr_RP (x := .int (nI (cN σ))) (fun tl t lo => ?_)) kx_no
  refine V_istore C [(5, .int (nI (cN σ))), (4, .int X), (3, .int (nI tm)), (2, .ref (ad [2])), (1, .ref (ad [0])), (0, .ref (D.2 99 0))] dL_law_84 (by decide) rfl ?_
  refine V_iconst (v := nI 0) C dL_law_86 (by decide) ?_
  refine V_istore C [(6, .int (nI 0)), (5, .int (nI (cN σ))), (4, .int X), (3, .int (nI tm)), (2, .ref (ad [2])), (1, .ref (ad [0])), (0, .ref (D.2 99 0))] dL_law_87 (by decide) rfl ?_
  refine V_iconst (v := nI 0) C dL_law_89 (by decide) ?_
  refine V_istore C [(7, .int (nI 0)), (6, .int (nI 0)), (5, .int (nI (cN σ))), (4, .int X), (3, .int (nI tm)), (2, .ref (ad [2])), (1, .ref (ad [0])), (0, .ref (D.2 99 0))] dL_law_90 (by decide) rfl ?_
  refine V_iconst (v := nI 0) C dL_law_92 (by decide) ?_
  refine V_istore C [(8, .int (nI 0)), (7, .int (nI 0)), (6, .int (nI 0)), (5, .int (nI (cN σ))), (4, .int X), (3, .int (nI tm)), (2, .ref (ad [2])), (1, .ref (ad [0])), (0, .ref (D.2 99 0))] dL_law_93 (by decide) rfl ?_
  refine V_lv (lv' := [(8, .int (nI 0)), (7, .int (nI (upF (sumN (cH σ)) 0 0))), (6, .int (nI (upF (certN (cH σ)) 0 0))), (5, .int (nI (cN σ))), (4, .int X), (3, .int (nI tm)), (2, .ref (ad [2])), (1, .ref (ad [0])), (0, .ref (D.2 99 0))]) [0, 1, 2, 3, 4, 5, 6, 7, 8] rfl ?_
  refine lw_halls (C1 := cz + 8900) (S1 := sz + 72100) C hl (by omega) hσ hI0 (by omega) (by omega) (cN σ) 0 tl t lo _ _ (by omega) (by omega) (by omega) (fun tl t lo => ?_)
  refine V_iload C dL_law_685 1 rfl ?_
  refine V_aload_n C dL_law_687 6 rfl ?_
  refine V_callV (r := (RX6, TX6, 8)) C [] dL_law_688 m_X6_certifiedHalls k_X6_certifiedHalls tw_434 rfl rfl rfl PW_b rfl rfl (Nat.le_of_ble_eq_true rfl) ⟨by omega, by omega, by omega, by omega⟩ (p_certifiedHalls (i := 0) hl (by omega) hσ) (kr_RP (x := .int (nI (certs (cH σ) (cN σ)))) (fun tl t lo => ?_)) kx_no
  refine V_icmpn_ne (tgt := 709) C dL_law_691 (by decide) (by omega) (by omega) (fun hb1 => by exfalso; omega) (fun hb1 => ?_)
  refine V_aload_n C dL_law_694 6 rfl ?_
  refine V_callV (r := (RX6, TX6, 8)) C [] dL_law_695 m_X6_meanDamping k_X6_meanDamping tw_446 rfl rfl rfl PW_b rfl rfl (Nat.le_of_ble_eq_true rfl) ⟨by omega, by omega, by omega, by omega⟩ (p_mean (i := 0) hl (by omega) hσ hn) (kr_RP (x := .double (FP.ddiv (FP.i2d (nI (sumD (cH σ) (cN σ)))) (FP.i2d (nI (cN σ))))) (fun tl t lo => ?_)) kx_no
  refine V_iload C dL_law_698 0 rfl ?_
  refine V_i2d C dL_law_700 ?_
  refine V_iload C dL_law_701 2 rfl ?_
  refine V_i2d C dL_law_703 ?_
  refine V_ddiv C dL_law_704 (by exact mean_ok hsd hn hσ1) ?_
  refine V_dcmp C dL_law_705 ?_
  refine V_if_eq (tgt := 711) C dL_law_706 (by decide) (fun hb2 => ?_) (fun hb2 => by exfalso; exact hb2 (mean_eq hsd hn hσ1))
  refine V_iconst (v := nI 0) C dL_law_711 (by decide) ?_
  refine V_istore C [(8, .int (nI 0)), (7, .int (nI (sumD (cH σ) (cN σ)))), (6, .int (nI (certs (cH σ) (cN σ)))), (5, .int (nI (cN σ))), (4, .int X), (3, .int (nI tm)), (2, .ref (ad [2])), (1, .ref (ad [0])), (0, .ref (D.2 99 0))] dL_law_712 (by decide) rfl ?_
  refine V_lv [0, 3, 4, 5, 6, 7, 8] rfl ?_
  exact lw_rules C hl (by omega) hσ hI0 hC1 hS1 (cK σ) 0 tl t lo _ _ (by omega) (by omega) (by omega) K
set_option maxRecDepth 20000 in
set_option maxHeartbeats 4000000 in
theorem lw_two {p : Program} {l : Launch} {e : Env} {s : State} {m : MethodId} {args : Array Value} {below : List Frame} {meth : Method} {c : Code} {D : va_G} {ba d mc ms : Nat} {ad : Adr} {Q : State → Prop} {tb : List ExceptionTableEntry} (C : Cx p l s m args meth c D ba RL cL_law 23 tb d) (hl : l.stackTraces = false) (hd : 12 ≤ d) {X : Int32} {tm : Nat} {C1 S1 : Nat} (hC1 : C1 ≤ mc) (hS1 : S1 ≤ ms)  : ∀ (n : Nat) (k : Nat) (aq : Adr) (σ : CS) (tl : Int32) (t : TT) (lo : Nat → Int32) (cz sz : Nat), k + n = 2 → IV σ → 1 ≤ cN σ → cz + 40 * n ≤ C1 → sz + 300 * n ≤ S1 → (∀ aq σ tl t lo, IV σ → 1 ≤ cN σ → V p l e s m args below meth c D ba d mc ms Q 23 aq (LW aq σ σ tl t lo) 80 [(4, .int X), (3, .int (nI tm)), (2, .ref (aq [2])), (1, .ref (aq [0])), (0, .ref (D.2 99 0))] [] C1 S1) → V p l e s m args below meth c D ba d mc ms Q 23 aq (LW aq σ σ tl t lo) 44 [(5, .int (nI k)), (4, .int X), (3, .int (nI tm)), (2, .ref (aq [2])), (1, .ref (aq [0])), (0, .ref (D.2 99 0))] [] cz sz := by
  intro n
  induction n with
  | zero =>
    intro k aq σ tl t lo cz sz hkn hIV0 hn hcz hsz K
    have hσ := hIV0.1
    have hI0 := hIV0.2
    refine V_iload C dL_law_44 0 rfl ?_
    refine V_iconst (v := nI 2) C dL_law_46 (by decide) ?_
    refine V_icmpn_ge (tgt := 80) C dL_law_47 (by decide) (by omega) (by decide) (fun hb1 => ?_) (fun hb1 => by exfalso; omega)
    refine V_lv [1, 2, 3, 4, 5] rfl ?_
    exact V_cs (by omega) (by omega) (K aq σ tl t lo hIV0 hn)
  | succ n ih =>
    intro k aq σ tl t lo cz sz hkn hIV0 hn hcz hsz K
    have hσ := hIV0.1
    have hI0 := hIV0.2
    rw [show 40 * (n + 1) = 40 * n + 40 from Nat.mul_succ 40 n] at hcz
    rw [show 300 * (n + 1) = 300 * n + 300 from Nat.mul_succ 300 n] at hsz
    refine V_iload C dL_law_44 0 rfl ?_
    refine V_iconst (v := nI 2) C dL_law_46 (by decide) ?_
    refine V_icmpn_ge (tgt := 80) C dL_law_47 (by decide) (by omega) (by decide) (fun hb1 => by exfalso; omega) (fun hb1 => ?_)
    refine V_aload_n C dL_law_50 4 rfl ?_
    refine V_aload_n C dL_law_51 3 rfl ?_
    refine V_iload C dL_law_52 1 rfl ?_
    refine V_iconst (v := nI 2) C dL_law_54 (by decide) ?_
    refine V_iload C dL_law_55 0 rfl ?_
    refine V_imuln C dL_law_57 ?_
    refine V_ishrn C dL_law_58 ?_
    refine V_sipush (v := nI 401) C dL_law_59 (by decide) ?_
    refine V_iload C dL_law_62 0 rfl ?_
    refine V_imuln C dL_law_64 ?_
    refine V_iadd C dL_law_65 ?_
    refine V_callS C [.ref (aq [0]), .ref (aq [2]), .int ((sh X (2 * k)) + (nI (401 * k)))] dL_law_66 m_L_act k_L_act tw_516 rfl rfl (Nat.le_of_ble_eq_true rfl) ⟨by omega, by omega, by omega, by omega⟩ (s_act (σ := σ) hl (by omega) hσ hI0 ((sh X (2 * k)) + (nI (401 * k)))) ?_ kx_no
    rintro v2 ad2 w2 ⟨rfl, hk2, σ2, tl2, t2, lo2, ⟨hIV, hn2⟩, rfl⟩
    refine V_lvE (lv' := [(5, .int (nI k)), (4, .int X), (3, .int (nI tm)), (2, .ref (ad2 [2])), (1, .ref (ad2 [0])), (0, .ref (D.2 99 0))]) (by rw [hk2.1, hk2.2]) ?_
    refine V_stE (st' := [.int (nI 1)]) rfl ?_
    refine V_ifn_ne (tgt := 74) C dL_law_69 (by decide) (by decide) (fun hb2 => ?_) (fun hb2 => by exfalso; omega)
    refine V_iincn C [(5, .int (nI (k + 1))), (4, .int X), (3, .int (nI tm)), (2, .ref (ad2 [2])), (1, .ref (ad2 [0])), (0, .ref (D.2 99 0))] dL_law_74 0 rfl (by decide) rfl ?_
    refine V_goto (tgt := 44) C dL_law_77 (by decide) ?_
    refine V_lv [0, 1, 2, 3, 4, 5] rfl ?_
    exact ih (k + 1) ad2 σ2 tl2 t2 lo2 _ _ (by omega) hIV hn2 (by omega) (by omega) K
set_option maxRecDepth 20000 in
set_option maxHeartbeats 4000000 in
theorem lw_time {p : Program} {l : Launch} {e : Env} {s : State} {m : MethodId} {args : Array Value} {below : List Frame} {meth : Method} {c : Code} {D : va_G} {ba d mc ms : Nat} {ad : Adr} {Q : State → Prop} {tb : List ExceptionTableEntry} (C : Cx p l s m args meth c D ba RL cL_law 23 tb d) (hl : l.stackTraces = false) (hd : 12 ≤ d) {A B : Nat} (hA : A = 10200) (hB : B = 83000)  : ∀ (n : Nat) (tm : Nat) (aq : Adr) (σ : CS) (tl : Int32) (t : TT) (lo : Nat → Int32) (cz sz : Nat), tm + n = 8 → IV σ → 1 ≤ cN σ → cz + A * n + 2000 ≤ mc → sz + B * n + 16000 ≤ ms → (∀ (ad : Adr) (w : Wd) (lv : List (Nat × Value)) (cells slots : Nat), cells ≤ mc → slots ≤ ms → V p l e s m args below meth c D ba d mc ms Q 23 ad w 844 lv [.int (nI 1)] cells slots) → V p l e s m args below meth c D ba d mc ms Q 23 aq (LW aq σ σ tl t lo) 22 [(3, .int (nI tm)), (2, .ref (aq [2])), (1, .ref (aq [0])), (0, .ref (D.2 99 0))] [] cz sz := by
  intro n
  induction n with
  | zero =>
    intro tm aq σ tl t lo cz sz hkn hIV0 hn hcz hsz KE
    refine V_iload_n C dL_law_22 0 rfl ?_
    refine V_bipush (v := nI 8) C dL_law_23 (by decide) ?_
    refine V_icmpn_ge (tgt := 836) C dL_law_25 (by decide) (by omega) (by decide) (fun hb1 => ?_) (fun hb1 => by exfalso; omega)
    refine V_aload_n C dL_law_836 1 rfl ?_
    refine V_aload_n C dL_law_837 2 rfl ?_
    refine V_sipush (v := nI 1000) C dL_law_838 (by decide) ?_
    refine V_callV (r := (RX8, TX8, 4)) C [.ref (aq [0]), .int (nI 1000)] dL_law_841 m_X8_isSame k_X8_isSame tw_450 rfl rfl rfl ((put_n (by decide)).trans SW_b) rfl rfl (Nat.le_of_ble_eq_true rfl) ⟨by omega, by omega, by omega, by omega⟩ (s_isSame hl (by omega) hIV0.1 hIV0.2 hn) ?_ kx_no
    rintro v2 ad2 w2 ⟨rfl, rfl, tl2, t2, lo2, rfl⟩
    exact KE _ _ _ _ _ (by omega) (by omega)
  | succ n ih =>
    intro tm aq σ tl t lo cz sz hkn hIV0 hn hcz hsz KE
    rw [Nat.mul_succ] at hcz
    rw [Nat.mul_succ] at hsz
    refine V_iload_n C dL_law_22 0 rfl ?_
    refine V_bipush (v := nI 8) C dL_law_23 (by decide) ?_
    refine V_icmpn_ge (tgt := 836) C dL_law_25 (by decide) (by omega) (by decide) (fun hb1 => by exfalso; omega) (fun hb1 => ?_)
    refine V_aload_n C dL_law_28 3 rfl ?_
    refine V_iload_n C dL_law_29 0 rfl ?_
    refine V_callS C [.ref (D.2 99 0), .int (nI tm)] dL_law_30 m_L_cell k_L_cell tw_512 rfl rfl (Nat.le_of_ble_eq_true rfl) ⟨by omega, by omega, by omega, by omega⟩ (s_cell hl (by omega) (by omega)) (kr_ex (fun x9 => ?_)) kx_no
    refine V_sipush (v := nI 521) C dL_law_33 (by decide) ?_
    refine V_iload_n C dL_law_36 0 rfl ?_
    refine V_imuln C dL_law_37 ?_
    refine V_iadd C dL_law_38 ?_
    obtain ⟨X, hX⟩ : ∃ z, z = (x9 + (nI (521 * tm))) := ⟨_, rfl⟩
    rw [← hX]
    refine V_istore C [(4, .int X), (3, .int (nI tm)), (2, .ref (aq [2])), (1, .ref (aq [0])), (0, .ref (D.2 99 0))] dL_law_39 (by decide) rfl ?_
    refine V_iconst (v := nI 0) C dL_law_41 (by decide) ?_
    refine V_istore C [(5, .int (nI 0)), (4, .int X), (3, .int (nI tm)), (2, .ref (aq [2])), (1, .ref (aq [0])), (0, .ref (D.2 99 0))] dL_law_42 (by decide) rfl ?_
    refine V_lv [0, 1, 2, 3, 4, 5] rfl ?_
    refine lw_two (ad := ad) (C1 := cz + 80) (S1 := sz + 600) C hl (by omega) (by omega) (by omega) 2 0 aq σ tl t lo _ _ (by omega) hIV0 hn (by omega) (by omega) (fun aq σ tl t lo hIV1 hn1 => ?_)
    obtain ⟨C2, hC2⟩ : ∃ z, z = cz + A := ⟨_, rfl⟩
    obtain ⟨S2, hS2⟩ : ∃ z, z = sz + B := ⟨_, rfl⟩
    refine lw_all (C1 := C2) (S1 := S2) C hl (by omega) hIV1.1 hIV1.2 (by omega) (by omega) hn1 (by omega) (by omega) (fun tl t lo => ?_)
    refine V_iincn C [(3, .int (nI (tm + 1))), (5, .int (nI (cN σ))), (4, .int X), (2, .ref (aq [2])), (1, .ref (aq [0])), (0, .ref (D.2 99 0))] dL_law_830 2 rfl (by decide) rfl ?_
    refine V_goto (tgt := 22) C dL_law_833 (by decide) ?_
    refine V_lv [0, 3, 4, 5] rfl ?_
    exact ih (tm + 1) aq σ tl t lo _ _ (by omega) hIV1 hn1 (by omega) (by omega) KE
