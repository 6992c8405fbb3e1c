
section LSA
variable {ad : Adr} {σ τ : CS} {tl : Int32} {t : TT} {lo : Nat → Int32}
theorem LSW_ad9 {q : Nat} : LSW (aset ad [2, 9] q) σ τ tl t lo = LSW ad σ τ tl t lo := by
  show SW 2 (aset ad [2, 9] q) τ (PW 0 (aset ad [2, 9] q) σ tl t lo nW) = _
  rw [SW_ad9, PW_ad (ad2 := aset ad [2, 9] q) (fun r => aset_n (by simp))]
theorem LSW_ad4 {q : Nat} : LSW (aset ad [2, 4, cK τ] q) σ τ tl t lo = LSW ad σ τ tl t lo := by
  show SW 2 (aset ad [2, 4, cK τ] q) τ (PW 0 (aset ad [2, 4, cK τ] q) σ tl t lo nW) = _
  rw [SW_ad4, PW_ad (ad2 := aset ad [2, 4, cK τ] q) (fun r => aset_n (by simp))]
theorem LSW_ad6 {q j : Nat} : LSW (aset ad [2, 6, j, hSc (cH τ j)] q) σ τ tl t lo = LSW ad σ τ tl t lo := by
  show SW 2 (aset ad [2, 6, j, hSc (cH τ j)] q) τ (PW 0 (aset ad [2, 6, j, hSc (cH τ j)] q) σ tl t lo nW) = _
  rw [SW_ad6, PW_ad (ad2 := aset ad [2, 6, j, hSc (cH τ j)] q) (fun r => aset_n (by simp))]
theorem LSW_addD {q9 : Nat} {q0 : StdS} (h9 : q9 = ad [2, 9]) : wren (wset (wset (wset (LSW ad σ τ tl t lo) [2, 4, cK τ] (eI 5 (stF q0))) [2, 9] (eA (cK τ + 1) (va_up (adN (cK τ) (fun k => ad [2, 4, k])) (cK τ) (some (ad [2, 4, cK τ]))))) [2] (eLS (cDay τ) (cIns τ) (ad [2, 1]) q9)) [2, 2] [2, 9] = LSW (aset ad [2, 2] (ad [2, 9])) σ (addD τ q0) tl t lo := by
  refine (SW_addD h9).trans ?_
  show SW 2 (aset ad [2, 2] (ad [2, 9])) (addD τ q0) (PW 0 ad σ tl t lo nW) = SW 2 (aset ad [2, 2] (ad [2, 9])) (addD τ q0) (PW 0 (aset ad [2, 2] (ad [2, 9])) σ tl t lo nW)
  rw [PW_ad (ad2 := aset ad [2, 2] (ad [2, 9])) (fun r => aset_n (by simp))]
theorem LSW_addS {j q9 hb ds : Nat} (hj : j < cN τ) (h9 : q9 = ad [2, 9]) : wren (wset (wset (wset (LSW ad σ τ tl t lo) [2, 6, j, hSc (cH τ j)] (eI 2 (suF (hb, ds)))) [2, 9] (eA (hSc (cH τ j) + 1) (va_up (adN (hSc (cH τ j)) (fun k => ad [2, 6, j, k])) (hSc (cH τ j)) (some (ad [2, 6, j, hSc (cH τ j)]))))) [2, 3, j] (eLH q9 (hDm (cH τ j)) (hDu (cH τ j)) (-1) 0)) [2, 5, j] [2, 9] = LSW (aset ad [2, 5, j] (ad [2, 9])) σ (setH τ j (hSc (cH τ j) + 1, hDm (cH τ j), hDu (cH τ j), -1, 0, fup (hSu (cH τ j)) (hSc (cH τ j)) (hb, ds))) tl t lo := by
  refine (SW_addS hj h9).trans ?_
  show SW 2 (aset ad [2, 5, j] (ad [2, 9])) _ (PW 0 ad σ tl t lo nW) = SW 2 (aset ad [2, 5, j] (ad [2, 9])) _ (PW 0 (aset ad [2, 5, j] (ad [2, 9])) σ tl t lo nW)
  rw [PW_ad (ad2 := aset ad [2, 5, j] (ad [2, 9])) (fun r => aset_n (by simp))]
theorem LSW_addH {q3 q5 q9 v : Nat} {E1 E2 E3 : Ent} (h9 : q9 = ad [2, 9]) : wren (wset (wset (wset (wset (wset (wset (wset (LSW ad σ τ tl t lo) [2, 9] E1) [2, 3, cN τ] E2) [2, 5, cN τ] (eA 0 (fun _ => none))) [2, 3, cN τ] E3) [2, 9] (eQ RX7 (cN τ + 1) (va_up (adN (cN τ) (fun j => ad [2, 3, j])) (cN τ) (some q3)))) [2, 3, cN τ] (eLH q5 v 0 (-1) 0)) [2] (eLS (cDay τ) (cIns τ) q9 (ad [2, 2]))) [2, 1] [2, 9] = LSW (aset (aset (aset ad [2, 3, cN τ] q3) [2, 5, cN τ] q5) [2, 1] (aset (aset ad [2, 3, cN τ] q3) [2, 5, cN τ] q5 [2, 9])) σ (addH τ v) tl t lo := by
  refine (SW_addH h9).trans ?_
  show SW 2 _ (addH τ v) (PW 0 ad σ tl t lo nW) = SW 2 _ (addH τ v) (PW 0 (aset (aset (aset ad [2, 3, cN τ] q3) [2, 5, cN τ] q5) [2, 1] (aset (aset ad [2, 3, cN τ] q3) [2, 5, cN τ] q5 [2, 9])) σ tl t lo nW)
  rw [PW_ad (ad2 := aset (aset (aset ad [2, 3, cN τ] q3) [2, 5, cN τ] q5) [2, 1] (aset (aset ad [2, 3, cN τ] q3) [2, 5, cN τ] q5 [2, 9])) (ad := ad) (fun r => by simp [aset])]
end LSA
set_option maxHeartbeats 4000000 in
theorem act_insp {p : Program} {l : Launch} {e : Env} {s : State} {m : MethodId} {args : Array Value} {below : List Frame} {meth : Method} {c : Code} {D : va_G} {ba d mc ms : Nat} {ad : Adr} {cells slots : Nat} {QR : Option Value → Adr → Wd → Prop} {QX : String → Adr → Wd → Prop} (C : Cx p l s m args meth c D ba RL cL_act 19 [] d) (hl : l.stackTraces = false) (hr : meth.sig.returnType = (some .boolean)) (hd : 10 ≤ d) {σ : CS} {tl : Int32} {t : TT} {lo : Nat → Int32} (hσ : cOK σ) (hI0 : cI σ) (hn : 1 ≤ cN σ) (hcm : cells + 24 ≤ mc) (hsm : slots + 160 ≤ ms) {x : Int32} {so : Nat} (hq : ∀ ad' σ tl t lo, (ad' [0] = ad [0] ∧ ad' [2] = ad [2]) → IV σ → 1 ≤ cN σ → QR (some (.int (nI 1))) ad' (LW ad' σ σ tl t lo)) {j : Nat} (hj : j < cN σ)  : V p l e s m args below meth c D ba d mc ms (MO D ba QR QX below args s mc ms) 19 ad (LSW ad σ σ tl t lo) 661 [(8, .int (nI (cK σ))), (7, .int (nI (hSc (cH σ j)))), (6, .ref (ad [2, 3, j])), (5, .int (nI j)), (0, .ref (ad [0])), (1, .ref (ad [2])), (2, .int x), (3, .int (nI (cN σ))), (4, .int (nI so))] [] cells slots := by
  have hσ1 := hσ.1
  have hσ2 := hσ.2.1
  have hu := hσ.2.2.1 j hj
  have hu1 := hu.1
  have hu2 := hu.2.1
  have hu3 := hu.2.2.1
  have hu4 := hu.2.2.2.1
  refine V_iload C dL_act_661 0 rfl ?_
  refine V_ifn_ne (tgt := 668) C dL_act_663 (by decide) (by omega) (fun hb1 => ?_) (fun hb1 => ?_)
  · skip
    refine V_iload_n C dL_act_668 6 rfl ?_
    refine V_iconst (v := nI 4) C dL_act_669 (by decide) ?_
    refine V_ishrn C dL_act_670 ?_
    refine V_iload C dL_act_671 0 rfl ?_
    have hbl673 := bl_lt (v := (sh x 4)) (n := (cK σ)) (by omega)
    refine V_callS C [.int (sh x 4), .int (nI (cK σ))] dL_act_673 m_L_below k_L_below tw_508 rfl rfl (Nat.le_of_ble_eq_true rfl) ⟨by omega, by omega, by omega, by omega⟩ (s_below hl (by omega) (sh x 4) (by omega) (by omega)) (kr_some (x := .int (nI (bl (sh x 4) (cK σ)))) ?_) kx_no
    refine V_istore C [(14, .int (nI (bl (sh x 4) (cK σ)))), (8, .int (nI (cK σ))), (7, .int (nI (hSc (cH σ j)))), (6, .ref (ad [2, 3, j])), (5, .int (nI j)), (0, .ref (ad [0])), (1, .ref (ad [2])), (2, .int x), (3, .int (nI (cN σ))), (4, .int (nI so))] dL_act_676 (by decide) rfl ?_
    refine V_aload C dL_act_678 3 rfl ?_
    refine V_aload_n C dL_act_680 6 rfl ?_
    refine V_get (ci := 7) (k := 3) C dL_act_681 RX8 RX8 TX8 4 fw_X8 rfl (by decide) tw_650 rfl rfl SW_b rfl ?_
    refine V_iload C dL_act_684 0 rfl ?_
    have hq9 : (bl (sh x 4) (cK σ)) < cK σ := hbl673
    have hs9 := hσ.2.2.2 _ hq9
    have hs8 := hs9.2.2.2.2.2
    refine V_aaldA (v := .ref (ad [2, 4, (bl (sh x 4) (cK σ))])) C dL_act_686 rfl SW_rr (by omega) (by omega) (by rw [adN_lt hq9]; rfl) ?_
    refine V_aload C dL_act_687 3 rfl ?_
    refine V_get (ci := 6) (k := 1) C dL_act_689 RX7 RX7 TX7 5 fw_X7 rfl (by decide) tw_531 rfl rfl (SW_h hj) rfl ?_
    refine V_aload C dL_act_692 3 rfl ?_
    refine V_get (ci := 6) (k := 2) C dL_act_694 RX7 RX7 TX7 5 fw_X7 rfl (by decide) tw_534 rfl rfl (SW_h hj) rfl ?_
    have hml := metW_le (cH σ j) (cS σ (bl (sh x 4) (cK σ))) (hDm (cH σ j)) (hDu (cH σ j))
    refine V_callV (r := (RX7, TX7, 5)) C [.ref (ad [2, 4, (bl (sh x 4) (cK σ))]), .int (nI (hDm (cH σ j))), .int (nI (hDu (cH σ j)))] dL_act_697 m_X7_meets k_X7_meets tw_600 rfl rfl rfl (SW_h hj) rfl rfl (Nat.le_of_ble_eq_true rfl) ⟨by omega, by omega, by omega, by omega⟩ (s_meets (i := 2) hl (by omega) hσ hj hq9 hu2 hu3) (kr_some (x := .int (nI (metW (cH σ j) (cS σ (bl (sh x 4) (cK σ))) (hDm (cH σ j)) (hDu (cH σ j))))) ?_) kx_no
    refine V_istore C [(15, .int (nI (metW (cH σ j) (cS σ (bl (sh x 4) (cK σ))) (hDm (cH σ j)) (hDu (cH σ j))))), (14, .int (nI (bl (sh x 4) (cK σ)))), (8, .int (nI (cK σ))), (7, .int (nI (hSc (cH σ j)))), (6, .ref (ad [2, 3, j])), (5, .int (nI j)), (0, .ref (ad [0])), (1, .ref (ad [2])), (2, .int x), (3, .int (nI (cN σ))), (4, .int (nI so))] dL_act_700 (by decide) rfl ?_
    refine V_aload_n C dL_act_702 7 rfl ?_
    refine V_dup C dL_act_703 rfl ?_
    refine V_get (ci := 7) (k := 1) C dL_act_704 RX8 RX8 TX8 4 fw_X8 rfl (by decide) tw_645 rfl rfl SW_b rfl ?_
    refine V_iconst (v := nI 1) C dL_act_707 (by decide) ?_
    refine V_iadd C dL_act_708 ?_
    refine V_put (ci := 7) (k := 1) C dL_act_709 RX8 RX8 TX8 4 tyX8 tyX8_ok nmX8 fw_X8 rfl (by decide) tw_645 rfl (Or.inl rfl) rfl rfl rfl SW_b (Nat.le_of_ble_eq_true rfl) ?_
    refine V_wd (w' := wset (LSW ad σ σ tl t lo) ([2]) (.inr (7, [.int (cDay σ), .int ((cIns σ) + (nI 1)), .ref (ad [2, 1]), .ref (ad [2, 2])]))) rfl ?_
    refine V_wd (w' := SW 2 ad (cN σ, cK σ, cDay σ, cIns σ + nI 1, cH σ, cS σ) (PW 0 ad σ tl t lo nW)) SW_b' ?_
    refine V_iload C dL_act_712 0 rfl ?_
    refine V_ifn_eq (tgt := 741) C dL_act_714 (by decide) (by omega) (fun hb2 => ?_) (fun hb2 => ?_)
    · skip
      refine V_aload C dL_act_741 4 rfl ?_
      refine V_get (ci := 6) (k := 3) C dL_act_743 RX7 RX7 TX7 5 fw_X7 rfl (by decide) tw_537 rfl rfl (SW_h (σ := (cN σ, cK σ, cDay σ, cIns σ + nI 1, cH σ, cS σ)) hj) rfl ?_
      refine V_iload C dL_act_746 1 rfl ?_
      refine V_icmp_ne (tgt := 756) C dL_act_748 (by decide) (fun hb3 => ?_) (fun hb3 => ?_)
      · skip
        refine V_aload_n C dL_act_756 6 rfl ?_
        refine V_iload C dL_act_757 5 rfl ?_
        refine V_iload C dL_act_759 1 rfl ?_
        refine V_wd (w' := LW ad σ (cN σ, cK σ, cDay σ, cIns σ + nI 1, cH σ, cS σ) tl t lo) LW_LS.symm ?_
        refine V_callV (r := (RX6, TX6, 8)) C [.int (nI j), .int (nI (bl (sh x 4) (cK σ)))] dL_act_761 m_X6_inspect k_X6_inspect tw_601 rfl rfl rfl PW_b rfl rfl (Nat.le_of_ble_eq_true rfl) ⟨by omega, by omega, by omega, by omega⟩ (p_inspect_other (i := 0) hl (by omega) hσ hj hq9 (by omega) hb3) (kr_RP (x := .int (nI (metW (cH σ j) (cS σ (bl (sh x 4) (cK σ))) (hDm (cH σ j)) (hDu (cH σ j))))) (fun tl t lo => ?_)) kx_no
        refine V_iload C dL_act_764 0 rfl ?_
        refine V_icmpn_ne (tgt := 773) C dL_act_766 (by decide) (by omega) (by omega) (fun hb4 => by exfalso; omega) (fun hb4 => ?_)
        refine V_iconst (v := nI 1) C dL_act_769 (by decide) ?_
        refine V_goto (tgt := 774) C dL_act_770 (by decide) ?_
        exact V_iret C .boolean dL_act_774 hr rfl (hq _ _ _ _ _ ⟨rfl, rfl⟩ ⟨hσ, hI0⟩ (by first | exact hn | exact Nat.le_add_left 1 _)) (by omega) (by omega)
      · skip
        refine V_aload C dL_act_751 4 rfl ?_
        refine V_callV (r := (RX7, TX7, 5)) C [] dL_act_753 m_X7_strike k_X7_strike tw_556 rfl rfl rfl (SW_h (σ := (cN σ, cK σ, cDay σ, cIns σ + nI 1, cH σ, cS σ)) hj) rfl rfl (Nat.le_of_ble_eq_true rfl) ⟨by omega, by omega, by omega, by omega⟩ (s_strikeG hl (by omega) (SW_h (σ := (cN σ, cK σ, cDay σ, cIns σ + nI 1, cH σ, cS σ)) hj)) (kr_none ?_) kx_no
        refine V_wd (w' := wset (SW 2 ad (cN σ, cK σ, cDay σ, cIns σ + nI 1, cH σ, cS σ) (PW 0 ad σ tl t lo nW)) ([2, 3, j]) (.inr (6, [.ref (ad [2, 5, j]), .int (nI (hDm (cH σ j))), .int (nI (hDu (cH σ j))), .int (-1), .int (nI 0)]))) rfl ?_
        refine V_aload_n C dL_act_756 6 rfl ?_
        refine V_iload C dL_act_757 5 rfl ?_
        refine V_iload C dL_act_759 1 rfl ?_
        refine V_wd (w' := LW ad σ (setH (cN σ, cK σ, cDay σ, cIns σ + nI 1, cH σ, cS σ) j (hSc (cH σ j), hDm (cH σ j), hDu (cH σ j), -1, 0, hSu (cH σ j))) tl t lo) ((SW_h' (σ := (cN σ, cK σ, cDay σ, cIns σ + nI 1, cH σ, cS σ)) hj).trans LW_LS.symm) ?_
        refine V_callV (r := (RX6, TX6, 8)) C [.int (nI j), .int (nI (bl (sh x 4) (cK σ)))] dL_act_761 m_X6_inspect k_X6_inspect tw_601 rfl rfl rfl PW_b rfl rfl (Nat.le_of_ble_eq_true rfl) ⟨by omega, by omega, by omega, by omega⟩ (p_inspect_same (i := 0) hl (by omega) hσ hj hq9 (by omega) hb3) (kr_RP (x := .int (nI (metW (cH σ j) (cS σ (bl (sh x 4) (cK σ))) (hDm (cH σ j)) (hDu (cH σ j))))) (fun tl t lo => ?_)) kx_no
        refine V_iload C dL_act_764 0 rfl ?_
        refine V_icmpn_ne (tgt := 773) C dL_act_766 (by decide) (by omega) (by omega) (fun hb5 => by exfalso; omega) (fun hb5 => ?_)
        refine V_iconst (v := nI 1) C dL_act_769 (by decide) ?_
        refine V_goto (tgt := 774) C dL_act_770 (by decide) ?_
        exact V_iret C .boolean dL_act_774 hr rfl (hq _ _ _ _ _ ⟨rfl, rfl⟩ ⟨cOK_set (σ := (cN σ, cK σ, cDay σ, cIns σ + nI 1, cH σ, cS σ)) hσ ⟨hu.1, hu.2.1, hu.2.2.1, Nat.zero_le _, hu.2.2.2.2⟩, cI_set (σ := (cN σ, cK σ, cDay σ, cIns σ + nI 1, cH σ, cS σ)) hI0 (Or.inl ⟨rfl, rfl⟩)⟩ (by first | exact hn | exact Nat.le_add_left 1 _)) (by omega) (by omega)
    · skip
      refine V_aload C dL_act_717 4 rfl ?_
      refine V_iload C dL_act_719 1 rfl ?_
      refine V_put (ci := 6) (k := 3) C dL_act_721 RX7 RX7 TX7 5 tyX7 tyX7_ok nmX7 fw_X7 rfl (by decide) tw_537 rfl (Or.inl rfl) rfl rfl rfl (SW_h (σ := (cN σ, cK σ, cDay σ, cIns σ + nI 1, cH σ, cS σ)) hj) (Nat.le_of_ble_eq_true rfl) ?_
      refine V_wd (w' := wset (SW 2 ad (cN σ, cK σ, cDay σ, cIns σ + nI 1, cH σ, cS σ) (PW 0 ad σ tl t lo nW)) ([2, 3, j]) (.inr (6, [.ref (ad [2, 5, j]), .int (nI (hDm (cH σ j))), .int (nI (hDu (cH σ j))), .int (nI (bl (sh x 4) (cK σ))), .int (nI (hDy (cH σ j)))]))) rfl ?_
      refine V_aload C dL_act_724 4 rfl ?_
      refine V_aload_n C dL_act_726 7 rfl ?_
      refine V_get (ci := 7) (k := 3) C dL_act_727 RX8 RX8 TX8 4 fw_X8 rfl (by decide) tw_650 rfl rfl ((wset_n (by simp)).trans (SW_b (σ := (cN σ, cK σ, cDay σ, cIns σ + nI 1, cH σ, cS σ)) )) rfl ?_
      refine V_iload C dL_act_730 1 rfl ?_
      refine V_aaldA (v := .ref (ad [2, 4, (bl (sh x 4) (cK σ))])) C dL_act_732 rfl ((wset_n (by simp)).trans (SW_rr (σ := (cN σ, cK σ, cDay σ, cIns σ + nI 1, cH σ, cS σ)) )) hq9 (by show cK σ < _; omega) (by rw [adN_lt hq9]; rfl) ?_
      refine V_iconst (v := nI 4) C dL_act_733 (by decide) ?_
      refine V_ialdn (v := (nI ((cS σ (bl (sh x 4) (cK σ))).2.2.2.2))) C dL_act_734 rfl ((wset_n (by simp)).trans (SW_d (σ := (cN σ, cK σ, cDay σ, cIns σ + nI 1, cH σ, cS σ)) hq9)) (by decide) (by decide) rfl ?_
      refine V_put (ci := 6) (k := 4) C dL_act_735 RX7 RX7 TX7 5 tyX7 tyX7_ok nmX7 fw_X7 rfl (by decide) tw_539 rfl (Or.inl rfl) rfl rfl rfl wset_s (Nat.le_of_ble_eq_true rfl) ?_
      refine V_wd (w' := wset (SW 2 ad (cN σ, cK σ, cDay σ, cIns σ + nI 1, cH σ, cS σ) (PW 0 ad σ tl t lo nW)) ([2, 3, j]) (.inr (6, [.ref (ad [2, 5, j]), .int (nI (hDm (cH σ j))), .int (nI (hDu (cH σ j))), .int (nI (bl (sh x 4) (cK σ))), .int (nI ((cS σ (bl (sh x 4) (cK σ))).2.2.2.2))]))) wset_wset ?_
      refine V_goto (tgt := 756) C dL_act_738 (by decide) ?_
      refine V_aload_n C dL_act_756 6 rfl ?_
      refine V_iload C dL_act_757 5 rfl ?_
      refine V_iload C dL_act_759 1 rfl ?_
      refine V_wd (w' := LW ad σ (setH (cN σ, cK σ, cDay σ, cIns σ + nI 1, cH σ, cS σ) j (hSc (cH σ j), hDm (cH σ j), hDu (cH σ j), nI (bl (sh x 4) (cK σ)), (cS σ (bl (sh x 4) (cK σ))).2.2.2.2, hSu (cH σ j))) tl t lo) ((SW_h' (σ := (cN σ, cK σ, cDay σ, cIns σ + nI 1, cH σ, cS σ)) hj).trans LW_LS.symm) ?_
      refine V_callV (r := (RX6, TX6, 8)) C [.int (nI j), .int (nI (bl (sh x 4) (cK σ)))] dL_act_761 m_X6_inspect k_X6_inspect tw_601 rfl rfl rfl PW_b rfl rfl (Nat.le_of_ble_eq_true rfl) ⟨by omega, by omega, by omega, by omega⟩ (p_inspect_met (i := 0) hl (by omega) hσ hj hq9 (by omega)) (kr_RP (x := .int (nI (metW (cH σ j) (cS σ (bl (sh x 4) (cK σ))) (hDm (cH σ j)) (hDu (cH σ j))))) (fun tl t lo => ?_)) kx_no
      refine V_iload C dL_act_764 0 rfl ?_
      refine V_icmpn_ne (tgt := 773) C dL_act_766 (by decide) (by omega) (by omega) (fun hb6 => by exfalso; omega) (fun hb6 => ?_)
      refine V_iconst (v := nI 1) C dL_act_769 (by decide) ?_
      refine V_goto (tgt := 774) C dL_act_770 (by decide) ?_
      exact V_iret C .boolean dL_act_774 hr rfl (hq _ _ _ _ _ ⟨rfl, rfl⟩ ⟨cOK_set (σ := (cN σ, cK σ, cDay σ, cIns σ + nI 1, cH σ, cS σ)) hσ ⟨hu.1, hu.2.1, hu.2.2.1, hs8.2, hu.2.2.2.2⟩, cI_set (σ := (cN σ, cK σ, cDay σ, cIns σ + nI 1, cH σ, cS σ)) hI0 (Or.inr ⟨(bl (sh x 4) (cK σ)), by omega, rfl, hs8.1⟩)⟩ (by first | exact hn | exact Nat.le_add_left 1 _)) (by omega) (by omega)
  · skip
    refine V_wd (w' := LW ad σ σ tl t lo) LW_LS.symm ?_
    refine V_iconst (v := nI 1) C dL_act_666 (by decide) ?_
    exact V_iret C .boolean dL_act_667 hr rfl (hq _ _ _ _ _ ⟨rfl, rfl⟩ ⟨hσ, hI0⟩ (by first | exact hn | exact Nat.le_add_left 1 _)) (by omega) (by omega)
