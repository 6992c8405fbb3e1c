set_option maxHeartbeats 4000000 in
theorem m_inspect_met {l : Launch} {D : va_G} {ba d : Nat} {ad : Adr} (hl : l.stackTraces = false) (hd : 8 ≤ d) {i : Nat} {σ : CS} {th ro : Int32} {lo ma ap : Nat → Int32} {o : Wd} (hσ : cOK σ) {j : Nat} (hj : j < cN σ) {q : Nat} (hq : q < cK σ) (hm : metW (cH σ j) (cS σ q) (hDm (cH σ j)) (hDu (cH σ j)) = 1)  : CT l yX7_inspect (wsO yX7_inspect cX7_inspect 4 (some .boolean)) d 8 64 D ba [.ref (ad [i]), .int (nI j), .int (nI q)] ad (QW i ad σ th ro lo ma ap o) (RQ i ad (setH (cN σ, cK σ, cDay σ, cIns σ + nI 1, cH σ, cS σ) j (hSc (cH σ j), hDm (cH σ j), hDu (cH σ j), nI q, (cS σ q).2.2.2.2, hSu (cH σ j))) o (nI 0) (some (.int (nI (metW (cH σ j) (cS σ q) (hDm (cH σ j)) (hDu (cH σ j))))))) noX := by
  refine CT_of RX7 rfl (by decide +kernel) hl (Nat.le_of_ble_eq_true rfl) ?_
  intro p e s m args below meth c C hr hnm
  refine V_lvE (lv' := [(0, .ref (ad [i])), (1, .int (nI j)), (2, .int (nI q))]) rfl ?_
  have hσ1 := hσ.1
  have hσ2 := hσ.2.1
  have hu := hσ.2.2.1 j hj
  have hu1 := hu.1
  have hu2 := hu.2.1
  have hu3 := hu.2.2.1
  have hu4 := hu.2.2.2.1
  have hσI : cOK (setH (cN σ, cK σ, cDay σ, cIns σ + nI 1, cH σ, cS σ) j (hSc (cH σ j), hDm (cH σ j), hDu (cH σ j), nI q, hDy (cH σ j), hSu (cH σ j))) := cOK_set (σ := (cN σ, cK σ, cDay σ, cIns σ + nI 1, cH σ, cS σ)) hσ ⟨hu.1, hu.2.1, hu.2.2.1, hu.2.2.2.1, hu.2.2.2.2⟩
  refine V_aload_n C dX7_inspect_0 0 rfl ?_
  refine V_iload_n C dX7_inspect_1 1 rfl ?_
  refine V_iload_n C dX7_inspect_2 2 rfl ?_
  refine V_callV (r := (RX7, TX7, 17)) C [.int (nI j), .int (nI q)] dX7_inspect_3 m_X7_isPair k_X7_isPair tw_774 rfl rfl rfl QW_o rfl rfl (Nat.le_of_ble_eq_true rfl) ⟨by omega, by omega, by omega, by omega⟩ (m_isPair hl (by omega) hσ hj hq) (kr_some (x := .int (nI 1)) ?_) kx_no
  refine V_ifn_ne (tgt := 11) C dX7_inspect_6 (by decide) (by decide) (fun hb1 => ?_) (fun hb1 => by exfalso; omega)
  refine V_aload_n C dX7_inspect_11 0 rfl ?_
  refine V_dup C dX7_inspect_12 rfl ?_
  refine V_get (ci := 6) (k := 4) C dX7_inspect_13 RX7 RX7 TX7 17 fw_X7 rfl (by decide) tw_672 rfl rfl QW_o rfl ?_
  refine V_iconst (v := nI 1) C dX7_inspect_16 (by decide) ?_
  refine V_iadd C dX7_inspect_17 ?_
  refine V_put (ci := 6) (k := 4) C dX7_inspect_18 RX7 RX7 TX7 17 tyX7 tyX7_ok nmX7 fw_X7 rfl (by decide) tw_672 rfl (Or.inl rfl) rfl rfl rfl QW_o (Nat.le_of_ble_eq_true rfl) ?_
  refine V_wd (w' := wset (QW i ad σ (nI 0) ro lo ma ap o) ([i]) (.inr (6, [.int (nI 0), .int (nI (cN σ)), .int (nI (cK σ)), .int (cDay σ), .int ((cIns σ) + (nI 1)), .ref (ad [i, 1]), .ref (ad [i, 2]), .ref (ad [i, 3]), .ref (ad [i, 4]), .ref (ad [i, 5]), .ref (ad [i, 6]), .ref (ad [i, 7]), .ref (ad [i, 8]), .ref (ad [i, 9]), .ref (ad [i, 10]), .ref (ad [i, 11]), .int ro]))) rfl ?_
  refine V_wd (w' := QW i ad (cN σ, cK σ, cDay σ, cIns σ + nI 1, cH σ, cS σ) (nI 0) ro lo ma ap o) QW_o' ?_
  refine V_aload_n C dX7_inspect_21 0 rfl ?_
  refine V_iload_n C dX7_inspect_22 1 rfl ?_
  refine V_iload_n C dX7_inspect_23 2 rfl ?_
  have hle24 := metW_le (cH σ j) (cS σ q) (hDm (cH σ j)) (hDu (cH σ j))
  refine V_callV (r := (RX7, TX7, 17)) C [.int (nI j), .int (nI q)] dX7_inspect_24 m_X7_meetsNow k_X7_meetsNow tw_782 rfl rfl rfl (QW_o (σ := (cN σ, cK σ, cDay σ, cIns σ + nI 1, cH σ, cS σ))) rfl rfl (Nat.le_of_ble_eq_true rfl) ⟨by omega, by omega, by omega, by omega⟩ (m_meetsNow (σ := (cN σ, cK σ, cDay σ, cIns σ + nI 1, cH σ, cS σ)) hl (by omega) hσ hj hq) (kr_RQ (x := .int (nI (metW (cH σ j) (cS σ q) (hDm (cH σ j)) (hDu (cH σ j))))) (fun ro lo ma ap => ?_)) kx_no
  refine V_istore_n C [(3, .int (nI (metW (cH σ j) (cS σ q) (hDm (cH σ j)) (hDu (cH σ j))))), (0, .ref (ad [i])), (1, .int (nI j)), (2, .int (nI q))] dX7_inspect_27 (by decide) rfl ?_
  refine V_iload_n C dX7_inspect_28 0 rfl ?_
  refine V_ifn_eq (tgt := 54) C dX7_inspect_29 (by decide) (by omega) (fun hb2 => by exfalso; omega) (fun hb2 => ?_)
  refine V_wd (w' := QW i ad (setH (cN σ, cK σ, cDay σ, cIns σ + nI 1, cH σ, cS σ) j (hSc (cH σ j), hDm (cH σ j), hDu (cH σ j), hCe (cH σ j), hDy (cH σ j), hSu (cH σ j))) (nI 0) ro lo ma ap o) (by rw [show (hSc (cH σ j), hDm (cH σ j), hDu (cH σ j), hCe (cH σ j), hDy (cH σ j), hSu (cH σ j)) = cH (cN σ, cK σ, cDay σ, cIns σ + nI 1, cH σ, cS σ) j from rfl, setH_id]) ?_
  refine V_aload_n C dX7_inspect_32 1 rfl ?_
  refine V_get (ci := 6) (k := 8) C dX7_inspect_33 RX7 RX7 TX7 17 fw_X7 rfl (by decide) tw_676 rfl rfl (QW_o (σ := (setH (cN σ, cK σ, cDay σ, cIns σ + nI 1, cH σ, cS σ) j (hSc (cH σ j), hDm (cH σ j), hDu (cH σ j), hCe (cH σ j), hDy (cH σ j), hSu (cH σ j))))) rfl ?_
  refine V_iload_n C dX7_inspect_36 2 rfl ?_
  refine V_iload_n C dX7_inspect_37 3 rfl ?_
  refine V_iastn C dX7_inspect_38 rfl (QW_4 (σ := (setH (cN σ, cK σ, cDay σ, cIns σ + nI 1, cH σ, cS σ) j (hSc (cH σ j), hDm (cH σ j), hDu (cH σ j), hCe (cH σ j), hDy (cH σ j), hSu (cH σ j))))) (by omega) (by decide) ?_
  refine V_wd (w' := wset (QW i ad (setH (cN σ, cK σ, cDay σ, cIns σ + nI 1, cH σ, cS σ) j (hSc (cH σ j), hDm (cH σ j), hDu (cH σ j), hCe (cH σ j), hDy (cH σ j), hSu (cH σ j))) (nI 0) ro lo ma ap o) ([i, 4]) (eI 8 (upd (aCe (setH (cN σ, cK σ, cDay σ, cIns σ + nI 1, cH σ, cS σ) j (hSc (cH σ j), hDm (cH σ j), hDu (cH σ j), hCe (cH σ j), hDy (cH σ j), hSu (cH σ j)))) j (nI q)))) rfl ?_
  refine V_wd (w' := QW i ad (setH (cN σ, cK σ, cDay σ, cIns σ + nI 1, cH σ, cS σ) j (hSc (cH σ j), hDm (cH σ j), hDu (cH σ j), nI q, hDy (cH σ j), hSu (cH σ j))) (nI 0) ro lo ma ap o) (QW_h4 (σ := (cN σ, cK σ, cDay σ, cIns σ + nI 1, cH σ, cS σ)) (h := (hSc (cH σ j), hDm (cH σ j), hDu (cH σ j), hCe (cH σ j), hDy (cH σ j), hSu (cH σ j))) (h' := (hSc (cH σ j), hDm (cH σ j), hDu (cH σ j), nI q, hDy (cH σ j), hSu (cH σ j))) hj rfl) ?_
  refine V_aload_n C dX7_inspect_39 1 rfl ?_
  refine V_get (ci := 6) (k := 9) C dX7_inspect_40 RX7 RX7 TX7 17 fw_X7 rfl (by decide) tw_677 rfl rfl (QW_o (σ := (setH (cN σ, cK σ, cDay σ, cIns σ + nI 1, cH σ, cS σ) j (hSc (cH σ j), hDm (cH σ j), hDu (cH σ j), nI q, hDy (cH σ j), hSu (cH σ j))))) rfl ?_
  refine V_iload_n C dX7_inspect_43 2 rfl ?_
  refine V_aload_n C dX7_inspect_44 1 rfl ?_
  refine V_iload_n C dX7_inspect_45 3 rfl ?_
  refine V_iconst (v := nI 4) C dX7_inspect_46 (by decide) ?_
  refine V_callV (r := (RX7, TX7, 17)) C [.int (nI q), .int (nI 4)] dX7_inspect_47 m_X7_rule k_X7_rule tw_807 rfl rfl rfl (QW_o (σ := (setH (cN σ, cK σ, cDay σ, cIns σ + nI 1, cH σ, cS σ) j (hSc (cH σ j), hDm (cH σ j), hDu (cH σ j), nI q, hDy (cH σ j), hSu (cH σ j))))) rfl rfl (Nat.le_of_ble_eq_true rfl) ⟨by omega, by omega, by omega, by omega⟩ (m_rule (σ := (setH (cN σ, cK σ, cDay σ, cIns σ + nI 1, cH σ, cS σ) j (hSc (cH σ j), hDm (cH σ j), hDu (cH σ j), nI q, hDy (cH σ j), hSu (cH σ j)))) hl (by omega) hσI hq (by decide)) (kr_some (x := .int (nI ((cS σ q).2.2.2.2))) ?_) kx_no
  refine V_iastn C dX7_inspect_50 rfl (QW_5 (σ := (setH (cN σ, cK σ, cDay σ, cIns σ + nI 1, cH σ, cS σ) j (hSc (cH σ j), hDm (cH σ j), hDu (cH σ j), nI q, hDy (cH σ j), hSu (cH σ j))))) (by omega) (by decide) ?_
  refine V_wd (w' := wset (QW i ad (setH (cN σ, cK σ, cDay σ, cIns σ + nI 1, cH σ, cS σ) j (hSc (cH σ j), hDm (cH σ j), hDu (cH σ j), nI q, hDy (cH σ j), hSu (cH σ j))) (nI 0) ro lo ma ap o) ([i, 5]) (eI 8 (upd (aDy (setH (cN σ, cK σ, cDay σ, cIns σ + nI 1, cH σ, cS σ) j (hSc (cH σ j), hDm (cH σ j), hDu (cH σ j), nI q, hDy (cH σ j), hSu (cH σ j)))) j (nI ((cS σ q).2.2.2.2))))) rfl ?_
  refine V_wd (w' := QW i ad (setH (cN σ, cK σ, cDay σ, cIns σ + nI 1, cH σ, cS σ) j (hSc (cH σ j), hDm (cH σ j), hDu (cH σ j), nI q, (cS σ q).2.2.2.2, hSu (cH σ j))) (nI 0) ro lo ma ap o) (QW_h5 (σ := (cN σ, cK σ, cDay σ, cIns σ + nI 1, cH σ, cS σ)) (h := (hSc (cH σ j), hDm (cH σ j), hDu (cH σ j), nI q, hDy (cH σ j), hSu (cH σ j))) (h' := (hSc (cH σ j), hDm (cH σ j), hDu (cH σ j), nI q, (cS σ q).2.2.2.2, hSu (cH σ j))) hj rfl) ?_
  refine V_goto (tgt := 69) C dX7_inspect_51 (by decide) ?_
  refine V_iload_n C dX7_inspect_69 0 rfl ?_
  exact V_iret C .boolean dX7_inspect_70 hr (by rcases (show metW (cH σ j) (cS σ q) (hDm (cH σ j)) (hDu (cH σ j)) = 0 ∨ metW (cH σ j) (cS σ q) (hDm (cH σ j)) (hDu (cH σ j)) = 1 by have := metW_le (cH σ j) (cS σ q) (hDm (cH σ j)) (hDu (cH σ j)); omega) with z | z <;> rw [z] <;> rfl) ⟨rfl, rfl, _, _, _, _, rfl⟩ (by omega) (by omega)
set_option maxHeartbeats 4000000 in
theorem m_inspect_same {l : Launch} {D : va_G} {ba d : Nat} {ad : Adr} (hl : l.stackTraces = false) (hd : 8 ≤ d) {i : Nat} {σ : CS} {th ro : Int32} {lo ma ap : Nat → Int32} {o : Wd} (hσ : cOK σ) {j : Nat} (hj : j < cN σ) {q : Nat} (hq : q < cK σ) (hm : metW (cH σ j) (cS σ q) (hDm (cH σ j)) (hDu (cH σ j)) = 0) (hc : hCe (cH σ j) = nI q)  : CT l yX7_inspect (wsO yX7_inspect cX7_inspect 4 (some .boolean)) d 8 64 D ba [.ref (ad [i]), .int (nI j), .int (nI q)] ad (QW i ad σ th ro lo ma ap o) (RQ i ad (setH (cN σ, cK σ, cDay σ, cIns σ + nI 1, cH σ, cS σ) j (hSc (cH σ j), hDm (cH σ j), hDu (cH σ j), -1, 0, hSu (cH σ j))) o (nI 0) (some (.int (nI (metW (cH σ j) (cS σ q) (hDm (cH σ j)) (hDu (cH σ j))))))) noX := by
  refine CT_of RX7 rfl (by decide +kernel) hl (Nat.le_of_ble_eq_true rfl) ?_
  intro p e s m args below meth c C hr hnm
  refine V_lvE (lv' := [(0, .ref (ad [i])), (1, .int (nI j)), (2, .int (nI q))]) rfl ?_
  have hσ1 := hσ.1
  have hσ2 := hσ.2.1
  have hu := hσ.2.2.1 j hj
  have hu1 := hu.1
  have hu2 := hu.2.1
  have hu3 := hu.2.2.1
  have hu4 := hu.2.2.2.1
  have hσI : cOK (setH (cN σ, cK σ, cDay σ, cIns σ + nI 1, cH σ, cS σ) j (hSc (cH σ j), hDm (cH σ j), hDu (cH σ j), nI q, hDy (cH σ j), hSu (cH σ j))) := cOK_set (σ := (cN σ, cK σ, cDay σ, cIns σ + nI 1, cH σ, cS σ)) hσ ⟨hu.1, hu.2.1, hu.2.2.1, hu.2.2.2.1, hu.2.2.2.2⟩
  refine V_aload_n C dX7_inspect_0 0 rfl ?_
  refine V_iload_n C dX7_inspect_1 1 rfl ?_
  refine V_iload_n C dX7_inspect_2 2 rfl ?_
  refine V_callV (r := (RX7, TX7, 17)) C [.int (nI j), .int (nI q)] dX7_inspect_3 m_X7_isPair k_X7_isPair tw_774 rfl rfl rfl QW_o rfl rfl (Nat.le_of_ble_eq_true rfl) ⟨by omega, by omega, by omega, by omega⟩ (m_isPair hl (by omega) hσ hj hq) (kr_some (x := .int (nI 1)) ?_) kx_no
  refine V_ifn_ne (tgt := 11) C dX7_inspect_6 (by decide) (by decide) (fun hb1 => ?_) (fun hb1 => by exfalso; omega)
  refine V_aload_n C dX7_inspect_11 0 rfl ?_
  refine V_dup C dX7_inspect_12 rfl ?_
  refine V_get (ci := 6) (k := 4) C dX7_inspect_13 RX7 RX7 TX7 17 fw_X7 rfl (by decide) tw_672 rfl rfl QW_o rfl ?_
  refine V_iconst (v := nI 1) C dX7_inspect_16 (by decide) ?_
  refine V_iadd C dX7_inspect_17 ?_
  refine V_put (ci := 6) (k := 4) C dX7_inspect_18 RX7 RX7 TX7 17 tyX7 tyX7_ok nmX7 fw_X7 rfl (by decide) tw_672 rfl (Or.inl rfl) rfl rfl rfl QW_o (Nat.le_of_ble_eq_true rfl) ?_
  refine V_wd (w' := wset (QW i ad σ (nI 0) ro lo ma ap o) ([i]) (.inr (6, [.int (nI 0), .int (nI (cN σ)), .int (nI (cK σ)), .int (cDay σ), .int ((cIns σ) + (nI 1)), .ref (ad [i, 1]), .ref (ad [i, 2]), .ref (ad [i, 3]), .ref (ad [i, 4]), .ref (ad [i, 5]), .ref (ad [i, 6]), .ref (ad [i, 7]), .ref (ad [i, 8]), .ref (ad [i, 9]), .ref (ad [i, 10]), .ref (ad [i, 11]), .int ro]))) rfl ?_
  refine V_wd (w' := QW i ad (cN σ, cK σ, cDay σ, cIns σ + nI 1, cH σ, cS σ) (nI 0) ro lo ma ap o) QW_o' ?_
  refine V_aload_n C dX7_inspect_21 0 rfl ?_
  refine V_iload_n C dX7_inspect_22 1 rfl ?_
  refine V_iload_n C dX7_inspect_23 2 rfl ?_
  have hle24 := metW_le (cH σ j) (cS σ q) (hDm (cH σ j)) (hDu (cH σ j))
  refine V_callV (r := (RX7, TX7, 17)) C [.int (nI j), .int (nI q)] dX7_inspect_24 m_X7_meetsNow k_X7_meetsNow tw_782 rfl rfl rfl (QW_o (σ := (cN σ, cK σ, cDay σ, cIns σ + nI 1, cH σ, cS σ))) rfl rfl (Nat.le_of_ble_eq_true rfl) ⟨by omega, by omega, by omega, by omega⟩ (m_meetsNow (σ := (cN σ, cK σ, cDay σ, cIns σ + nI 1, cH σ, cS σ)) hl (by omega) hσ hj hq) (kr_RQ (x := .int (nI (metW (cH σ j) (cS σ q) (hDm (cH σ j)) (hDu (cH σ j))))) (fun ro lo ma ap => ?_)) kx_no
  refine V_istore_n C [(3, .int (nI (metW (cH σ j) (cS σ q) (hDm (cH σ j)) (hDu (cH σ j))))), (0, .ref (ad [i])), (1, .int (nI j)), (2, .int (nI q))] dX7_inspect_27 (by decide) rfl ?_
  refine V_iload_n C dX7_inspect_28 0 rfl ?_
  refine V_ifn_eq (tgt := 54) C dX7_inspect_29 (by decide) (by omega) (fun hb2 => ?_) (fun hb2 => by exfalso; omega)
  refine V_wd (w' := QW i ad (setH (cN σ, cK σ, cDay σ, cIns σ + nI 1, cH σ, cS σ) j (hSc (cH σ j), hDm (cH σ j), hDu (cH σ j), hCe (cH σ j), hDy (cH σ j), hSu (cH σ j))) (nI 0) ro lo ma ap o) (by rw [show (hSc (cH σ j), hDm (cH σ j), hDu (cH σ j), hCe (cH σ j), hDy (cH σ j), hSu (cH σ j)) = cH (cN σ, cK σ, cDay σ, cIns σ + nI 1, cH σ, cS σ) j from rfl, setH_id]) ?_
  refine V_aload_n C dX7_inspect_54 1 rfl ?_
  refine V_get (ci := 6) (k := 8) C dX7_inspect_55 RX7 RX7 TX7 17 fw_X7 rfl (by decide) tw_676 rfl rfl (QW_o (σ := (setH (cN σ, cK σ, cDay σ, cIns σ + nI 1, cH σ, cS σ) j (hSc (cH σ j), hDm (cH σ j), hDu (cH σ j), hCe (cH σ j), hDy (cH σ j), hSu (cH σ j))))) rfl ?_
  refine V_iload_n C dX7_inspect_58 2 rfl ?_
  refine V_ialdn (v := (hCe (cH σ j))) C dX7_inspect_59 rfl (QW_4 (σ := (setH (cN σ, cK σ, cDay σ, cIns σ + nI 1, cH σ, cS σ) j (hSc (cH σ j), hDm (cH σ j), hDu (cH σ j), hCe (cH σ j), hDy (cH σ j), hSu (cH σ j))))) (by omega) (by decide) (rdh_Ce (σ := (cN σ, cK σ, cDay σ, cIns σ + nI 1, cH σ, cS σ)) hj) ?_
  refine V_iload_n C dX7_inspect_60 3 rfl ?_
  refine V_icmp_ne (tgt := 69) C dX7_inspect_61 (by decide) (fun hb3 => by exfalso; exact hb3 hc) (fun hb3 => ?_)
  refine V_aload_n C dX7_inspect_64 1 rfl ?_
  refine V_iload_n C dX7_inspect_65 2 rfl ?_
  refine V_callV (r := (RX7, TX7, 17)) C [.int (nI j)] dX7_inspect_66 m_X7_strike k_X7_strike tw_743 rfl rfl rfl (QW_o (σ := (setH (cN σ, cK σ, cDay σ, cIns σ + nI 1, cH σ, cS σ) j (hSc (cH σ j), hDm (cH σ j), hDu (cH σ j), hCe (cH σ j), hDy (cH σ j), hSu (cH σ j))))) rfl rfl (Nat.le_of_ble_eq_true rfl) ⟨by omega, by omega, by omega, by omega⟩ (m_strike (σ := (cN σ, cK σ, cDay σ, cIns σ + nI 1, cH σ, cS σ)) hl (by omega) hσ hj) (kr_none ?_) kx_no
  refine V_iload_n C dX7_inspect_69 0 rfl ?_
  exact V_iret C .boolean dX7_inspect_70 hr (by rcases (show metW (cH σ j) (cS σ q) (hDm (cH σ j)) (hDu (cH σ j)) = 0 ∨ metW (cH σ j) (cS σ q) (hDm (cH σ j)) (hDu (cH σ j)) = 1 by have := metW_le (cH σ j) (cS σ q) (hDm (cH σ j)) (hDu (cH σ j)); omega) with z | z <;> rw [z] <;> rfl) ⟨rfl, rfl, _, _, _, _, rfl⟩ (by omega) (by omega)
set_option maxHeartbeats 4000000 in
theorem m_inspect_other {l : Launch} {D : va_G} {ba d : Nat} {ad : Adr} (hl : l.stackTraces = false) (hd : 8 ≤ d) {i : Nat} {σ : CS} {th ro : Int32} {lo ma ap : Nat → Int32} {o : Wd} (hσ : cOK σ) {j : Nat} (hj : j < cN σ) {q : Nat} (hq : q < cK σ) (hm : metW (cH σ j) (cS σ q) (hDm (cH σ j)) (hDu (cH σ j)) = 0) (hc : ¬ hCe (cH σ j) = nI q)  : CT l yX7_inspect (wsO yX7_inspect cX7_inspect 4 (some .boolean)) d 8 64 D ba [.ref (ad [i]), .int (nI j), .int (nI q)] ad (QW i ad σ th ro lo ma ap o) (RQ i ad (cN σ, cK σ, cDay σ, cIns σ + nI 1, cH σ, cS σ) o (nI 0) (some (.int (nI (metW (cH σ j) (cS σ q) (hDm (cH σ j)) (hDu (cH σ j))))))) noX := by
  refine CT_of RX7 rfl (by decide +kernel) hl (Nat.le_of_ble_eq_true rfl) ?_
  intro p e s m args below meth c C hr hnm
  refine V_lvE (lv' := [(0, .ref (ad [i])), (1, .int (nI j)), (2, .int (nI q))]) rfl ?_
  have hσ1 := hσ.1
  have hσ2 := hσ.2.1
  have hu := hσ.2.2.1 j hj
  have hu1 := hu.1
  have hu2 := hu.2.1
  have hu3 := hu.2.2.1
  have hu4 := hu.2.2.2.1
  have hσI : cOK (setH (cN σ, cK σ, cDay σ, cIns σ + nI 1, cH σ, cS σ) j (hSc (cH σ j), hDm (cH σ j), hDu (cH σ j), nI q, hDy (cH σ j), hSu (cH σ j))) := cOK_set (σ := (cN σ, cK σ, cDay σ, cIns σ + nI 1, cH σ, cS σ)) hσ ⟨hu.1, hu.2.1, hu.2.2.1, hu.2.2.2.1, hu.2.2.2.2⟩
  refine V_aload_n C dX7_inspect_0 0 rfl ?_
  refine V_iload_n C dX7_inspect_1 1 rfl ?_
  refine V_iload_n C dX7_inspect_2 2 rfl ?_
  refine V_callV (r := (RX7, TX7, 17)) C [.int (nI j), .int (nI q)] dX7_inspect_3 m_X7_isPair k_X7_isPair tw_774 rfl rfl rfl QW_o rfl rfl (Nat.le_of_ble_eq_true rfl) ⟨by omega, by omega, by omega, by omega⟩ (m_isPair hl (by omega) hσ hj hq) (kr_some (x := .int (nI 1)) ?_) kx_no
  refine V_ifn_ne (tgt := 11) C dX7_inspect_6 (by decide) (by decide) (fun hb1 => ?_) (fun hb1 => by exfalso; omega)
  refine V_aload_n C dX7_inspect_11 0 rfl ?_
  refine V_dup C dX7_inspect_12 rfl ?_
  refine V_get (ci := 6) (k := 4) C dX7_inspect_13 RX7 RX7 TX7 17 fw_X7 rfl (by decide) tw_672 rfl rfl QW_o rfl ?_
  refine V_iconst (v := nI 1) C dX7_inspect_16 (by decide) ?_
  refine V_iadd C dX7_inspect_17 ?_
  refine V_put (ci := 6) (k := 4) C dX7_inspect_18 RX7 RX7 TX7 17 tyX7 tyX7_ok nmX7 fw_X7 rfl (by decide) tw_672 rfl (Or.inl rfl) rfl rfl rfl QW_o (Nat.le_of_ble_eq_true rfl) ?_
  refine V_wd (w' := wset (QW i ad σ (nI 0) ro lo ma ap o) ([i]) (.inr (6, [.int (nI 0), .int (nI (cN σ)), .int (nI (cK σ)), .int (cDay σ), .int ((cIns σ) + (nI 1)), .ref (ad [i, 1]), .ref (ad [i, 2]), .ref (ad [i, 3]), .ref (ad [i, 4]), .ref (ad [i, 5]), .ref (ad [i, 6]), .ref (ad [i, 7]), .ref (ad [i, 8]), .ref (ad [i, 9]), .ref (ad [i, 10]), .ref (ad [i, 11]), .int ro]))) rfl ?_
  refine V_wd (w' := QW i ad (cN σ, cK σ, cDay σ, cIns σ + nI 1, cH σ, cS σ) (nI 0) ro lo ma ap o) QW_o' ?_
  refine V_aload_n C dX7_inspect_21 0 rfl ?_
  refine V_iload_n C dX7_inspect_22 1 rfl ?_
  refine V_iload_n C dX7_inspect_23 2 rfl ?_
  have hle24 := metW_le (cH σ j) (cS σ q) (hDm (cH σ j)) (hDu (cH σ j))
  refine V_callV (r := (RX7, TX7, 17)) C [.int (nI j), .int (nI q)] dX7_inspect_24 m_X7_meetsNow k_X7_meetsNow tw_782 rfl rfl rfl (QW_o (σ := (cN σ, cK σ, cDay σ, cIns σ + nI 1, cH σ, cS σ))) rfl rfl (Nat.le_of_ble_eq_true rfl) ⟨by omega, by omega, by omega, by omega⟩ (m_meetsNow (σ := (cN σ, cK σ, cDay σ, cIns σ + nI 1, cH σ, cS σ)) hl (by omega) hσ hj hq) (kr_RQ (x := .int (nI (metW (cH σ j) (cS σ q) (hDm (cH σ j)) (hDu (cH σ j))))) (fun ro lo ma ap => ?_)) kx_no
  refine V_istore_n C [(3, .int (nI (metW (cH σ j) (cS σ q) (hDm (cH σ j)) (hDu (cH σ j))))), (0, .ref (ad [i])), (1, .int (nI j)), (2, .int (nI q))] dX7_inspect_27 (by decide) rfl ?_
  refine V_iload_n C dX7_inspect_28 0 rfl ?_
  refine V_ifn_eq (tgt := 54) C dX7_inspect_29 (by decide) (by omega) (fun hb2 => ?_) (fun hb2 => by exfalso; omega)
  refine V_wd (w' := QW i ad (setH (cN σ, cK σ, cDay σ, cIns σ + nI 1, cH σ, cS σ) j (hSc (cH σ j), hDm (cH σ j), hDu (cH σ j), hCe (cH σ j), hDy (cH σ j), hSu (cH σ j))) (nI 0) ro lo ma ap o) (by rw [show (hSc (cH σ j), hDm (cH σ j), hDu (cH σ j), hCe (cH σ j), hDy (cH σ j), hSu (cH σ j)) = cH (cN σ, cK σ, cDay σ, cIns σ + nI 1, cH σ, cS σ) j from rfl, setH_id]) ?_
  refine V_aload_n C dX7_inspect_54 1 rfl ?_
  refine V_get (ci := 6) (k := 8) C dX7_inspect_55 RX7 RX7 TX7 17 fw_X7 rfl (by decide) tw_676 rfl rfl (QW_o (σ := (setH (cN σ, cK σ, cDay σ, cIns σ + nI 1, cH σ, cS σ) j (hSc (cH σ j), hDm (cH σ j), hDu (cH σ j), hCe (cH σ j), hDy (cH σ j), hSu (cH σ j))))) rfl ?_
  refine V_iload_n C dX7_inspect_58 2 rfl ?_
  refine V_ialdn (v := (hCe (cH σ j))) C dX7_inspect_59 rfl (QW_4 (σ := (setH (cN σ, cK σ, cDay σ, cIns σ + nI 1, cH σ, cS σ) j (hSc (cH σ j), hDm (cH σ j), hDu (cH σ j), hCe (cH σ j), hDy (cH σ j), hSu (cH σ j))))) (by omega) (by decide) (rdh_Ce (σ := (cN σ, cK σ, cDay σ, cIns σ + nI 1, cH σ, cS σ)) hj) ?_
  refine V_iload_n C dX7_inspect_60 3 rfl ?_
  refine V_icmp_ne (tgt := 69) C dX7_inspect_61 (by decide) (fun hb3 => ?_) (fun hb3 => by exfalso; exact hc hb3)
  refine V_wd (w' := QW i ad (cN σ, cK σ, cDay σ, cIns σ + nI 1, cH σ, cS σ) (nI 0) ro lo ma ap o) (by rw [show (hSc (cH σ j), hDm (cH σ j), hDu (cH σ j), hCe (cH σ j), hDy (cH σ j), hSu (cH σ j)) = cH (cN σ, cK σ, cDay σ, cIns σ + nI 1, cH σ, cS σ) j from rfl, setH_id]) ?_
  refine V_iload_n C dX7_inspect_69 0 rfl ?_
  exact V_iret C .boolean dX7_inspect_70 hr (by rcases (show metW (cH σ j) (cS σ q) (hDm (cH σ j)) (hDu (cH σ j)) = 0 ∨ metW (cH σ j) (cS σ q) (hDm (cH σ j)) (hDu (cH σ j)) = 1 by have := metW_le (cH σ j) (cS σ q) (hDm (cH σ j)) (hDu (cH σ j)); omega) with z | z <;> rw [z] <;> rfl) ⟨rfl, rfl, _, _, _, _, rfl⟩ (by omega) (by omega)
set_option maxHeartbeats 4000000 in
theorem m_inspect_no {l : Launch} {D : va_G} {ba d : Nat} {ad : Adr} (hl : l.stackTraces = false) (hd : 8 ≤ d) {i : Nat} {σ : CS} {th ro : Int32} {lo ma ap : Nat → Int32} {o : Wd} (hσ : cOK σ) {x : Int32} (hx : ∀ j, j < cN σ → x ≠ nI j) (y : Int32)  : CT l yX7_inspect (wsO yX7_inspect cX7_inspect 4 (some .boolean)) d 8 64 D ba [.ref (ad [i]), .int x, .int y] ad (QW i ad σ th ro lo ma ap o) (RQ i ad σ o (nI 1) (some (.int (nI 0)))) noX := by
  refine CT_of RX7 rfl (by decide +kernel) hl (Nat.le_of_ble_eq_true rfl) ?_
  intro p e s m args below meth c C hr hnm
  refine V_lvE (lv' := [(0, .ref (ad [i])), (1, .int x), (2, .int y)]) rfl ?_
  have hσ1 := hσ.1
  have hσ2 := hσ.2.1
  refine V_aload_n C dX7_inspect_0 0 rfl ?_
  refine V_iload_n C dX7_inspect_1 1 rfl ?_
  refine V_iload_n C dX7_inspect_2 2 rfl ?_
  refine V_callV (r := (RX7, TX7, 17)) C [.int x, .int y] dX7_inspect_3 m_X7_isPair k_X7_isPair tw_774 rfl rfl rfl QW_o rfl rfl (Nat.le_of_ble_eq_true rfl) ⟨by omega, by omega, by omega, by omega⟩ (m_isPair_no hl (by omega) hσ hx y) (kr_some (x := .int (nI 0)) ?_) kx_no
  refine V_ifn_ne (tgt := 11) C dX7_inspect_6 (by decide) (by decide) (fun hb1 => by exfalso; omega) (fun hb1 => ?_)
  refine V_iconst (v := nI 0) C dX7_inspect_9 (by decide) ?_
  exact V_iret C .boolean dX7_inspect_10 hr rfl ⟨rfl, rfl, _, _, _, _, rfl⟩ (by omega) (by omega)
set_option maxHeartbeats 4000000 in
theorem m_inspect_no2 {l : Launch} {D : va_G} {ba d : Nat} {ad : Adr} (hl : l.stackTraces = false) (hd : 8 ≤ d) {i : Nat} {σ : CS} {th ro : Int32} {lo ma ap : Nat → Int32} {o : Wd} (hσ : cOK σ) {j : Nat} (hj : j < cN σ) {x2 : Int32} (hx2 : ∀ j, j < cK σ → x2 ≠ nI j)  : CT l yX7_inspect (wsO yX7_inspect cX7_inspect 4 (some .boolean)) d 8 64 D ba [.ref (ad [i]), .int (nI j), .int x2] ad (QW i ad σ th ro lo ma ap o) (RQ i ad σ o (nI 1) (some (.int (nI 0)))) noX := by
  refine CT_of RX7 rfl (by decide +kernel) hl (Nat.le_of_ble_eq_true rfl) ?_
  intro p e s m args below meth c C hr hnm
  refine V_lvE (lv' := [(0, .ref (ad [i])), (1, .int (nI j)), (2, .int x2)]) rfl ?_
  have hσ1 := hσ.1
  have hσ2 := hσ.2.1
  refine V_aload_n C dX7_inspect_0 0 rfl ?_
  refine V_iload_n C dX7_inspect_1 1 rfl ?_
  refine V_iload_n C dX7_inspect_2 2 rfl ?_
  refine V_callV (r := (RX7, TX7, 17)) C [.int (nI j), .int x2] dX7_inspect_3 m_X7_isPair k_X7_isPair tw_774 rfl rfl rfl QW_o rfl rfl (Nat.le_of_ble_eq_true rfl) ⟨by omega, by omega, by omega, by omega⟩ (m_isPair_no2 hl (by omega) hσ hj hx2) (kr_some (x := .int (nI 0)) ?_) kx_no
  refine V_ifn_ne (tgt := 11) C dX7_inspect_6 (by decide) (by decide) (fun hb1 => by exfalso; omega) (fun hb1 => ?_)
  refine V_iconst (v := nI 0) C dX7_inspect_9 (by decide) ?_
  exact V_iret C .boolean dX7_inspect_10 hr rfl ⟨rfl, rfl, _, _, _, _, rfl⟩ (by omega) (by omega)
set_option maxHeartbeats 4000000 in
theorem lp_mmean {p : Program} {l : Launch} {e : Env} {s : State} {m : MethodId} {args : Array Value} {below : List Frame} {meth : Method} {c : Code} {D : va_G} {ba d mc ms : Nat} {ad : Adr} {QR : Option Value → Adr → Wd → Prop} {QX : String → Adr → Wd → Prop} (C : Cx p l s m args meth c D ba RX7 cX7_meanDamping 3 [] d) (hl : l.stackTraces = false) (hr : meth.sig.returnType = (some .double)) (hd : 2 ≤ d) {i : Nat} {σ : CS} {ro : Int32} {lo ma ap : Nat → Int32} {o : Wd} (hσ : cOK σ) (h1 : 0 < cN σ) (hq : QR (some (.double (FP.ddiv (FP.i2d (nI (sumD (cH σ) (cN σ)))) (FP.i2d (nI (cN σ)))))) ad (QW i ad σ (nI 0) ro lo ma ap o))  : ∀ (n : Nat) (k : Nat), k + n = cN σ → V p l e s m args below meth c D ba d mc ms (MO D ba QR QX below args s mc ms) 3 ad (QW i ad σ (nI 0) ro lo ma ap o) 9 [(2, .int (nI k)), (1, .int (nI (sumD (cH σ) k))), (0, .ref (ad [i]))] [] 0 0 := by
  intro n
  induction n with
  | zero =>
    intro k hk
    have hσ1 := hσ.1
    refine V_iload_n C dX7_meanDamping_9 0 rfl ?_
    refine V_aload_n C dX7_meanDamping_10 2 rfl ?_
    refine V_get (ci := 6) (k := 1) C dX7_meanDamping_11 RX7 RX7 TX7 17 fw_X7 rfl (by decide) tw_669 rfl rfl QW_o rfl ?_
    refine V_icmpn_ge (tgt := 32) C dX7_meanDamping_14 (by decide) (by omega) (by omega) (fun hb1 => ?_) (fun hb1 => by exfalso; omega)
    rw [show k = cN σ by omega]
    have hsd := sumD_le hσ (cN σ) (Nat.le_refl _)
    refine V_aload_n C dX7_meanDamping_32 2 rfl ?_
    refine V_get (ci := 6) (k := 1) C dX7_meanDamping_33 RX7 RX7 TX7 17 fw_X7 rfl (by decide) tw_669 rfl rfl QW_o rfl ?_
    refine V_ifn_ne (tgt := 43) C dX7_meanDamping_36 (by decide) (by omega) (fun hb2 => ?_) (fun hb2 => by exfalso; omega)
    refine V_iload_n C dX7_meanDamping_43 1 rfl ?_
    refine V_i2d C dX7_meanDamping_44 ?_
    refine V_aload_n C dX7_meanDamping_45 2 rfl ?_
    refine V_get (ci := 6) (k := 1) C dX7_meanDamping_46 RX7 RX7 TX7 17 fw_X7 rfl (by decide) tw_669 rfl rfl QW_o rfl ?_
    refine V_i2d C dX7_meanDamping_49 ?_
    refine V_ddiv C dX7_meanDamping_50 (by exact mean_ok (by omega) h1 hσ1) ?_
    exact V_dret C dX7_meanDamping_51 hr hq (by omega) (by omega)
  | succ n ih =>
    intro k hk
    have hσ1 := hσ.1
    have hks : k < cN σ := by omega
    refine V_iload_n C dX7_meanDamping_9 0 rfl ?_
    refine V_aload_n C dX7_meanDamping_10 2 rfl ?_
    refine V_get (ci := 6) (k := 1) C dX7_meanDamping_11 RX7 RX7 TX7 17 fw_X7 rfl (by decide) tw_669 rfl rfl QW_o rfl ?_
    refine V_icmpn_ge (tgt := 32) C dX7_meanDamping_14 (by decide) (by omega) (by omega) (fun hb1 => by exfalso; omega) (fun hb1 => ?_)
    refine V_iload_n C dX7_meanDamping_17 1 rfl ?_
    refine V_aload_n C dX7_meanDamping_18 2 rfl ?_
    refine V_get (ci := 6) (k := 6) C dX7_meanDamping_19 RX7 RX7 TX7 17 fw_X7 rfl (by decide) tw_674 rfl rfl QW_o rfl ?_
    refine V_iload_n C dX7_meanDamping_22 0 rfl ?_
    refine V_ialdn (v := (nI (hDm (cH σ k)))) C dX7_meanDamping_23 rfl QW_2 (by omega) (by decide) (row0_in hks) ?_
    refine V_iaddn C dX7_meanDamping_24 ?_
    refine V_istore_n C [(1, .int (nI ((sumD (cH σ) k) + (hDm (cH σ k))))), (2, .int (nI k)), (0, .ref (ad [i]))] dX7_meanDamping_25 (by decide) rfl ?_
    refine V_iincn C [(2, .int (nI (k + 1))), (1, .int (nI ((sumD (cH σ) k) + (hDm (cH σ k))))), (0, .ref (ad [i]))] dX7_meanDamping_26 1 rfl (by decide) rfl ?_
    refine V_goto (tgt := 9) C dX7_meanDamping_29 (by decide) ?_
    rw [show (sumD (cH σ) k) + (hDm (cH σ k)) = sumD (cH σ) (k + 1) from rfl]
    refine V_lv [0, 1, 2] rfl ?_
    exact ih (k + 1) (by omega)
set_option maxHeartbeats 4000000 in
theorem m_mean {l : Launch} {D : va_G} {ba d : Nat} {ad : Adr} (hl : l.stackTraces = false) (hd : 4 ≤ d) {i : Nat} {σ : CS} {th ro : Int32} {lo ma ap : Nat → Int32} {o : Wd} (hσ : cOK σ) (h1 : 0 < cN σ)  : CT l yX7_meanDamping (wsO yX7_meanDamping cX7_meanDamping 3 (some .double)) d 8 64 D ba [.ref (ad [i])] ad (QW i ad σ th ro lo ma ap o) (RQ i ad σ o (nI 0) (some (.double (FP.ddiv (FP.i2d (nI (sumD (cH σ) (cN σ)))) (FP.i2d (nI (cN σ))))))) noX := by
  refine CT_of RX7 rfl (by decide +kernel) hl (Nat.le_of_ble_eq_true rfl) ?_
  intro p e s m args below meth c C hr hnm
  refine V_lvE (lv' := [(0, .ref (ad [i]))]) rfl ?_
  have hσ1 := hσ.1
  have hσ2 := hσ.2.1
  refine V_aload_n C dX7_meanDamping_0 0 rfl ?_
  refine V_iconst (v := nI 0) C dX7_meanDamping_1 (by decide) ?_
  refine V_put (ci := 6) (k := 0) C dX7_meanDamping_2 RX7 RX7 TX7 17 tyX7 tyX7_ok nmX7 fw_X7 rfl (by decide) tw_668 rfl (Or.inl rfl) rfl rfl rfl QW_o (Nat.le_of_ble_eq_true rfl) ?_
  refine V_wd (w' := wset (QW i ad σ th ro lo ma ap o) ([i]) (.inr (6, [.int (nI 0), .int (nI (cN σ)), .int (nI (cK σ)), .int (cDay σ), .int (cIns σ), .ref (ad [i, 1]), .ref (ad [i, 2]), .ref (ad [i, 3]), .ref (ad [i, 4]), .ref (ad [i, 5]), .ref (ad [i, 6]), .ref (ad [i, 7]), .ref (ad [i, 8]), .ref (ad [i, 9]), .ref (ad [i, 10]), .ref (ad [i, 11]), .int ro]))) rfl ?_
  refine V_wd (w' := QW i ad σ (nI 0) ro lo ma ap o) QW_th ?_
  refine V_iconst (v := nI 0) C dX7_meanDamping_5 (by decide) ?_
  refine V_istore_n C [(1, .int (nI 0)), (0, .ref (ad [i]))] dX7_meanDamping_6 (by decide) rfl ?_
  refine V_iconst (v := nI 0) C dX7_meanDamping_7 (by decide) ?_
  refine V_istore_n C [(2, .int (nI 0)), (1, .int (nI 0)), (0, .ref (ad [i]))] dX7_meanDamping_8 (by decide) rfl ?_
  refine V_lv [0, 1, 2] rfl ?_
  exact lp_mmean C hl hr (by omega) hσ h1 ⟨rfl, rfl, _, _, _, _, rfl⟩ (cN σ) 0 (by omega)
set_option maxHeartbeats 4000000 in
theorem lp_mmean0 {p : Program} {l : Launch} {e : Env} {s : State} {m : MethodId} {args : Array Value} {below : List Frame} {meth : Method} {c : Code} {D : va_G} {ba d mc ms : Nat} {ad : Adr} {QR : Option Value → Adr → Wd → Prop} {QX : String → Adr → Wd → Prop} (C : Cx p l s m args meth c D ba RX7 cX7_meanDamping 3 [] d) (hl : l.stackTraces = false) (hr : meth.sig.returnType = (some .double)) (hd : 2 ≤ d) {i : Nat} {σ : CS} {ro : Int32} {lo ma ap : Nat → Int32} {o : Wd} (hσ : cOK σ) (h1 : cN σ = 0) (hq : QR (some (.double (FP.dconst0))) ad (QW i ad σ (nI 0) ro lo ma ap o))  : ∀ (n : Nat) (k : Nat), k + n = cN σ → V p l e s m args below meth c D ba d mc ms (MO D ba QR QX below args s mc ms) 3 ad (QW i ad σ (nI 0) ro lo ma ap o) 9 [(2, .int (nI k)), (1, .int (nI (sumD (cH σ) k))), (0, .ref (ad [i]))] [] 0 0 := by
  intro n
  induction n with
  | zero =>
    intro k hk
    have hσ1 := hσ.1
    refine V_iload_n C dX7_meanDamping_9 0 rfl ?_
    refine V_aload_n C dX7_meanDamping_10 2 rfl ?_
    refine V_get (ci := 6) (k := 1) C dX7_meanDamping_11 RX7 RX7 TX7 17 fw_X7 rfl (by decide) tw_669 rfl rfl QW_o rfl ?_
    refine V_icmpn_ge (tgt := 32) C dX7_meanDamping_14 (by decide) (by omega) (by omega) (fun hb1 => ?_) (fun hb1 => by exfalso; omega)
    rw [show k = cN σ by omega]
    have hsd := sumD_le hσ (cN σ) (Nat.le_refl _)
    refine V_aload_n C dX7_meanDamping_32 2 rfl ?_
    refine V_get (ci := 6) (k := 1) C dX7_meanDamping_33 RX7 RX7 TX7 17 fw_X7 rfl (by decide) tw_669 rfl rfl QW_o rfl ?_
    refine V_ifn_ne (tgt := 43) C dX7_meanDamping_36 (by decide) (by omega) (fun hb2 => by exfalso; omega) (fun hb2 => ?_)
    refine V_dconst0 C dX7_meanDamping_39 ?_
    refine V_goto (tgt := 51) C dX7_meanDamping_40 (by decide) ?_
    exact V_dret C dX7_meanDamping_51 hr hq (by omega) (by omega)
  | succ n ih =>
    intro k hk
    have hσ1 := hσ.1
    have hks : k < cN σ := by omega
    refine V_iload_n C dX7_meanDamping_9 0 rfl ?_
    refine V_aload_n C dX7_meanDamping_10 2 rfl ?_
    refine V_get (ci := 6) (k := 1) C dX7_meanDamping_11 RX7 RX7 TX7 17 fw_X7 rfl (by decide) tw_669 rfl rfl QW_o rfl ?_
    refine V_icmpn_ge (tgt := 32) C dX7_meanDamping_14 (by decide) (by omega) (by omega) (fun hb1 => by exfalso; omega) (fun hb1 => ?_)
    refine V_iload_n C dX7_meanDamping_17 1 rfl ?_
    refine V_aload_n C dX7_meanDamping_18 2 rfl ?_
    refine V_get (ci := 6) (k := 6) C dX7_meanDamping_19 RX7 RX7 TX7 17 fw_X7 rfl (by decide) tw_674 rfl rfl QW_o rfl ?_
    refine V_iload_n C dX7_meanDamping_22 0 rfl ?_
    refine V_ialdn (v := (nI (hDm (cH σ k)))) C dX7_meanDamping_23 rfl QW_2 (by omega) (by decide) (row0_in hks) ?_
    refine V_iaddn C dX7_meanDamping_24 ?_
    refine V_istore_n C [(1, .int (nI ((sumD (cH σ) k) + (hDm (cH σ k))))), (2, .int (nI k)), (0, .ref (ad [i]))] dX7_meanDamping_25 (by decide) rfl ?_
    refine V_iincn C [(2, .int (nI (k + 1))), (1, .int (nI ((sumD (cH σ) k) + (hDm (cH σ k))))), (0, .ref (ad [i]))] dX7_meanDamping_26 1 rfl (by decide) rfl ?_
    refine V_goto (tgt := 9) C dX7_meanDamping_29 (by decide) ?_
    rw [show (sumD (cH σ) k) + (hDm (cH σ k)) = sumD (cH σ) (k + 1) from rfl]
    refine V_lv [0, 1, 2] rfl ?_
    exact ih (k + 1) (by omega)
set_option maxHeartbeats 4000000 in
theorem m_mean0 {l : Launch} {D : va_G} {ba d : Nat} {ad : Adr} (hl : l.stackTraces = false) (hd : 4 ≤ d) {i : Nat} {σ : CS} {th ro : Int32} {lo ma ap : Nat → Int32} {o : Wd} (hσ : cOK σ) (h1 : cN σ = 0)  : CT l yX7_meanDamping (wsO yX7_meanDamping cX7_meanDamping 3 (some .double)) d 8 64 D ba [.ref (ad [i])] ad (QW i ad σ th ro lo ma ap o) (RQ i ad σ o (nI 0) (some (.double FP.dconst0))) noX := by
  refine CT_of RX7 rfl (by decide +kernel) hl (Nat.le_of_ble_eq_true rfl) ?_
  intro p e s m args below meth c C hr hnm
  refine V_lvE (lv' := [(0, .ref (ad [i]))]) rfl ?_
  have hσ1 := hσ.1
  have hσ2 := hσ.2.1
  refine V_aload_n C dX7_meanDamping_0 0 rfl ?_
  refine V_iconst (v := nI 0) C dX7_meanDamping_1 (by decide) ?_
  refine V_put (ci := 6) (k := 0) C dX7_meanDamping_2 RX7 RX7 TX7 17 tyX7 tyX7_ok nmX7 fw_X7 rfl (by decide) tw_668 rfl (Or.inl rfl) rfl rfl rfl QW_o (Nat.le_of_ble_eq_true rfl) ?_
  refine V_wd (w' := wset (QW i ad σ th ro lo ma ap o) ([i]) (.inr (6, [.int (nI 0), .int (nI (cN σ)), .int (nI (cK σ)), .int (cDay σ), .int (cIns σ), .ref (ad [i, 1]), .ref (ad [i, 2]), .ref (ad [i, 3]), .ref (ad [i, 4]), .ref (ad [i, 5]), .ref (ad [i, 6]), .ref (ad [i, 7]), .ref (ad [i, 8]), .ref (ad [i, 9]), .ref (ad [i, 10]), .ref (ad [i, 11]), .int ro]))) rfl ?_
  refine V_wd (w' := QW i ad σ (nI 0) ro lo ma ap o) QW_th ?_
  refine V_iconst (v := nI 0) C dX7_meanDamping_5 (by decide) ?_
  refine V_istore_n C [(1, .int (nI 0)), (0, .ref (ad [i]))] dX7_meanDamping_6 (by decide) rfl ?_
  refine V_iconst (v := nI 0) C dX7_meanDamping_7 (by decide) ?_
  refine V_istore_n C [(2, .int (nI 0)), (1, .int (nI 0)), (0, .ref (ad [i]))] dX7_meanDamping_8 (by decide) rfl ?_
  refine V_lv [0, 1, 2] rfl ?_
  exact lp_mmean0 C hl hr (by omega) hσ h1 ⟨rfl, rfl, _, _, _, _, rfl⟩ (cN σ) 0 (by omega)
/-- the reference's search: halls k .. k + n - 1, the best so far and its damping -/
def esF (s : StdS) (H : Nat → HallS) : Nat → Nat → Int32 → Int32 → Int32
  | 0, _, b, _ => b
  | n + 1, k, b, f => let a := fstF (fun v => metW (H k) s v (hDu (H k))) 91 0; if a = -1 then esF s H n (k + 1) b f else if a < f then esF s H n (k + 1) (nI k) a else esF s H n (k + 1) b f
theorem esF_s {s : StdS} {H : Nat → HallS} {n k : Nat} {b f : Int32} : esF s H (n + 1) k b f = if fstF (fun v => metW (H k) s v (hDu (H k))) 91 0 = -1 then esF s H n (k + 1) b f else if fstF (fun v => metW (H k) s v (hDu (H k))) 91 0 < f then esF s H n (k + 1) (nI k) (fstF (fun v => metW (H k) s v (hDu (H k))) 91 0) else esF s H n (k + 1) b f := rfl
set_option maxHeartbeats 4000000 in
theorem lp_es {p : Program} {l : Launch} {e : Env} {s : State} {m : MethodId} {args : Array Value} {below : List Frame} {meth : Method} {c : Code} {D : va_G} {ba d mc ms : Nat} {ad : Adr} {QR : Option Value → Adr → Wd → Prop} {QX : String → Adr → Wd → Prop} (C : Cx p l s m args meth c D ba RX7 cX7_easiestHall 6 [] d) (hl : l.stackTraces = false) (hr : meth.sig.returnType = (some .int)) (hd : 8 ≤ d) {i : Nat} {σ : CS} {o : Wd} (hσ : cOK σ) {q : Nat} (hq : q < cK σ)  : ∀ (n : Nat) (k : Nat) (b f ro : Int32) (lo ma ap : Nat → Int32), k + n = cN σ → (∀ ro lo ma ap, QR (some (.int (esF (cS σ q) (cH σ) n k b f))) ad (QW i ad σ (nI 0) ro lo ma ap o)) → V p l e s m args below meth c D ba d mc ms (MO D ba QR QX below args s mc ms) 6 ad (QW i ad σ (nI 0) ro lo ma ap o) 27 [(4, .int (nI k)), (3, .int f), (2, .int b), (0, .ref (ad [i])), (1, .int (nI q))] [] 0 0 := by
  intro n
  induction n with
  | zero =>
    intro k b f ro lo ma ap hk hq1
    have hσ1 := hσ.1
    refine V_iload C dX7_easiestHall_27 0 rfl ?_
    refine V_aload_n C dX7_easiestHall_29 3 rfl ?_
    refine V_get (ci := 6) (k := 1) C dX7_easiestHall_30 RX7 RX7 TX7 17 fw_X7 rfl (by decide) tw_669 rfl rfl QW_o rfl ?_
    refine V_icmpn_ge (tgt := 72) C dX7_easiestHall_33 (by decide) (by omega) (by omega) (fun hb1 => ?_) (fun hb1 => by exfalso; omega)
    refine V_iload_n C dX7_easiestHall_72 2 rfl ?_
    exact V_iret C .int dX7_easiestHall_73 hr rfl (hq1 _ _ _ _) (by omega) (by omega)
  | succ n ih =>
    intro k b f ro lo ma ap hk hq1
    have hσ1 := hσ.1
    have hks : k < cN σ := by omega
    refine V_iload C dX7_easiestHall_27 0 rfl ?_
    refine V_aload_n C dX7_easiestHall_29 3 rfl ?_
    refine V_get (ci := 6) (k := 1) C dX7_easiestHall_30 RX7 RX7 TX7 17 fw_X7 rfl (by decide) tw_669 rfl rfl QW_o rfl ?_
    refine V_icmpn_ge (tgt := 72) C dX7_easiestHall_33 (by decide) (by omega) (by omega) (fun hb1 => by exfalso; omega) (fun hb1 => ?_)
    refine V_aload_n C dX7_easiestHall_36 3 rfl ?_
    refine V_iload C dX7_easiestHall_37 0 rfl ?_
    refine V_iload_n C dX7_easiestHall_39 4 rfl ?_
    refine V_callV (r := (RX7, TX7, 17)) C [.int (nI k), .int (nI q)] dX7_easiestHall_40 m_X7_least k_X7_least tw_944 rfl rfl rfl QW_o rfl rfl (Nat.le_of_ble_eq_true rfl) ⟨by omega, by omega, by omega, by omega⟩ (m_least hl (by omega) hσ hks hq) (kr_RQ (x := .int (fstF (fun v => metW (cH σ k) (cS σ q) v (hDu (cH σ k))) 91 0)) (fun ro lo ma ap => ?_)) kx_no
    refine V_istore C [(5, .int (fstF (fun v => metW (cH σ k) (cS σ q) v (hDu (cH σ k))) 91 0)), (4, .int (nI k)), (3, .int f), (2, .int b), (0, .ref (ad [i])), (1, .int (nI q))] dX7_easiestHall_43 (by decide) rfl ?_
    refine V_iload C dX7_easiestHall_45 0 rfl ?_
    refine V_iconst (v := -1) C dX7_easiestHall_47 (by decide) ?_
    refine V_icmp_eq (tgt := 66) C dX7_easiestHall_48 (by decide) (fun hb2 => ?_) (fun hb2 => ?_)
    · skip
      refine V_iincn C [(4, .int (nI (k + 1))), (5, .int (fstF (fun v => metW (cH σ k) (cS σ q) v (hDu (cH σ k))) 91 0)), (3, .int f), (2, .int b), (0, .ref (ad [i])), (1, .int (nI q))] dX7_easiestHall_66 1 rfl (by decide) rfl ?_
      refine V_goto (tgt := 27) C dX7_easiestHall_69 (by decide) ?_
      refine V_lv [0, 2, 3, 4, 5] rfl ?_
      exact ih (k + 1) b f _ _ _ _ (by omega) (by rw [esF_s, if_pos hb2] at hq1; exact hq1)
    · skip
      refine V_iload C dX7_easiestHall_51 0 rfl ?_
      refine V_iload_n C dX7_easiestHall_53 2 rfl ?_
      refine V_icmp_lt (tgt := 60) C dX7_easiestHall_54 (by decide) (fun hb3 => ?_) (fun hb3 => ?_)
      · skip
        refine V_iload C dX7_easiestHall_60 1 rfl ?_
        refine V_istore_n C [(2, .int (nI k)), (5, .int (fstF (fun v => metW (cH σ k) (cS σ q) v (hDu (cH σ k))) 91 0)), (4, .int (nI k)), (3, .int f), (0, .ref (ad [i])), (1, .int (nI q))] dX7_easiestHall_62 (by decide) rfl ?_
        refine V_iload C dX7_easiestHall_63 1 rfl ?_
        refine V_istore_n C [(3, .int (fstF (fun v => metW (cH σ k) (cS σ q) v (hDu (cH σ k))) 91 0)), (2, .int (nI k)), (5, .int (fstF (fun v => metW (cH σ k) (cS σ q) v (hDu (cH σ k))) 91 0)), (4, .int (nI k)), (0, .ref (ad [i])), (1, .int (nI q))] dX7_easiestHall_65 (by decide) rfl ?_
        refine V_iincn C [(4, .int (nI (k + 1))), (3, .int (fstF (fun v => metW (cH σ k) (cS σ q) v (hDu (cH σ k))) 91 0)), (2, .int (nI k)), (5, .int (fstF (fun v => metW (cH σ k) (cS σ q) v (hDu (cH σ k))) 91 0)), (0, .ref (ad [i])), (1, .int (nI q))] dX7_easiestHall_66 3 rfl (by decide) rfl ?_
        refine V_goto (tgt := 27) C dX7_easiestHall_69 (by decide) ?_
        refine V_lv [0, 1, 2, 4, 5] rfl ?_
        exact ih (k + 1) (nI k) (fstF (fun v => metW (cH σ k) (cS σ q) v (hDu (cH σ k))) 91 0) _ _ _ _ (by omega) (by rw [esF_s, if_neg hb2, if_pos hb3] at hq1; exact hq1)
      · skip
        refine V_goto (tgt := 66) C dX7_easiestHall_57 (by decide) ?_
        refine V_iincn C [(4, .int (nI (k + 1))), (5, .int (fstF (fun v => metW (cH σ k) (cS σ q) v (hDu (cH σ k))) 91 0)), (3, .int f), (2, .int b), (0, .ref (ad [i])), (1, .int (nI q))] dX7_easiestHall_66 1 rfl (by decide) rfl ?_
        refine V_goto (tgt := 27) C dX7_easiestHall_69 (by decide) ?_
        refine V_lv [0, 2, 3, 4, 5] rfl ?_
        exact ih (k + 1) b f _ _ _ _ (by omega) (by rw [esF_s, if_neg hb2, if_neg hb3] at hq1; exact hq1)
set_option maxHeartbeats 4000000 in
theorem m_easiest0 {l : Launch} {D : va_G} {ba d : Nat} {ad : Adr} (hl : l.stackTraces = false) (hd : 9 ≤ d) {i : Nat} {σ : CS} {th ro : Int32} {lo ma ap : Nat → Int32} {o : Wd} (hσ : cOK σ) {q : Nat} (hq : q < cK σ)  : CT l yX7_easiestHall (wsO yX7_easiestHall cX7_easiestHall 6 (some .int)) d 8 64 D ba [.ref (ad [i]), .int (nI q)] ad (QW i ad σ th ro lo ma ap o) (RQ i ad σ o (nI 0) (some (.int (esF (cS σ q) (cH σ) (cN σ) 0 (-1) (nI 91))))) noX := by
  refine CT_of RX7 rfl (by decide +kernel) hl (Nat.le_of_ble_eq_true rfl) ?_
  intro p e s m args below meth c C hr hnm
  refine V_lvE (lv' := [(0, .ref (ad [i])), (1, .int (nI q))]) rfl ?_
  have hσ1 := hσ.1
  have hσ2 := hσ.2.1
  refine V_aload_n C dX7_easiestHall_0 0 rfl ?_
  refine V_iconst (v := nI 0) C dX7_easiestHall_1 (by decide) ?_
  refine V_put (ci := 6) (k := 0) C dX7_easiestHall_2 RX7 RX7 TX7 17 tyX7 tyX7_ok nmX7 fw_X7 rfl (by decide) tw_668 rfl (Or.inl rfl) rfl rfl rfl QW_o (Nat.le_of_ble_eq_true rfl) ?_
  refine V_wd (w' := wset (QW i ad σ th ro lo ma ap o) ([i]) (.inr (6, [.int (nI 0), .int (nI (cN σ)), .int (nI (cK σ)), .int (cDay σ), .int (cIns σ), .ref (ad [i, 1]), .ref (ad [i, 2]), .ref (ad [i, 3]), .ref (ad [i, 4]), .ref (ad [i, 5]), .ref (ad [i, 6]), .ref (ad [i, 7]), .ref (ad [i, 8]), .ref (ad [i, 9]), .ref (ad [i, 10]), .ref (ad [i, 11]), .int ro]))) rfl ?_
  refine V_wd (w' := QW i ad σ (nI 0) ro lo ma ap o) QW_th ?_
  refine V_aload_n C dX7_easiestHall_5 0 rfl ?_
  refine V_iload_n C dX7_easiestHall_6 1 rfl ?_
  refine V_callV (r := (RX7, TX7, 17)) C [.int (nI q)] dX7_easiestHall_7 m_X7_isStandard k_X7_isStandard tw_778 rfl rfl rfl QW_o rfl rfl (Nat.le_of_ble_eq_true rfl) ⟨by omega, by omega, by omega, by omega⟩ (m_isStd hl (by omega) hσ hq) (kr_some (x := .int (nI 1)) ?_) kx_no
  refine V_ifn_ne (tgt := 19) C dX7_easiestHall_10 (by decide) (by decide) (fun hb1 => ?_) (fun hb1 => by exfalso; omega)
  refine V_iconst (v := -1) C dX7_easiestHall_19 (by decide) ?_
  refine V_istore_n C [(2, .int (-1)), (0, .ref (ad [i])), (1, .int (nI q))] dX7_easiestHall_20 (by decide) rfl ?_
  refine V_bipush (v := nI 91) C dX7_easiestHall_21 (by decide) ?_
  refine V_istore_n C [(3, .int (nI 91)), (2, .int (-1)), (0, .ref (ad [i])), (1, .int (nI q))] dX7_easiestHall_23 (by decide) rfl ?_
  refine V_iconst (v := nI 0) C dX7_easiestHall_24 (by decide) ?_
  refine V_istore C [(4, .int (nI 0)), (3, .int (nI 91)), (2, .int (-1)), (0, .ref (ad [i])), (1, .int (nI q))] dX7_easiestHall_25 (by decide) rfl ?_
  refine V_lv [0, 1, 2, 3, 4] rfl ?_
  exact lp_es C hl hr (by omega) hσ hq (cN σ) 0 _ _ _ _ _ _ (by omega) (fun _ _ _ _ => ⟨rfl, rfl, _, _, _, _, rfl⟩)
set_option maxHeartbeats 4000000 in
theorem m_easiest_no {l : Launch} {D : va_G} {ba d : Nat} {ad : Adr} (hl : l.stackTraces = false) (hd : 9 ≤ d) {i : Nat} {σ : CS} {th ro : Int32} {lo ma ap : Nat → Int32} {o : Wd} (hσ : cOK σ) {x2 : Int32} (hx2 : ∀ j, j < cK σ → x2 ≠ nI j)  : CT l yX7_easiestHall (wsO yX7_easiestHall cX7_easiestHall 6 (some .int)) d 8 64 D ba [.ref (ad [i]), .int x2] ad (QW i ad σ th ro lo ma ap o) (RQ i ad σ o (nI 1) (some (.int (nI 0)))) noX := by
  refine CT_of RX7 rfl (by decide +kernel) hl (Nat.le_of_ble_eq_true rfl) ?_
  intro p e s m args below meth c C hr hnm
  refine V_lvE (lv' := [(0, .ref (ad [i])), (1, .int x2)]) rfl ?_
  have hσ1 := hσ.1
  have hσ2 := hσ.2.1
  refine V_aload_n C dX7_easiestHall_0 0 rfl ?_
  refine V_iconst (v := nI 0) C dX7_easiestHall_1 (by decide) ?_
  refine V_put (ci := 6) (k := 0) C dX7_easiestHall_2 RX7 RX7 TX7 17 tyX7 tyX7_ok nmX7 fw_X7 rfl (by decide) tw_668 rfl (Or.inl rfl) rfl rfl rfl QW_o (Nat.le_of_ble_eq_true rfl) ?_
  refine V_wd (w' := wset (QW i ad σ th ro lo ma ap o) ([i]) (.inr (6, [.int (nI 0), .int (nI (cN σ)), .int (nI (cK σ)), .int (cDay σ), .int (cIns σ), .ref (ad [i, 1]), .ref (ad [i, 2]), .ref (ad [i, 3]), .ref (ad [i, 4]), .ref (ad [i, 5]), .ref (ad [i, 6]), .ref (ad [i, 7]), .ref (ad [i, 8]), .ref (ad [i, 9]), .ref (ad [i, 10]), .ref (ad [i, 11]), .int ro]))) rfl ?_
  refine V_wd (w' := QW i ad σ (nI 0) ro lo ma ap o) QW_th ?_
  refine V_aload_n C dX7_easiestHall_5 0 rfl ?_
  refine V_iload_n C dX7_easiestHall_6 1 rfl ?_
  refine V_callV (r := (RX7, TX7, 17)) C [.int x2] dX7_easiestHall_7 m_X7_isStandard k_X7_isStandard tw_778 rfl rfl rfl QW_o rfl rfl (Nat.le_of_ble_eq_true rfl) ⟨by omega, by omega, by omega, by omega⟩ (m_isStd_no hl (by omega) hσ hx2) (kr_some (x := .int (nI 0)) ?_) kx_no
  refine V_ifn_ne (tgt := 19) C dX7_easiestHall_10 (by decide) (by decide) (fun hb1 => by exfalso; omega) (fun hb1 => ?_)
  refine V_aload_n C dX7_easiestHall_13 0 rfl ?_
  refine V_iconst (v := nI 1) C dX7_easiestHall_14 (by decide) ?_
  refine V_callV (r := (RX7, TX7, 17)) C [.int (nI 1)] dX7_easiestHall_15 m_X7_fail k_X7_fail tw_731 rfl rfl rfl QW_o rfl rfl (Nat.le_of_ble_eq_true rfl) ⟨by omega, by omega, by omega, by omega⟩ (m_fail hl (by omega) (nI 1)) (kr_some (x := .int (nI 0)) ?_) kx_no
  exact V_iret C .int dX7_easiestHall_18 hr rfl ⟨rfl, rfl, _, _, _, _, rfl⟩ (by omega) (by omega)
/-- the first place of k .. k + n - 1 at which f is not 0; k + n without one -/
def lst (f : Nat → Nat) : Nat → Nat → Nat
  | 0, k => k
  | n + 1, k => if f k = 0 then lst f n (k + 1) else k
theorem lst_le (f : Nat → Nat) : ∀ n k, k ≤ lst f n k ∧ lst f n k ≤ k + n
  | 0, k => ⟨Nat.le_refl _, Nat.le_refl _⟩
  | n + 1, k => by
    rw [lst]
    split
    · have := lst_le f n (k + 1); omega
    · omega
theorem fst_lst (f : Nat → Nat) : ∀ n k, fstF f n k = if lst f n k < k + n then nI (lst f n k) else -1
  | 0, k => by rw [fstF, lst, if_neg (by omega)]
  | n + 1, k => by
    rw [fstF, lst]
    split
    · rw [fst_lst f n (k + 1)]
      by_cases h : lst f n (k + 1) < k + 1 + n
      · rw [if_pos h, if_pos (by omega)]
      · rw [if_neg h, if_neg (by omega)]
    · rw [if_pos (by omega)]
/-- where the search stands, started anew at m: the same place, if nothing was found before -/
theorem lst_from (f : Nat → Nat) : ∀ n k m, k ≤ m → m ≤ lst f n k → m ≤ k + n → (f m ≠ 0 ∧ m < k + n ↔ lst f n k = m ∧ m < k + n)
  | 0, k, m, h1, h2, h3 => by constructor <;> (intro z; omega)
  | n + 1, k, m, h1, h2, h3 => by
    rw [lst] at h2 ⊢
    by_cases hf : f k = 0
    · rw [if_pos hf] at h2 ⊢
      by_cases hm : m = k
      · subst hm
        have := (lst_le f n (m + 1)).1
        constructor
        · intro z; exact absurd hf z.1
        · intro z; omega
      · have := lst_from f n (k + 1) m (by omega) h2 (by omega)
        constructor
        · intro z
          have := this.mp ⟨z.1, by omega⟩
          exact ⟨this.1, by omega⟩
        · intro z
          have := this.mpr ⟨z.1, by omega⟩
          exact ⟨this.1, by omega⟩
    · rw [if_neg hf] at h2 ⊢
      have hm : m = k := by omega
      subst hm
      exact ⟨fun z => ⟨rfl, z.2⟩, fun z => ⟨hf, z.2⟩⟩
/-- b is the first of the halls below n whose L is least, and not 91 -/
def Bst (L : Nat → Nat) (n : Nat) (b : Int32) : Prop := (b = -1 ∧ ∀ j, j < n → L j = 91) ∨ ∃ j, j < n ∧ L j < 91 ∧ b = nI j ∧ ∀ i, i < n → L j < L i ∨ (L j = L i ∧ j ≤ i)
theorem Bst.same {L : Nat → Nat} {n : Nat} {b b' : Int32} (h : Bst L n b) (h' : Bst L n b') : b = b' := by
  rcases h with ⟨h1, h2⟩ | ⟨j, h1, h2, h3, h4⟩
  · rcases h' with ⟨g1, g2⟩ | ⟨i, g1, g2, g3, g4⟩
    · rw [h1, g1]
    · have := h2 i g1; omega
  · rcases h' with ⟨g1, g2⟩ | ⟨i, g1, g2, g3, g4⟩
    · have := g2 j h1; omega
    · have e1 := h4 i g1
      have e2 := g4 j h1
      have : i = j := by omega
      rw [h3, g3, this]
section ES
variable {s : StdS} {H : Nat → HallS} {N : Nat}
/-- a hall's least damping; 91 without one -/
abbrev lsH (s : StdS) (H : Nat → HallS) : Nat → Nat := fun j => lst (fun v => metW (H j) s v (hDu (H j))) 91 0
theorem eaH_bst {m : Nat} (hm : m < 91) : ∀ n k, k + n = N → (∀ j, j < N → m ≤ lsH s H j) → (∀ j, j < k → lsH s H j ≠ m) → (eaH s H m n k = none ∧ ∀ j, j < N → lsH s H j ≠ m) ∨ ∃ j, j < N ∧ eaH s H m n k = some j ∧ lsH s H j = m ∧ ∀ i, i < j → lsH s H i ≠ m
  | 0, k, hk, h1, h2 => Or.inl ⟨rfl, fun j hj => h2 j (by omega)⟩
  | n + 1, k, hk, h1, h2 => by
    have hf := lst_from (fun v => metW (H k) s v (hDu (H k))) 91 0 m (Nat.zero_le _) (h1 k (by omega)) (by omega)
    rw [eaH]
    by_cases hz : metW (H k) s m (hDu (H k)) = 0
    · rw [if_pos hz]
      refine eaH_bst hm n (k + 1) (by omega) h1 (fun j hj => ?_)
      by_cases hjk : j = k
      · subst hjk
        intro z
        exact (hf.mpr ⟨z, by omega⟩).1 hz
      · exact h2 j (by omega)
    · rw [if_neg hz]
      exact Or.inr ⟨k, by omega, rfl, (hf.mp ⟨hz, by omega⟩).1, h2⟩
theorem eaD_bst : ∀ n m, m + n = 91 → (∀ j, j < N → m ≤ lsH s H j) → Bst (lsH s H) N (eaD s H N n m)
  | 0, m, hm, h1 => Or.inl ⟨rfl, fun j hj => by
    have h9 : m ≤ lst (fun v => metW (H j) s v (hDu (H j))) 91 0 := h1 j hj
    have h8 := (lst_le (fun v => metW (H j) s v (hDu (H j))) 91 0).2
    show lst (fun v => metW (H j) s v (hDu (H j))) 91 0 = 91
    omega⟩
  | n + 1, m, hm, h1 => by
    rw [eaD]
    rcases eaH_bst (s := s) (H := H) (N := N) (m := m) (by omega) N 0 (by omega) h1 (fun j hj => absurd hj (Nat.not_lt_zero _)) with ⟨e, h2⟩ | ⟨j, hj, e, h2, h3⟩
    · rw [e]
      refine eaD_bst n (m + 1) (by omega) (fun j hj => ?_)
      have := h1 j hj
      have := h2 j hj
      omega
    · rw [e]
      refine Or.inr ⟨j, hj, by omega, rfl, fun i hi => ?_⟩
      have := h1 i hi
      by_cases hz : lsH s H i = m
      · exact Or.inr ⟨by omega, by
          apply Nat.not_lt.mp
          intro q
          exact h3 i q hz⟩
      · exact Or.inl (by omega)
theorem esF_bst : ∀ n k (b : Int32) (f : Nat), k + n = N → f ≤ 91 → Bst (lsH s H) k b → ((b = -1 ∧ f = 91) ∨ ∃ j, j < k ∧ b = nI j ∧ f = lsH s H j ∧ f < 91) → (∀ i, i < k → f ≤ lsH s H i) → k ≤ 8 → N ≤ 8 → Bst (lsH s H) N (esF s H n k b (nI f))
  | 0, k, b, f, hk, _, h, _, _, _, _ => by
    rw [show N = k by omega]; exact h
  | n + 1, k, b, f, hk, hf, h, hb, hlo, hk8, hN => by
    have ha := fst_lst (fun v => metW (H k) s v (hDu (H k))) 91 0
    rw [Nat.zero_add] at ha
    have hle := (lst_le (fun v => metW (H k) s v (hDu (H k))) 91 0).2
    rw [esF_s, ha]
    by_cases h91 : lst (fun v => metW (H k) s v (hDu (H k))) 91 0 < 91
    · rw [if_pos h91, if_neg (nI_nm1 (by omega))]
      by_cases hlt : lst (fun v => metW (H k) s v (hDu (H k))) 91 0 < f
      · rw [if_pos (nI_lt hlt (by omega))]
        refine esF_bst n (k + 1) (nI k) _ (by omega) (by omega) (Or.inr ⟨k, by omega, h91, rfl, fun i hi => ?_⟩) (Or.inr ⟨k, by omega, rfl, rfl, h91⟩) (fun i hi => ?_) (by omega) hN
        · by_cases hik : i = k
          · subst hik; exact Or.inr ⟨rfl, Nat.le_refl _⟩
          · have := hlo i (by omega)
            exact Or.inl (by show lst _ 91 0 < _; omega)
        · by_cases hik : i = k
          · subst hik; exact Nat.le_refl _
          · have := hlo i (by omega); omega
      · rw [if_neg (nI_nlt (by omega) (by omega))]
        refine esF_bst n (k + 1) b f (by omega) hf ?_ ?_ (fun i hi => ?_) (by omega) hN
        · rcases hb with ⟨h1, h2⟩ | ⟨j, h1, h2, h3, h4⟩
          · omega
          · rcases h with ⟨g1, g2⟩ | ⟨j', g1, g2, g3, g4⟩
            · have := g2 j h1; omega
            · have hjj : j = j' := by
                rw [h2] at g3
                exact (nI_eq (by omega) (by omega)).mp g3
              subst hjj
              refine Or.inr ⟨j, by omega, g2, g3, fun i hi => ?_⟩
              by_cases hik : i = k
              · subst hik
                by_cases he : lsH s H j = lsH s H i
                · exact Or.inr ⟨he, by omega⟩
                · exact Or.inl (by have : f ≤ lsH s H i := Nat.not_lt.mp hlt; omega)
              · exact g4 i (by omega)
        · rcases hb with ⟨h1, h2⟩ | ⟨j, h1, h2, h3, h4⟩
          · exact Or.inl ⟨h1, h2⟩
          · exact Or.inr ⟨j, by omega, h2, h3, h4⟩
        · by_cases hik : i = k
          · subst hik; exact Nat.not_lt.mp hlt
          · exact hlo i (by omega)
    · rw [if_neg h91, if_pos rfl]
      have hk91 : lsH s H k = 91 := by show lst _ 91 0 = 91; omega
      refine esF_bst n (k + 1) b f (by omega) hf ?_ ?_ (fun i hi => ?_) (by omega) hN
      · rcases h with ⟨g1, g2⟩ | ⟨j', g1, g2, g3, g4⟩
        · refine Or.inl ⟨g1, fun i hi => ?_⟩
          by_cases hik : i = k
          · subst hik; exact hk91
          · exact g2 i (by omega)
        · refine Or.inr ⟨j', by omega, g2, g3, fun i hi => ?_⟩
          by_cases hik : i = k
          · subst hik; exact Or.inl (by omega)
          · exact g4 i (by omega)
      · rcases hb with ⟨h1, h2⟩ | ⟨j, h1, h2, h3, h4⟩
        · exact Or.inl ⟨h1, h2⟩
        · exact Or.inr ⟨j, by omega, h2, h3, h4⟩
      · by_cases hik : i = k
        · subst hik; omega
        · exact hlo i (by omega)
theorem es_ea (hN : N ≤ 8) : esF s H N 0 (-1) (nI 91) = eaD s H N 91 0 :=
  (esF_bst N 0 (-1) 91 (by omega) (by decide) (Or.inl ⟨rfl, fun j hj => absurd hj (Nat.not_lt_zero _)⟩) (Or.inl ⟨rfl, rfl⟩) (fun i hi => absurd hi (Nat.not_lt_zero _)) (by decide) hN).same (eaD_bst 91 0 (by omega) (fun j hj => Nat.zero_le _))
end ES
theorem m_easiest {l : Launch} {D : va_G} {ba d : Nat} {ad : Adr} (hl : l.stackTraces = false) (hd : 9 ≤ d) {i : Nat} {σ : CS} {th ro : Int32} {lo ma ap : Nat → Int32} {o : Wd} (hσ : cOK σ) {q : Nat} (hq : q < cK σ) : CT l yX7_easiestHall (wsO yX7_easiestHall cX7_easiestHall 6 (some .int)) d 8 64 D ba [.ref (ad [i]), .int (nI q)] ad (QW i ad σ th ro lo ma ap o) (RQ i ad σ o (nI 0) (some (.int (eaD (cS σ q) (cH σ) (cN σ) 91 0)))) noX := by
  rw [← es_ea hσ.1]
  exact m_easiest0 hl hd hσ hq
