/-- an answer of the reference: what it has thrown, and the bureau behind it -/
abbrev RQ (i : Nat) (ad : Adr) (σ : CS) (o : Wd) (th : Int32) (v : Option Value) : Option Value → Adr → Wd → Prop := fun v' ad' w' => v' = v ∧ ad' = ad ∧ ∃ ro lo ma ap, w' = QW i ad σ th ro lo ma ap o
theorem rdh_Sc {σ : CS} {j : Nat} {h : HallS} (hj : j < cN σ) : aSc (setH σ j h) j = nI (hSc h) := by
  rw [show aSc (setH σ j h) j = _ from row0_in hj]; show (fun h => nI (hSc h)) (fup _ _ _ _) = _; rw [fup_s]
theorem rdh_Dm {σ : CS} {j : Nat} {h : HallS} (hj : j < cN σ) : aDm (setH σ j h) j = nI (hDm h) := by
  rw [show aDm (setH σ j h) j = _ from row0_in hj]; show (fun h => nI (hDm h)) (fup _ _ _ _) = _; rw [fup_s]
theorem rdh_Du {σ : CS} {j : Nat} {h : HallS} (hj : j < cN σ) : aDu (setH σ j h) j = nI (hDu h) := by
  rw [show aDu (setH σ j h) j = _ from row0_in hj]; show (fun h => nI (hDu h)) (fup _ _ _ _) = _; rw [fup_s]
theorem rdh_Ce {σ : CS} {j : Nat} {h : HallS} (hj : j < cN σ) : aCe (setH σ j h) j = hCe h := by
  rw [show aCe (setH σ j h) j = _ from row0_in hj]; show (fun h => hCe h) (fup _ _ _ _) = _; rw [fup_s]
theorem rdh_Dy {σ : CS} {j : Nat} {h : HallS} (hj : j < cN σ) : aDy (setH σ j h) j = nI (hDy h) := by
  rw [show aDy (setH σ j h) j = _ from row0_in hj]; show (fun h => nI (hDy h)) (fup _ _ _ _) = _; rw [fup_s]
set_option maxHeartbeats 4000000 in
theorem m_isIn {l : Launch} {D : va_G} {ba d : Nat} {ad : Adr} {w : Wd} (hl : l.stackTraces = false) (hd : 1 ≤ d) (v a b : Int32) : CT l yX7_isIn (wsO yX7_isIn cX7_isIn 3 (some .boolean)) d 0 0 D ba [.int v, .int a, .int b] ad w (isR (some (.int (nI (inR v a b)))) ad w) noX := by
  refine CT_of RX7 rfl (by decide +kernel) hl (Nat.le_of_ble_eq_true rfl) ?_
  intro p e s m args below meth c C hr hnm
  refine V_lvE (lv' := [(0, .int v), (1, .int a), (2, .int b)]) rfl ?_
  refine V_iload_n C dX7_isIn_0 0 rfl ?_
  refine V_iload_n C dX7_isIn_1 1 rfl ?_
  refine V_icmp_lt (tgt := 14) C dX7_isIn_2 (by decide) (fun hb1 => ?_) (fun hb1 => ?_)
  · skip
    refine V_iconst (v := nI 0) C dX7_isIn_14 (by decide) ?_
    exact V_iret C .boolean dX7_isIn_15 hr rfl ⟨by rw [inR, if_pos hb1], rfl, rfl⟩ (by omega) (by omega)
  · skip
    refine V_iload_n C dX7_isIn_5 0 rfl ?_
    refine V_iload_n C dX7_isIn_6 2 rfl ?_
    refine V_icmp_gt (tgt := 14) C dX7_isIn_7 (by decide) (fun hb2 => ?_) (fun hb2 => ?_)
    · skip
      refine V_iconst (v := nI 0) C dX7_isIn_14 (by decide) ?_
      exact V_iret C .boolean dX7_isIn_15 hr rfl ⟨by rw [inR, if_neg hb1, if_pos hb2], rfl, rfl⟩ (by omega) (by omega)
    · skip
      refine V_iconst (v := nI 1) C dX7_isIn_10 (by decide) ?_
      refine V_goto (tgt := 15) C dX7_isIn_11 (by decide) ?_
      exact V_iret C .boolean dX7_isIn_15 hr rfl ⟨by rw [inR, if_neg hb1, if_neg hb2], rfl, rfl⟩ (by omega) (by omega)
set_option maxHeartbeats 4000000 in
theorem m_thrown {l : Launch} {D : va_G} {ba d : Nat} {ad : Adr} (hl : l.stackTraces = false) (hd : 1 ≤ d) {i : Nat} {σ : CS} {th ro : Int32} {lo ma ap : Nat → Int32} {o : Wd} (hσ : cOK σ)  : CT l yX7_thrown (wsO yX7_thrown cX7_thrown 1 (some .int)) d 0 0 D ba [.ref (ad [i])] ad (QW i ad σ th ro lo ma ap o) (isR (some (.int th)) ad (QW i ad σ th ro lo ma ap o)) noX := by
  refine CT_of RX7 rfl (by decide +kernel) hl (Nat.le_of_ble_eq_true rfl) ?_
  intro p e s m args below meth c C hr hnm
  refine V_lvE (lv' := [(0, .ref (ad [i]))]) rfl ?_
  have hσ1 := hσ.1
  have hσ2 := hσ.2.1
  refine V_aload_n C dX7_thrown_0 0 rfl ?_
  refine V_get (ci := 6) (k := 0) C dX7_thrown_1 RX7 RX7 TX7 17 fw_X7 rfl (by decide) tw_668 rfl rfl QW_o rfl ?_
  exact V_iret C .int dX7_thrown_4 hr rfl ⟨rfl, rfl, rfl⟩ (by omega) (by omega)
set_option maxHeartbeats 4000000 in
theorem m_fail {l : Launch} {D : va_G} {ba d : Nat} {ad : Adr} (hl : l.stackTraces = false) (hd : 1 ≤ d) {i : Nat} {σ : CS} {th ro : Int32} {lo ma ap : Nat → Int32} {o : Wd} (x : Int32)  : CT l yX7_fail (wsO yX7_fail cX7_fail 2 (some .int)) d 0 0 D ba [.ref (ad [i]), .int x] ad (QW i ad σ th ro lo ma ap o) (isR (some (.int (nI 0))) ad (QW i ad σ x ro lo ma ap o)) noX := by
  refine CT_of RX7 rfl (by decide +kernel) hl (Nat.le_of_ble_eq_true rfl) ?_
  intro p e s m args below meth c C hr hnm
  refine V_lvE (lv' := [(0, .ref (ad [i])), (1, .int x)]) rfl ?_
  refine V_aload_n C dX7_fail_0 0 rfl ?_
  refine V_iload_n C dX7_fail_1 1 rfl ?_
  refine V_put (ci := 6) (k := 0) C dX7_fail_2 RX7 RX7 TX7 17 tyX7 tyX7_ok nmX7 fw_X7 rfl (by decide) tw_668 rfl (Or.inl rfl) rfl rfl rfl QW_o (Nat.le_of_ble_eq_true rfl) ?_
  refine V_wd (w' := wset (QW i ad σ th ro lo ma ap o) ([i]) (.inr (6, [.int x, .int (nI (cN σ)), .int (nI (cK σ)), .int (cDay σ), .int (cIns σ), .ref (ad [i, 1]), .ref (ad [i, 2]), .ref (ad [i, 3]), .ref (ad [i, 4]), .ref (ad [i, 5]), .ref (ad [i, 6]), .ref (ad [i, 7]), .ref (ad [i, 8]), .ref (ad [i, 9]), .ref (ad [i, 10]), .ref (ad [i, 11]), .int ro]))) rfl ?_
  refine V_iconst (v := nI 0) C dX7_fail_5 (by decide) ?_
  exact V_iret C .int dX7_fail_6 hr rfl ⟨rfl, rfl, QW_th⟩ (by omega) (by omega)
set_option maxHeartbeats 4000000 in
theorem m_failed {l : Launch} {D : va_G} {ba d : Nat} {ad : Adr} (hl : l.stackTraces = false) (hd : 1 ≤ d) {i : Nat} {σ : CS} {th ro : Int32} {lo ma ap : Nat → Int32} {o : Wd} (x : Int32)  : CT l yX7_failed (wsO yX7_failed cX7_failed 2 (some .boolean)) d 0 0 D ba [.ref (ad [i]), .int x] ad (QW i ad σ th ro lo ma ap o) (isR (some (.int (nI 0))) ad (QW i ad σ x ro lo ma ap o)) noX := by
  refine CT_of RX7 rfl (by decide +kernel) hl (Nat.le_of_ble_eq_true rfl) ?_
  intro p e s m args below meth c C hr hnm
  refine V_lvE (lv' := [(0, .ref (ad [i])), (1, .int x)]) rfl ?_
  refine V_aload_n C dX7_failed_0 0 rfl ?_
  refine V_iload_n C dX7_failed_1 1 rfl ?_
  refine V_put (ci := 6) (k := 0) C dX7_failed_2 RX7 RX7 TX7 17 tyX7 tyX7_ok nmX7 fw_X7 rfl (by decide) tw_668 rfl (Or.inl rfl) rfl rfl rfl QW_o (Nat.le_of_ble_eq_true rfl) ?_
  refine V_wd (w' := wset (QW i ad σ th ro lo ma ap o) ([i]) (.inr (6, [.int x, .int (nI (cN σ)), .int (nI (cK σ)), .int (cDay σ), .int (cIns σ), .ref (ad [i, 1]), .ref (ad [i, 2]), .ref (ad [i, 3]), .ref (ad [i, 4]), .ref (ad [i, 5]), .ref (ad [i, 6]), .ref (ad [i, 7]), .ref (ad [i, 8]), .ref (ad [i, 9]), .ref (ad [i, 10]), .ref (ad [i, 11]), .int ro]))) rfl ?_
  refine V_iconst (v := nI 0) C dX7_failed_5 (by decide) ?_
  exact V_iret C .boolean dX7_failed_6 hr rfl ⟨rfl, rfl, QW_th⟩ (by omega) (by omega)
set_option maxHeartbeats 4000000 in
theorem m_isHall {l : Launch} {D : va_G} {ba d : Nat} {ad : Adr} (hl : l.stackTraces = false) (hd : 2 ≤ d) {i : Nat} {σ : CS} {th ro : Int32} {lo ma ap : Nat → Int32} {o : Wd} (hσ : cOK σ) {j : Nat} (hj : j < cN σ)  : CT l yX7_isHall (wsO yX7_isHall cX7_isHall 2 (some .boolean)) d 0 0 D ba [.ref (ad [i]), .int (nI j)] ad (QW i ad σ th ro lo ma ap o) (isR (some (.int (nI 1))) ad (QW i ad σ th ro lo ma ap o)) noX := by
  refine CT_of RX7 rfl (by decide +kernel) hl (Nat.le_of_ble_eq_true rfl) ?_
  intro p e s m args below meth c C hr hnm
  refine V_lvE (lv' := [(0, .ref (ad [i])), (1, .int (nI j))]) rfl ?_
  have hσ1 := hσ.1
  have hσ2 := hσ.2.1
  refine V_iload_n C dX7_isHall_0 1 rfl ?_
  refine V_iconst (v := nI 0) C dX7_isHall_1 (by decide) ?_
  refine V_aload_n C dX7_isHall_2 0 rfl ?_
  refine V_get (ci := 6) (k := 1) C dX7_isHall_3 RX7 RX7 TX7 17 fw_X7 rfl (by decide) tw_669 rfl rfl QW_o rfl ?_
  refine V_iconst (v := nI 1) C dX7_isHall_6 (by decide) ?_
  refine V_isub C dX7_isHall_7 ?_
  have hin8 := inR_le (nI j) (nI 0) (nI (cN σ) - nI 1)
  refine V_callS C [.int (nI j), .int (nI 0), .int (nI (cN σ) - nI 1)] dX7_isHall_8 m_X7_isIn k_X7_isIn tw_728 rfl rfl (Nat.le_of_ble_eq_true rfl) ⟨by omega, by omega, by omega, by omega⟩ (m_isIn hl (by omega) (nI j) (nI 0) (nI (cN σ) - nI 1)) (kr_some (x := .int (nI (inR (nI j) (nI 0) (nI (cN σ) - nI 1)))) ?_) kx_no
  rw [show inR (nI j) (nI 0) (nI (cN σ) - nI 1) = 1 from inR_yes (by omega) hj]
  exact V_iret C .boolean dX7_isHall_11 hr rfl ⟨rfl, rfl, rfl⟩ (by omega) (by omega)
set_option maxHeartbeats 4000000 in
theorem m_isHall_no {l : Launch} {D : va_G} {ba d : Nat} {ad : Adr} (hl : l.stackTraces = false) (hd : 2 ≤ d) {i : Nat} {σ : CS} {th ro : Int32} {lo ma ap : Nat → Int32} {o : Wd} (hσ : cOK σ) {x : Int32} (hx : ∀ j, j < cN σ → x ≠ nI j)  : CT l yX7_isHall (wsO yX7_isHall cX7_isHall 2 (some .boolean)) d 0 0 D ba [.ref (ad [i]), .int x] ad (QW i ad σ th ro lo ma ap o) (isR (some (.int (nI 0))) ad (QW i ad σ th ro lo ma ap o)) noX := by
  refine CT_of RX7 rfl (by decide +kernel) hl (Nat.le_of_ble_eq_true rfl) ?_
  intro p e s m args below meth c C hr hnm
  refine V_lvE (lv' := [(0, .ref (ad [i])), (1, .int x)]) rfl ?_
  have hσ1 := hσ.1
  have hσ2 := hσ.2.1
  refine V_iload_n C dX7_isHall_0 1 rfl ?_
  refine V_iconst (v := nI 0) C dX7_isHall_1 (by decide) ?_
  refine V_aload_n C dX7_isHall_2 0 rfl ?_
  refine V_get (ci := 6) (k := 1) C dX7_isHall_3 RX7 RX7 TX7 17 fw_X7 rfl (by decide) tw_669 rfl rfl QW_o rfl ?_
  refine V_iconst (v := nI 1) C dX7_isHall_6 (by decide) ?_
  refine V_isub C dX7_isHall_7 ?_
  have hin8 := inR_le x (nI 0) (nI (cN σ) - nI 1)
  refine V_callS C [.int x, .int (nI 0), .int (nI (cN σ) - nI 1)] dX7_isHall_8 m_X7_isIn k_X7_isIn tw_728 rfl rfl (Nat.le_of_ble_eq_true rfl) ⟨by omega, by omega, by omega, by omega⟩ (m_isIn hl (by omega) x (nI 0) (nI (cN σ) - nI 1)) (kr_some (x := .int (nI (inR x (nI 0) (nI (cN σ) - nI 1)))) ?_) kx_no
  rw [show inR x (nI 0) (nI (cN σ) - nI 1) = 0 from inR_no0 (by omega) hx]
  exact V_iret C .boolean dX7_isHall_11 hr rfl ⟨rfl, rfl, rfl⟩ (by omega) (by omega)
set_option maxHeartbeats 4000000 in
theorem m_isStd {l : Launch} {D : va_G} {ba d : Nat} {ad : Adr} (hl : l.stackTraces = false) (hd : 2 ≤ d) {i : Nat} {σ : CS} {th ro : Int32} {lo ma ap : Nat → Int32} {o : Wd} (hσ : cOK σ) {q : Nat} (hq : q < cK σ)  : CT l yX7_isStandard (wsO yX7_isStandard cX7_isStandard 2 (some .boolean)) d 0 0 D ba [.ref (ad [i]), .int (nI q)] ad (QW i ad σ th ro lo ma ap o) (isR (some (.int (nI 1))) ad (QW i ad σ th ro lo ma ap o)) noX := by
  refine CT_of RX7 rfl (by decide +kernel) hl (Nat.le_of_ble_eq_true rfl) ?_
  intro p e s m args below meth c C hr hnm
  refine V_lvE (lv' := [(0, .ref (ad [i])), (1, .int (nI q))]) rfl ?_
  have hσ1 := hσ.1
  have hσ2 := hσ.2.1
  refine V_iload_n C dX7_isStandard_0 1 rfl ?_
  refine V_iconst (v := nI 0) C dX7_isStandard_1 (by decide) ?_
  refine V_aload_n C dX7_isStandard_2 0 rfl ?_
  refine V_get (ci := 6) (k := 2) C dX7_isStandard_3 RX7 RX7 TX7 17 fw_X7 rfl (by decide) tw_670 rfl rfl QW_o rfl ?_
  refine V_iconst (v := nI 1) C dX7_isStandard_6 (by decide) ?_
  refine V_isub C dX7_isStandard_7 ?_
  have hin8 := inR_le (nI q) (nI 0) (nI (cK σ) - nI 1)
  refine V_callS C [.int (nI q), .int (nI 0), .int (nI (cK σ) - nI 1)] dX7_isStandard_8 m_X7_isIn k_X7_isIn tw_728 rfl rfl (Nat.le_of_ble_eq_true rfl) ⟨by omega, by omega, by omega, by omega⟩ (m_isIn hl (by omega) (nI q) (nI 0) (nI (cK σ) - nI 1)) (kr_some (x := .int (nI (inR (nI q) (nI 0) (nI (cK σ) - nI 1)))) ?_) kx_no
  rw [show inR (nI q) (nI 0) (nI (cK σ) - nI 1) = 1 from inR_yes (by omega) hq]
  exact V_iret C .boolean dX7_isStandard_11 hr rfl ⟨rfl, rfl, rfl⟩ (by omega) (by omega)
set_option maxHeartbeats 4000000 in
theorem m_isStd_no {l : Launch} {D : va_G} {ba d : Nat} {ad : Adr} (hl : l.stackTraces = false) (hd : 2 ≤ d) {i : Nat} {σ : CS} {th ro : Int32} {lo ma ap : Nat → Int32} {o : Wd} (hσ : cOK σ) {x2 : Int32} (hx2 : ∀ j, j < cK σ → x2 ≠ nI j)  : CT l yX7_isStandard (wsO yX7_isStandard cX7_isStandard 2 (some .boolean)) d 0 0 D ba [.ref (ad [i]), .int x2] ad (QW i ad σ th ro lo ma ap o) (isR (some (.int (nI 0))) ad (QW i ad σ th ro lo ma ap o)) noX := by
  refine CT_of RX7 rfl (by decide +kernel) hl (Nat.le_of_ble_eq_true rfl) ?_
  intro p e s m args below meth c C hr hnm
  refine V_lvE (lv' := [(0, .ref (ad [i])), (1, .int x2)]) rfl ?_
  have hσ1 := hσ.1
  have hσ2 := hσ.2.1
  refine V_iload_n C dX7_isStandard_0 1 rfl ?_
  refine V_iconst (v := nI 0) C dX7_isStandard_1 (by decide) ?_
  refine V_aload_n C dX7_isStandard_2 0 rfl ?_
  refine V_get (ci := 6) (k := 2) C dX7_isStandard_3 RX7 RX7 TX7 17 fw_X7 rfl (by decide) tw_670 rfl rfl QW_o rfl ?_
  refine V_iconst (v := nI 1) C dX7_isStandard_6 (by decide) ?_
  refine V_isub C dX7_isStandard_7 ?_
  have hin8 := inR_le x2 (nI 0) (nI (cK σ) - nI 1)
  refine V_callS C [.int x2, .int (nI 0), .int (nI (cK σ) - nI 1)] dX7_isStandard_8 m_X7_isIn k_X7_isIn tw_728 rfl rfl (Nat.le_of_ble_eq_true rfl) ⟨by omega, by omega, by omega, by omega⟩ (m_isIn hl (by omega) x2 (nI 0) (nI (cK σ) - nI 1)) (kr_some (x := .int (nI (inR x2 (nI 0) (nI (cK σ) - nI 1)))) ?_) kx_no
  rw [show inR x2 (nI 0) (nI (cK σ) - nI 1) = 0 from inR_no0 (by omega) hx2]
  exact V_iret C .boolean dX7_isStandard_11 hr rfl ⟨rfl, rfl, rfl⟩ (by omega) (by omega)
set_option maxHeartbeats 4000000 in
theorem m_isSurf {l : Launch} {D : va_G} {ba d : Nat} {ad : Adr} (hl : l.stackTraces = false) (hd : 3 ≤ d) {i : Nat} {σ : CS} {th ro : Int32} {lo ma ap : Nat → Int32} {o : Wd} (hσ : cOK σ) {j : Nat} (hj : j < cN σ) {k : Nat} (hk : k < hSc (cH σ j))  : CT l yX7_isSurface (wsO yX7_isSurface cX7_isSurface 3 (some .boolean)) d 0 0 D ba [.ref (ad [i]), .int (nI j), .int (nI k)] ad (QW i ad σ th ro lo ma ap o) (isR (some (.int (nI 1))) ad (QW i ad σ th ro lo ma ap o)) noX := by
  refine CT_of RX7 rfl (by decide +kernel) hl (Nat.le_of_ble_eq_true rfl) ?_
  intro p e s m args below meth c C hr hnm
  refine V_lvE (lv' := [(0, .ref (ad [i])), (1, .int (nI j)), (2, .int (nI k))]) rfl ?_
  have hσ1 := hσ.1
  have hσ2 := hσ.2.1
  have hu := hσ.2.2.1 j hj
  have hu1 := hu.1
  have hu2 := hu.2.1
  have hu3 := hu.2.2.1
  have hu4 := hu.2.2.2.1
  refine V_aload_n C dX7_isSurface_0 0 rfl ?_
  refine V_iload_n C dX7_isSurface_1 1 rfl ?_
  refine V_callV (r := (RX7, TX7, 17)) C [.int (nI j)] dX7_isSurface_2 m_X7_isHall k_X7_isHall tw_739 rfl rfl rfl QW_o rfl rfl (Nat.le_of_ble_eq_true rfl) ⟨by omega, by omega, by omega, by omega⟩ (m_isHall hl (by omega) hσ hj) (kr_some (x := .int (nI 1)) ?_) kx_no
  refine V_ifn_eq (tgt := 28) C dX7_isSurface_5 (by decide) (by decide) (fun hb1 => by exfalso; omega) (fun hb1 => ?_)
  refine V_iload_n C dX7_isSurface_8 2 rfl ?_
  refine V_iconst (v := nI 0) C dX7_isSurface_9 (by decide) ?_
  refine V_aload_n C dX7_isSurface_10 0 rfl ?_
  refine V_get (ci := 6) (k := 5) C dX7_isSurface_11 RX7 RX7 TX7 17 fw_X7 rfl (by decide) tw_673 rfl rfl QW_o rfl ?_
  refine V_iload_n C dX7_isSurface_14 1 rfl ?_
  refine V_ialdn (v := (nI (hSc (cH σ j)))) C dX7_isSurface_15 rfl QW_1 (by omega) (by decide) (row0_in hj) ?_
  refine V_iconst (v := nI 1) C dX7_isSurface_16 (by decide) ?_
  refine V_isub C dX7_isSurface_17 ?_
  have hin18 := inR_le (nI k) (nI 0) (nI (hSc (cH σ j)) - nI 1)
  refine V_callS C [.int (nI k), .int (nI 0), .int (nI (hSc (cH σ j)) - nI 1)] dX7_isSurface_18 m_X7_isIn k_X7_isIn tw_728 rfl rfl (Nat.le_of_ble_eq_true rfl) ⟨by omega, by omega, by omega, by omega⟩ (m_isIn hl (by omega) (nI k) (nI 0) (nI (hSc (cH σ j)) - nI 1)) (kr_some (x := .int (nI (inR (nI k) (nI 0) (nI (hSc (cH σ j)) - nI 1)))) ?_) kx_no
  rw [show inR (nI k) (nI 0) (nI (hSc (cH σ j)) - nI 1) = 1 from inR_yes (by omega) hk]
  refine V_ifn_eq (tgt := 28) C dX7_isSurface_21 (by decide) (by decide) (fun hb2 => by exfalso; omega) (fun hb2 => ?_)
  refine V_iconst (v := nI 1) C dX7_isSurface_24 (by decide) ?_
  refine V_goto (tgt := 29) C dX7_isSurface_25 (by decide) ?_
  exact V_iret C .boolean dX7_isSurface_29 hr rfl ⟨rfl, rfl, rfl⟩ (by omega) (by omega)
set_option maxHeartbeats 4000000 in
theorem m_isSurf_no {l : Launch} {D : va_G} {ba d : Nat} {ad : Adr} (hl : l.stackTraces = false) (hd : 3 ≤ d) {i : Nat} {σ : CS} {th ro : Int32} {lo ma ap : Nat → Int32} {o : Wd} (hσ : cOK σ) {x : Int32} (hx : ∀ j, j < cN σ → x ≠ nI j) (y : Int32)  : CT l yX7_isSurface (wsO yX7_isSurface cX7_isSurface 3 (some .boolean)) d 0 0 D ba [.ref (ad [i]), .int x, .int y] ad (QW i ad σ th ro lo ma ap o) (isR (some (.int (nI 0))) ad (QW i ad σ th ro lo ma ap o)) noX := by
  refine CT_of RX7 rfl (by decide +kernel) hl (Nat.le_of_ble_eq_true rfl) ?_
  intro p e s m args below meth c C hr hnm
  refine V_lvE (lv' := [(0, .ref (ad [i])), (1, .int x), (2, .int y)]) rfl ?_
  have hσ1 := hσ.1
  have hσ2 := hσ.2.1
  refine V_aload_n C dX7_isSurface_0 0 rfl ?_
  refine V_iload_n C dX7_isSurface_1 1 rfl ?_
  refine V_callV (r := (RX7, TX7, 17)) C [.int x] dX7_isSurface_2 m_X7_isHall k_X7_isHall tw_739 rfl rfl rfl QW_o rfl rfl (Nat.le_of_ble_eq_true rfl) ⟨by omega, by omega, by omega, by omega⟩ (m_isHall_no hl (by omega) hσ hx) (kr_some (x := .int (nI 0)) ?_) kx_no
  refine V_ifn_eq (tgt := 28) C dX7_isSurface_5 (by decide) (by decide) (fun hb1 => ?_) (fun hb1 => by exfalso; omega)
  refine V_iconst (v := nI 0) C dX7_isSurface_28 (by decide) ?_
  exact V_iret C .boolean dX7_isSurface_29 hr rfl ⟨rfl, rfl, rfl⟩ (by omega) (by omega)
set_option maxHeartbeats 4000000 in
theorem m_isSurf_no2 {l : Launch} {D : va_G} {ba d : Nat} {ad : Adr} (hl : l.stackTraces = false) (hd : 3 ≤ d) {i : Nat} {σ : CS} {th ro : Int32} {lo ma ap : Nat → Int32} {o : Wd} (hσ : cOK σ) {j : Nat} (hj : j < cN σ) {x2 : Int32} (hx2 : ∀ k, k < hSc (cH σ j) → x2 ≠ nI k)  : CT l yX7_isSurface (wsO yX7_isSurface cX7_isSurface 3 (some .boolean)) d 0 0 D ba [.ref (ad [i]), .int (nI j), .int x2] ad (QW i ad σ th ro lo ma ap o) (isR (some (.int (nI 0))) ad (QW i ad σ th ro lo ma ap o)) noX := by
  refine CT_of RX7 rfl (by decide +kernel) hl (Nat.le_of_ble_eq_true rfl) ?_
  intro p e s m args below meth c C hr hnm
  refine V_lvE (lv' := [(0, .ref (ad [i])), (1, .int (nI j)), (2, .int x2)]) rfl ?_
  have hσ1 := hσ.1
  have hσ2 := hσ.2.1
  have hu := hσ.2.2.1 j hj
  have hu1 := hu.1
  have hu2 := hu.2.1
  have hu3 := hu.2.2.1
  have hu4 := hu.2.2.2.1
  refine V_aload_n C dX7_isSurface_0 0 rfl ?_
  refine V_iload_n C dX7_isSurface_1 1 rfl ?_
  refine V_callV (r := (RX7, TX7, 17)) C [.int (nI j)] dX7_isSurface_2 m_X7_isHall k_X7_isHall tw_739 rfl rfl rfl QW_o rfl rfl (Nat.le_of_ble_eq_true rfl) ⟨by omega, by omega, by omega, by omega⟩ (m_isHall hl (by omega) hσ hj) (kr_some (x := .int (nI 1)) ?_) kx_no
  refine V_ifn_eq (tgt := 28) C dX7_isSurface_5 (by decide) (by decide) (fun hb1 => by exfalso; omega) (fun hb1 => ?_)
  refine V_iload_n C dX7_isSurface_8 2 rfl ?_
  refine V_iconst (v := nI 0) C dX7_isSurface_9 (by decide) ?_
  refine V_aload_n C dX7_isSurface_10 0 rfl ?_
  refine V_get (ci := 6) (k := 5) C dX7_isSurface_11 RX7 RX7 TX7 17 fw_X7 rfl (by decide) tw_673 rfl rfl QW_o rfl ?_
  refine V_iload_n C dX7_isSurface_14 1 rfl ?_
  refine V_ialdn (v := (nI (hSc (cH σ j)))) C dX7_isSurface_15 rfl QW_1 (by omega) (by decide) (row0_in hj) ?_
  refine V_iconst (v := nI 1) C dX7_isSurface_16 (by decide) ?_
  refine V_isub C dX7_isSurface_17 ?_
  have hin18 := inR_le x2 (nI 0) (nI (hSc (cH σ j)) - nI 1)
  refine V_callS C [.int x2, .int (nI 0), .int (nI (hSc (cH σ j)) - nI 1)] dX7_isSurface_18 m_X7_isIn k_X7_isIn tw_728 rfl rfl (Nat.le_of_ble_eq_true rfl) ⟨by omega, by omega, by omega, by omega⟩ (m_isIn hl (by omega) x2 (nI 0) (nI (hSc (cH σ j)) - nI 1)) (kr_some (x := .int (nI (inR x2 (nI 0) (nI (hSc (cH σ j)) - nI 1)))) ?_) kx_no
  rw [show inR x2 (nI 0) (nI (hSc (cH σ j)) - nI 1) = 0 from inR_no0 (by omega) hx2]
  refine V_ifn_eq (tgt := 28) C dX7_isSurface_21 (by decide) (by decide) (fun hb2 => ?_) (fun hb2 => by exfalso; omega)
  refine V_iconst (v := nI 0) C dX7_isSurface_28 (by decide) ?_
  exact V_iret C .boolean dX7_isSurface_29 hr rfl ⟨rfl, rfl, rfl⟩ (by omega) (by omega)
set_option maxHeartbeats 4000000 in
theorem m_rule {l : Launch} {D : va_G} {ba d : Nat} {ad : Adr} (hl : l.stackTraces = false) (hd : 1 ≤ d) {i : Nat} {σ : CS} {th ro : Int32} {lo ma ap : Nat → Int32} {o : Wd} (hσ : cOK σ) {q : Nat} (hq : q < cK σ) {k : Nat} (hk : k < 5)  : CT l yX7_rule (wsO yX7_rule cX7_rule 3 (some .int)) d 0 0 D ba [.ref (ad [i]), .int (nI q), .int (nI k)] ad (QW i ad σ th ro lo ma ap o) (isR (some (.int (nI (stF (cS σ q) k)))) ad (QW i ad σ th ro lo ma ap o)) noX := by
  refine CT_of RX7 rfl (by decide +kernel) hl (Nat.le_of_ble_eq_true rfl) ?_
  intro p e s m args below meth c C hr hnm
  refine V_lvE (lv' := [(0, .ref (ad [i])), (1, .int (nI q)), (2, .int (nI k))]) rfl ?_
  have hσ1 := hσ.1
  have hσ2 := hσ.2.1
  refine V_aload_n C dX7_rule_0 0 rfl ?_
  refine V_get (ci := 6) (k := 12) C dX7_rule_1 RX7 RX7 TX7 17 fw_X7 rfl (by decide) tw_680 rfl rfl QW_o rfl ?_
  refine V_iconst (v := nI 5) C dX7_rule_4 (by decide) ?_
  refine V_iload_n C dX7_rule_5 1 rfl ?_
  refine V_imuln C dX7_rule_6 ?_
  refine V_iload_n C dX7_rule_7 2 rfl ?_
  refine V_iaddn C dX7_rule_8 ?_
  refine V_ialdn (v := (nI (stF (cS σ q) k))) C dX7_rule_9 rfl QW_8 (by omega) (by decide) (aRu_at hq hk) ?_
  exact V_iret C .int dX7_rule_10 hr rfl ⟨rfl, rfl, rfl⟩ (by omega) (by omega)
set_option maxHeartbeats 4000000 in
theorem m_hard {l : Launch} {D : va_G} {ba d : Nat} {ad : Adr} (hl : l.stackTraces = false) (hd : 2 ≤ d) {i : Nat} {σ : CS} {th ro : Int32} {lo ma ap : Nat → Int32} {o : Wd} (hσ : cOK σ) {j : Nat} (hj : j < cN σ) {k : Nat} (hk : k < hSc (cH σ j)) {du : Nat} (hdu : du ≤ 100)  : CT l yX7_hard (wsO yX7_hard cX7_hard 4 (some .int)) d 0 0 D ba [.ref (ad [i]), .int (nI j), .int (nI k), .int (nI du)] ad (QW i ad σ th ro lo ma ap o) (isR (some (.int (nI ((hSu (cH σ j) k).1 - du / 5)))) ad (QW i ad σ th ro lo ma ap o)) noX := by
  refine CT_of RX7 rfl (by decide +kernel) hl (Nat.le_of_ble_eq_true rfl) ?_
  intro p e s m args below meth c C hr hnm
  refine V_lvE (lv' := [(0, .ref (ad [i])), (1, .int (nI j)), (2, .int (nI k)), (3, .int (nI du))]) rfl ?_
  have hσ1 := hσ.1
  have hσ2 := hσ.2.1
  have hu := hσ.2.2.1 j hj
  have hu1 := hu.1
  have hu2 := hu.2.1
  have hu3 := hu.2.2.1
  have hu4 := hu.2.2.2.1
  have hu9 := (hu.2.2.2.2 k hk).1
  refine V_iconst (v := nI 0) C dX7_hard_0 (by decide) ?_
  refine V_aload_n C dX7_hard_1 0 rfl ?_
  refine V_get (ci := 6) (k := 11) C dX7_hard_2 RX7 RX7 TX7 17 fw_X7 rfl (by decide) tw_679 rfl rfl QW_o rfl ?_
  refine V_bipush (v := nI 6) C dX7_hard_5 (by decide) ?_
  refine V_iload_n C dX7_hard_7 1 rfl ?_
  refine V_imuln C dX7_hard_8 ?_
  refine V_iload_n C dX7_hard_9 2 rfl ?_
  refine V_iaddn C dX7_hard_10 ?_
  refine V_ialdn (v := (nI ((hSu (cH σ j) k).1))) C dX7_hard_11 rfl QW_7 (by omega) (by decide) (aHb_at hj hk (by omega)) ?_
  refine V_iload_n C dX7_hard_12 3 rfl ?_
  refine V_iconst (v := nI 5) C dX7_hard_13 (by decide) ?_
  refine V_idivn C dX7_hard_14 (by omega) (by omega) (by omega) ?_
  refine V_isub C dX7_hard_15 ?_
  refine V_max C dX7_hard_16 tw_798 tw_146 tw_15 tw_147 (by omega) (by simp [Value.category]; try omega) (by omega) (by omega) ?_
  rw [show (if (nI 0) < (nI (hSu (cH σ j) k).1 - nI (du / 5)) then (nI (hSu (cH σ j) k).1 - nI (du / 5)) else (nI 0)) = (nI ((hSu (cH σ j) k).1 - du / 5)) from nI_sub0 (by omega) (by omega)]
  exact V_iret C .int dX7_hard_19 hr rfl ⟨rfl, rfl, rfl⟩ (by omega) (by omega)
set_option maxHeartbeats 4000000 in
theorem m_strike {l : Launch} {D : va_G} {ba d : Nat} {ad : Adr} (hl : l.stackTraces = false) (hd : 1 ≤ d) {i : Nat} {σ : CS} {th ro : Int32} {lo ma ap : Nat → Int32} {o : Wd} (hσ : cOK σ) {j : Nat} (hj : j < cN σ) {a1 a2 a3 a5 : Nat} {a4 : Int32} {a6 : Nat → Nat × Nat}  : CT l yX7_strike (wsO yX7_strike cX7_strike 2 none) d 0 0 D ba [.ref (ad [i]), .int (nI j)] ad (QW i ad (setH σ j (a1, a2, a3, a4, a5, a6)) th ro lo ma ap o) (isR none ad (QW i ad (setH σ j (a1, a2, a3, -1, 0, a6)) th ro lo ma ap o)) noX := by
  refine CT_of RX7 rfl (by decide +kernel) hl (Nat.le_of_ble_eq_true rfl) ?_
  intro p e s m args below meth c C hr hnm
  refine V_lvE (lv' := [(0, .ref (ad [i])), (1, .int (nI j))]) rfl ?_
  have hσ1 := hσ.1
  have hσ2 := hσ.2.1
  refine V_aload_n C dX7_strike_0 0 rfl ?_
  refine V_get (ci := 6) (k := 8) C dX7_strike_1 RX7 RX7 TX7 17 fw_X7 rfl (by decide) tw_676 rfl rfl (QW_o (σ := (setH σ j (a1, a2, a3, a4, a5, a6)))) rfl ?_
  refine V_iload_n C dX7_strike_4 1 rfl ?_
  refine V_iconst (v := -1) C dX7_strike_5 (by decide) ?_
  refine V_iastn C dX7_strike_6 rfl (QW_4 (σ := (setH σ j (a1, a2, a3, a4, a5, a6)))) (by omega) (by decide) ?_
  refine V_wd (w' := wset (QW i ad (setH σ j (a1, a2, a3, a4, a5, a6)) th ro lo ma ap o) ([i, 4]) (eI 8 (upd (aCe (setH σ j (a1, a2, a3, a4, a5, a6))) j (-1)))) rfl ?_
  refine V_wd (w' := QW i ad (setH σ j (a1, a2, a3, -1, a5, a6)) th ro lo ma ap o) (QW_h4 (h' := (a1, a2, a3, -1, a5, a6)) hj rfl) ?_
  refine V_aload_n C dX7_strike_7 0 rfl ?_
  refine V_get (ci := 6) (k := 9) C dX7_strike_8 RX7 RX7 TX7 17 fw_X7 rfl (by decide) tw_677 rfl rfl (QW_o (σ := (setH σ j (a1, a2, a3, -1, a5, a6)))) rfl ?_
  refine V_iload_n C dX7_strike_11 1 rfl ?_
  refine V_iconst (v := nI 0) C dX7_strike_12 (by decide) ?_
  refine V_iastn C dX7_strike_13 rfl (QW_5 (σ := (setH σ j (a1, a2, a3, -1, a5, a6)))) (by omega) (by decide) ?_
  refine V_wd (w' := wset (QW i ad (setH σ j (a1, a2, a3, -1, a5, a6)) th ro lo ma ap o) ([i, 5]) (eI 8 (upd (aDy (setH σ j (a1, a2, a3, -1, a5, a6))) j (nI 0)))) rfl ?_
  refine V_wd (w' := QW i ad (setH σ j (a1, a2, a3, -1, 0, a6)) th ro lo ma ap o) (QW_h5 (h' := (a1, a2, a3, -1, 0, a6)) hj rfl) ?_
  exact V_vret C dX7_strike_14 hr ⟨rfl, rfl, rfl⟩ (by omega) (by omega)
set_option maxHeartbeats 4000000 in
theorem m_surfacesOf {l : Launch} {D : va_G} {ba d : Nat} {ad : Adr} (hl : l.stackTraces = false) (hd : 4 ≤ d) {i : Nat} {σ : CS} {th ro : Int32} {lo ma ap : Nat → Int32} {o : Wd} (hσ : cOK σ) {j : Nat} (hj : j < cN σ)  : CT l yX7_surfacesOf (wsO yX7_surfacesOf cX7_surfacesOf 2 (some .int)) d 8 64 D ba [.ref (ad [i]), .int (nI j)] ad (QW i ad σ th ro lo ma ap o) (RQ i ad σ o (nI 0) (some (.int (nI (hSc (cH σ j)))))) noX := by
  refine CT_of RX7 rfl (by decide +kernel) hl (Nat.le_of_ble_eq_true rfl) ?_
  intro p e s m args below meth c C hr hnm
  refine V_lvE (lv' := [(0, .ref (ad [i])), (1, .int (nI j))]) rfl ?_
  have hσ1 := hσ.1
  have hσ2 := hσ.2.1
  refine V_aload_n C dX7_surfacesOf_0 0 rfl ?_
  refine V_iconst (v := nI 0) C dX7_surfacesOf_1 (by decide) ?_
  refine V_put (ci := 6) (k := 0) C dX7_surfacesOf_2 RX7 RX7 TX7 17 tyX7 tyX7_ok nmX7 fw_X7 rfl (by decide) tw_668 rfl (Or.inl rfl) rfl rfl rfl QW_o (Nat.le_of_ble_eq_true rfl) ?_
  refine V_wd (w' := wset (QW i ad σ th ro lo ma ap o) ([i]) (.inr (6, [.int (nI 0), .int (nI (cN σ)), .int (nI (cK σ)), .int (cDay σ), .int (cIns σ), .ref (ad [i, 1]), .ref (ad [i, 2]), .ref (ad [i, 3]), .ref (ad [i, 4]), .ref (ad [i, 5]), .ref (ad [i, 6]), .ref (ad [i, 7]), .ref (ad [i, 8]), .ref (ad [i, 9]), .ref (ad [i, 10]), .ref (ad [i, 11]), .int ro]))) rfl ?_
  refine V_wd (w' := QW i ad σ (nI 0) ro lo ma ap o) QW_th ?_
  refine V_aload_n C dX7_surfacesOf_5 0 rfl ?_
  refine V_iload_n C dX7_surfacesOf_6 1 rfl ?_
  refine V_callV (r := (RX7, TX7, 17)) C [.int (nI j)] dX7_surfacesOf_7 m_X7_isHall k_X7_isHall tw_739 rfl rfl rfl QW_o rfl rfl (Nat.le_of_ble_eq_true rfl) ⟨by omega, by omega, by omega, by omega⟩ (m_isHall hl (by omega) hσ hj) (kr_some (x := .int (nI 1)) ?_) kx_no
  refine V_ifn_eq (tgt := 22) C dX7_surfacesOf_10 (by decide) (by decide) (fun hb1 => by exfalso; omega) (fun hb1 => ?_)
  refine V_aload_n C dX7_surfacesOf_13 0 rfl ?_
  refine V_get (ci := 6) (k := 5) C dX7_surfacesOf_14 RX7 RX7 TX7 17 fw_X7 rfl (by decide) tw_673 rfl rfl QW_o rfl ?_
  refine V_iload_n C dX7_surfacesOf_17 1 rfl ?_
  refine V_ialdn (v := (nI (hSc (cH σ j)))) C dX7_surfacesOf_18 rfl QW_1 (by omega) (by decide) (row0_in hj) ?_
  refine V_goto (tgt := 27) C dX7_surfacesOf_19 (by decide) ?_
  exact V_iret C .int dX7_surfacesOf_27 hr rfl ⟨rfl, rfl, _, _, _, _, rfl⟩ (by omega) (by omega)
set_option maxHeartbeats 4000000 in
theorem m_surfacesOf_no {l : Launch} {D : va_G} {ba d : Nat} {ad : Adr} (hl : l.stackTraces = false) (hd : 4 ≤ d) {i : Nat} {σ : CS} {th ro : Int32} {lo ma ap : Nat → Int32} {o : Wd} (hσ : cOK σ) {x : Int32} (hx : ∀ j, j < cN σ → x ≠ nI j)  : CT l yX7_surfacesOf (wsO yX7_surfacesOf cX7_surfacesOf 2 (some .int)) d 8 64 D ba [.ref (ad [i]), .int x] ad (QW i ad σ th ro lo ma ap o) (RQ i ad σ o (nI 1) (some (.int (nI 0)))) noX := by
  refine CT_of RX7 rfl (by decide +kernel) hl (Nat.le_of_ble_eq_true rfl) ?_
  intro p e s m args below meth c C hr hnm
  refine V_lvE (lv' := [(0, .ref (ad [i])), (1, .int x)]) rfl ?_
  have hσ1 := hσ.1
  have hσ2 := hσ.2.1
  refine V_aload_n C dX7_surfacesOf_0 0 rfl ?_
  refine V_iconst (v := nI 0) C dX7_surfacesOf_1 (by decide) ?_
  refine V_put (ci := 6) (k := 0) C dX7_surfacesOf_2 RX7 RX7 TX7 17 tyX7 tyX7_ok nmX7 fw_X7 rfl (by decide) tw_668 rfl (Or.inl rfl) rfl rfl rfl QW_o (Nat.le_of_ble_eq_true rfl) ?_
  refine V_wd (w' := wset (QW i ad σ th ro lo ma ap o) ([i]) (.inr (6, [.int (nI 0), .int (nI (cN σ)), .int (nI (cK σ)), .int (cDay σ), .int (cIns σ), .ref (ad [i, 1]), .ref (ad [i, 2]), .ref (ad [i, 3]), .ref (ad [i, 4]), .ref (ad [i, 5]), .ref (ad [i, 6]), .ref (ad [i, 7]), .ref (ad [i, 8]), .ref (ad [i, 9]), .ref (ad [i, 10]), .ref (ad [i, 11]), .int ro]))) rfl ?_
  refine V_wd (w' := QW i ad σ (nI 0) ro lo ma ap o) QW_th ?_
  refine V_aload_n C dX7_surfacesOf_5 0 rfl ?_
  refine V_iload_n C dX7_surfacesOf_6 1 rfl ?_
  refine V_callV (r := (RX7, TX7, 17)) C [.int x] dX7_surfacesOf_7 m_X7_isHall k_X7_isHall tw_739 rfl rfl rfl QW_o rfl rfl (Nat.le_of_ble_eq_true rfl) ⟨by omega, by omega, by omega, by omega⟩ (m_isHall_no hl (by omega) hσ hx) (kr_some (x := .int (nI 0)) ?_) kx_no
  refine V_ifn_eq (tgt := 22) C dX7_surfacesOf_10 (by decide) (by decide) (fun hb1 => ?_) (fun hb1 => by exfalso; omega)
  refine V_aload_n C dX7_surfacesOf_22 0 rfl ?_
  refine V_iconst (v := nI 1) C dX7_surfacesOf_23 (by decide) ?_
  refine V_callV (r := (RX7, TX7, 17)) C [.int (nI 1)] dX7_surfacesOf_24 m_X7_fail k_X7_fail tw_731 rfl rfl rfl QW_o rfl rfl (Nat.le_of_ble_eq_true rfl) ⟨by omega, by omega, by omega, by omega⟩ (m_fail hl (by omega) (nI 1)) (kr_some (x := .int (nI 0)) ?_) kx_no
  exact V_iret C .int dX7_surfacesOf_27 hr rfl ⟨rfl, rfl, _, _, _, _, rfl⟩ (by omega) (by omega)
set_option maxHeartbeats 4000000 in
theorem m_dampingOf {l : Launch} {D : va_G} {ba d : Nat} {ad : Adr} (hl : l.stackTraces = false) (hd : 4 ≤ d) {i : Nat} {σ : CS} {th ro : Int32} {lo ma ap : Nat → Int32} {o : Wd} (hσ : cOK σ) {j : Nat} (hj : j < cN σ)  : CT l yX7_dampingOf (wsO yX7_dampingOf cX7_dampingOf 2 (some .int)) d 8 64 D ba [.ref (ad [i]), .int (nI j)] ad (QW i ad σ th ro lo ma ap o) (RQ i ad σ o (nI 0) (some (.int (nI (hDm (cH σ j)))))) noX := by
  refine CT_of RX7 rfl (by decide +kernel) hl (Nat.le_of_ble_eq_true rfl) ?_
  intro p e s m args below meth c C hr hnm
  refine V_lvE (lv' := [(0, .ref (ad [i])), (1, .int (nI j))]) rfl ?_
  have hσ1 := hσ.1
  have hσ2 := hσ.2.1
  refine V_aload_n C dX7_dampingOf_0 0 rfl ?_
  refine V_iconst (v := nI 0) C dX7_dampingOf_1 (by decide) ?_
  refine V_put (ci := 6) (k := 0) C dX7_dampingOf_2 RX7 RX7 TX7 17 tyX7 tyX7_ok nmX7 fw_X7 rfl (by decide) tw_668 rfl (Or.inl rfl) rfl rfl rfl QW_o (Nat.le_of_ble_eq_true rfl) ?_
  refine V_wd (w' := wset (QW i ad σ th ro lo ma ap o) ([i]) (.inr (6, [.int (nI 0), .int (nI (cN σ)), .int (nI (cK σ)), .int (cDay σ), .int (cIns σ), .ref (ad [i, 1]), .ref (ad [i, 2]), .ref (ad [i, 3]), .ref (ad [i, 4]), .ref (ad [i, 5]), .ref (ad [i, 6]), .ref (ad [i, 7]), .ref (ad [i, 8]), .ref (ad [i, 9]), .ref (ad [i, 10]), .ref (ad [i, 11]), .int ro]))) rfl ?_
  refine V_wd (w' := QW i ad σ (nI 0) ro lo ma ap o) QW_th ?_
  refine V_aload_n C dX7_dampingOf_5 0 rfl ?_
  refine V_iload_n C dX7_dampingOf_6 1 rfl ?_
  refine V_callV (r := (RX7, TX7, 17)) C [.int (nI j)] dX7_dampingOf_7 m_X7_isHall k_X7_isHall tw_739 rfl rfl rfl QW_o rfl rfl (Nat.le_of_ble_eq_true rfl) ⟨by omega, by omega, by omega, by omega⟩ (m_isHall hl (by omega) hσ hj) (kr_some (x := .int (nI 1)) ?_) kx_no
  refine V_ifn_eq (tgt := 22) C dX7_dampingOf_10 (by decide) (by decide) (fun hb1 => by exfalso; omega) (fun hb1 => ?_)
  refine V_aload_n C dX7_dampingOf_13 0 rfl ?_
  refine V_get (ci := 6) (k := 6) C dX7_dampingOf_14 RX7 RX7 TX7 17 fw_X7 rfl (by decide) tw_674 rfl rfl QW_o rfl ?_
  refine V_iload_n C dX7_dampingOf_17 1 rfl ?_
  refine V_ialdn (v := (nI (hDm (cH σ j)))) C dX7_dampingOf_18 rfl QW_2 (by omega) (by decide) (row0_in hj) ?_
  refine V_goto (tgt := 27) C dX7_dampingOf_19 (by decide) ?_
  exact V_iret C .int dX7_dampingOf_27 hr rfl ⟨rfl, rfl, _, _, _, _, rfl⟩ (by omega) (by omega)
set_option maxHeartbeats 4000000 in
theorem m_dampingOf_no {l : Launch} {D : va_G} {ba d : Nat} {ad : Adr} (hl : l.stackTraces = false) (hd : 4 ≤ d) {i : Nat} {σ : CS} {th ro : Int32} {lo ma ap : Nat → Int32} {o : Wd} (hσ : cOK σ) {x : Int32} (hx : ∀ j, j < cN σ → x ≠ nI j)  : CT l yX7_dampingOf (wsO yX7_dampingOf cX7_dampingOf 2 (some .int)) d 8 64 D ba [.ref (ad [i]), .int x] ad (QW i ad σ th ro lo ma ap o) (RQ i ad σ o (nI 1) (some (.int (nI 0)))) noX := by
  refine CT_of RX7 rfl (by decide +kernel) hl (Nat.le_of_ble_eq_true rfl) ?_
  intro p e s m args below meth c C hr hnm
  refine V_lvE (lv' := [(0, .ref (ad [i])), (1, .int x)]) rfl ?_
  have hσ1 := hσ.1
  have hσ2 := hσ.2.1
  refine V_aload_n C dX7_dampingOf_0 0 rfl ?_
  refine V_iconst (v := nI 0) C dX7_dampingOf_1 (by decide) ?_
  refine V_put (ci := 6) (k := 0) C dX7_dampingOf_2 RX7 RX7 TX7 17 tyX7 tyX7_ok nmX7 fw_X7 rfl (by decide) tw_668 rfl (Or.inl rfl) rfl rfl rfl QW_o (Nat.le_of_ble_eq_true rfl) ?_
  refine V_wd (w' := wset (QW i ad σ th ro lo ma ap o) ([i]) (.inr (6, [.int (nI 0), .int (nI (cN σ)), .int (nI (cK σ)), .int (cDay σ), .int (cIns σ), .ref (ad [i, 1]), .ref (ad [i, 2]), .ref (ad [i, 3]), .ref (ad [i, 4]), .ref (ad [i, 5]), .ref (ad [i, 6]), .ref (ad [i, 7]), .ref (ad [i, 8]), .ref (ad [i, 9]), .ref (ad [i, 10]), .ref (ad [i, 11]), .int ro]))) rfl ?_
  refine V_wd (w' := QW i ad σ (nI 0) ro lo ma ap o) QW_th ?_
  refine V_aload_n C dX7_dampingOf_5 0 rfl ?_
  refine V_iload_n C dX7_dampingOf_6 1 rfl ?_
  refine V_callV (r := (RX7, TX7, 17)) C [.int x] dX7_dampingOf_7 m_X7_isHall k_X7_isHall tw_739 rfl rfl rfl QW_o rfl rfl (Nat.le_of_ble_eq_true rfl) ⟨by omega, by omega, by omega, by omega⟩ (m_isHall_no hl (by omega) hσ hx) (kr_some (x := .int (nI 0)) ?_) kx_no
  refine V_ifn_eq (tgt := 22) C dX7_dampingOf_10 (by decide) (by decide) (fun hb1 => ?_) (fun hb1 => by exfalso; omega)
  refine V_aload_n C dX7_dampingOf_22 0 rfl ?_
  refine V_iconst (v := nI 1) C dX7_dampingOf_23 (by decide) ?_
  refine V_callV (r := (RX7, TX7, 17)) C [.int (nI 1)] dX7_dampingOf_24 m_X7_fail k_X7_fail tw_731 rfl rfl rfl QW_o rfl rfl (Nat.le_of_ble_eq_true rfl) ⟨by omega, by omega, by omega, by omega⟩ (m_fail hl (by omega) (nI 1)) (kr_some (x := .int (nI 0)) ?_) kx_no
  exact V_iret C .int dX7_dampingOf_27 hr rfl ⟨rfl, rfl, _, _, _, _, rfl⟩ (by omega) (by omega)
set_option maxHeartbeats 4000000 in
theorem m_dustOf {l : Launch} {D : va_G} {ba d : Nat} {ad : Adr} (hl : l.stackTraces = false) (hd : 4 ≤ d) {i : Nat} {σ : CS} {th ro : Int32} {lo ma ap : Nat → Int32} {o : Wd} (hσ : cOK σ) {j : Nat} (hj : j < cN σ)  : CT l yX7_dustOf (wsO yX7_dustOf cX7_dustOf 2 (some .int)) d 8 64 D ba [.ref (ad [i]), .int (nI j)] ad (QW i ad σ th ro lo ma ap o) (RQ i ad σ o (nI 0) (some (.int (nI (hDu (cH σ j)))))) noX := by
  refine CT_of RX7 rfl (by decide +kernel) hl (Nat.le_of_ble_eq_true rfl) ?_
  intro p e s m args below meth c C hr hnm
  refine V_lvE (lv' := [(0, .ref (ad [i])), (1, .int (nI j))]) rfl ?_
  have hσ1 := hσ.1
  have hσ2 := hσ.2.1
  refine V_aload_n C dX7_dustOf_0 0 rfl ?_
  refine V_iconst (v := nI 0) C dX7_dustOf_1 (by decide) ?_
  refine V_put (ci := 6) (k := 0) C dX7_dustOf_2 RX7 RX7 TX7 17 tyX7 tyX7_ok nmX7 fw_X7 rfl (by decide) tw_668 rfl (Or.inl rfl) rfl rfl rfl QW_o (Nat.le_of_ble_eq_true rfl) ?_
  refine V_wd (w' := wset (QW i ad σ th ro lo ma ap o) ([i]) (.inr (6, [.int (nI 0), .int (nI (cN σ)), .int (nI (cK σ)), .int (cDay σ), .int (cIns σ), .ref (ad [i, 1]), .ref (ad [i, 2]), .ref (ad [i, 3]), .ref (ad [i, 4]), .ref (ad [i, 5]), .ref (ad [i, 6]), .ref (ad [i, 7]), .ref (ad [i, 8]), .ref (ad [i, 9]), .ref (ad [i, 10]), .ref (ad [i, 11]), .int ro]))) rfl ?_
  refine V_wd (w' := QW i ad σ (nI 0) ro lo ma ap o) QW_th ?_
  refine V_aload_n C dX7_dustOf_5 0 rfl ?_
  refine V_iload_n C dX7_dustOf_6 1 rfl ?_
  refine V_callV (r := (RX7, TX7, 17)) C [.int (nI j)] dX7_dustOf_7 m_X7_isHall k_X7_isHall tw_739 rfl rfl rfl QW_o rfl rfl (Nat.le_of_ble_eq_true rfl) ⟨by omega, by omega, by omega, by omega⟩ (m_isHall hl (by omega) hσ hj) (kr_some (x := .int (nI 1)) ?_) kx_no
  refine V_ifn_eq (tgt := 22) C dX7_dustOf_10 (by decide) (by decide) (fun hb1 => by exfalso; omega) (fun hb1 => ?_)
  refine V_aload_n C dX7_dustOf_13 0 rfl ?_
  refine V_get (ci := 6) (k := 7) C dX7_dustOf_14 RX7 RX7 TX7 17 fw_X7 rfl (by decide) tw_675 rfl rfl QW_o rfl ?_
  refine V_iload_n C dX7_dustOf_17 1 rfl ?_
  refine V_ialdn (v := (nI (hDu (cH σ j)))) C dX7_dustOf_18 rfl QW_3 (by omega) (by decide) (row0_in hj) ?_
  refine V_goto (tgt := 27) C dX7_dustOf_19 (by decide) ?_
  exact V_iret C .int dX7_dustOf_27 hr rfl ⟨rfl, rfl, _, _, _, _, rfl⟩ (by omega) (by omega)
set_option maxHeartbeats 4000000 in
theorem m_dustOf_no {l : Launch} {D : va_G} {ba d : Nat} {ad : Adr} (hl : l.stackTraces = false) (hd : 4 ≤ d) {i : Nat} {σ : CS} {th ro : Int32} {lo ma ap : Nat → Int32} {o : Wd} (hσ : cOK σ) {x : Int32} (hx : ∀ j, j < cN σ → x ≠ nI j)  : CT l yX7_dustOf (wsO yX7_dustOf cX7_dustOf 2 (some .int)) d 8 64 D ba [.ref (ad [i]), .int x] ad (QW i ad σ th ro lo ma ap o) (RQ i ad σ o (nI 1) (some (.int (nI 0)))) noX := by
  refine CT_of RX7 rfl (by decide +kernel) hl (Nat.le_of_ble_eq_true rfl) ?_
  intro p e s m args below meth c C hr hnm
  refine V_lvE (lv' := [(0, .ref (ad [i])), (1, .int x)]) rfl ?_
  have hσ1 := hσ.1
  have hσ2 := hσ.2.1
  refine V_aload_n C dX7_dustOf_0 0 rfl ?_
  refine V_iconst (v := nI 0) C dX7_dustOf_1 (by decide) ?_
  refine V_put (ci := 6) (k := 0) C dX7_dustOf_2 RX7 RX7 TX7 17 tyX7 tyX7_ok nmX7 fw_X7 rfl (by decide) tw_668 rfl (Or.inl rfl) rfl rfl rfl QW_o (Nat.le_of_ble_eq_true rfl) ?_
  refine V_wd (w' := wset (QW i ad σ th ro lo ma ap o) ([i]) (.inr (6, [.int (nI 0), .int (nI (cN σ)), .int (nI (cK σ)), .int (cDay σ), .int (cIns σ), .ref (ad [i, 1]), .ref (ad [i, 2]), .ref (ad [i, 3]), .ref (ad [i, 4]), .ref (ad [i, 5]), .ref (ad [i, 6]), .ref (ad [i, 7]), .ref (ad [i, 8]), .ref (ad [i, 9]), .ref (ad [i, 10]), .ref (ad [i, 11]), .int ro]))) rfl ?_
  refine V_wd (w' := QW i ad σ (nI 0) ro lo ma ap o) QW_th ?_
  refine V_aload_n C dX7_dustOf_5 0 rfl ?_
  refine V_iload_n C dX7_dustOf_6 1 rfl ?_
  refine V_callV (r := (RX7, TX7, 17)) C [.int x] dX7_dustOf_7 m_X7_isHall k_X7_isHall tw_739 rfl rfl rfl QW_o rfl rfl (Nat.le_of_ble_eq_true rfl) ⟨by omega, by omega, by omega, by omega⟩ (m_isHall_no hl (by omega) hσ hx) (kr_some (x := .int (nI 0)) ?_) kx_no
  refine V_ifn_eq (tgt := 22) C dX7_dustOf_10 (by decide) (by decide) (fun hb1 => ?_) (fun hb1 => by exfalso; omega)
  refine V_aload_n C dX7_dustOf_22 0 rfl ?_
  refine V_iconst (v := nI 1) C dX7_dustOf_23 (by decide) ?_
  refine V_callV (r := (RX7, TX7, 17)) C [.int (nI 1)] dX7_dustOf_24 m_X7_fail k_X7_fail tw_731 rfl rfl rfl QW_o rfl rfl (Nat.le_of_ble_eq_true rfl) ⟨by omega, by omega, by omega, by omega⟩ (m_fail hl (by omega) (nI 1)) (kr_some (x := .int (nI 0)) ?_) kx_no
  exact V_iret C .int dX7_dustOf_27 hr rfl ⟨rfl, rfl, _, _, _, _, rfl⟩ (by omega) (by omega)
set_option maxHeartbeats 4000000 in
theorem m_daysLeft {l : Launch} {D : va_G} {ba d : Nat} {ad : Adr} (hl : l.stackTraces = false) (hd : 4 ≤ d) {i : Nat} {σ : CS} {th ro : Int32} {lo ma ap : Nat → Int32} {o : Wd} (hσ : cOK σ) {j : Nat} (hj : j < cN σ)  : CT l yX7_daysLeft (wsO yX7_daysLeft cX7_daysLeft 2 (some .int)) d 8 64 D ba [.ref (ad [i]), .int (nI j)] ad (QW i ad σ th ro lo ma ap o) (RQ i ad σ o (nI 0) (some (.int (nI (hDy (cH σ j)))))) noX := by
  refine CT_of RX7 rfl (by decide +kernel) hl (Nat.le_of_ble_eq_true rfl) ?_
  intro p e s m args below meth c C hr hnm
  refine V_lvE (lv' := [(0, .ref (ad [i])), (1, .int (nI j))]) rfl ?_
  have hσ1 := hσ.1
  have hσ2 := hσ.2.1
  refine V_aload_n C dX7_daysLeft_0 0 rfl ?_
  refine V_iconst (v := nI 0) C dX7_daysLeft_1 (by decide) ?_
  refine V_put (ci := 6) (k := 0) C dX7_daysLeft_2 RX7 RX7 TX7 17 tyX7 tyX7_ok nmX7 fw_X7 rfl (by decide) tw_668 rfl (Or.inl rfl) rfl rfl rfl QW_o (Nat.le_of_ble_eq_true rfl) ?_
  refine V_wd (w' := wset (QW i ad σ th ro lo ma ap o) ([i]) (.inr (6, [.int (nI 0), .int (nI (cN σ)), .int (nI (cK σ)), .int (cDay σ), .int (cIns σ), .ref (ad [i, 1]), .ref (ad [i, 2]), .ref (ad [i, 3]), .ref (ad [i, 4]), .ref (ad [i, 5]), .ref (ad [i, 6]), .ref (ad [i, 7]), .ref (ad [i, 8]), .ref (ad [i, 9]), .ref (ad [i, 10]), .ref (ad [i, 11]), .int ro]))) rfl ?_
  refine V_wd (w' := QW i ad σ (nI 0) ro lo ma ap o) QW_th ?_
  refine V_aload_n C dX7_daysLeft_5 0 rfl ?_
  refine V_iload_n C dX7_daysLeft_6 1 rfl ?_
  refine V_callV (r := (RX7, TX7, 17)) C [.int (nI j)] dX7_daysLeft_7 m_X7_isHall k_X7_isHall tw_739 rfl rfl rfl QW_o rfl rfl (Nat.le_of_ble_eq_true rfl) ⟨by omega, by omega, by omega, by omega⟩ (m_isHall hl (by omega) hσ hj) (kr_some (x := .int (nI 1)) ?_) kx_no
  refine V_ifn_eq (tgt := 22) C dX7_daysLeft_10 (by decide) (by decide) (fun hb1 => by exfalso; omega) (fun hb1 => ?_)
  refine V_aload_n C dX7_daysLeft_13 0 rfl ?_
  refine V_get (ci := 6) (k := 9) C dX7_daysLeft_14 RX7 RX7 TX7 17 fw_X7 rfl (by decide) tw_677 rfl rfl QW_o rfl ?_
  refine V_iload_n C dX7_daysLeft_17 1 rfl ?_
  refine V_ialdn (v := (nI (hDy (cH σ j)))) C dX7_daysLeft_18 rfl QW_5 (by omega) (by decide) (row0_in hj) ?_
  refine V_goto (tgt := 27) C dX7_daysLeft_19 (by decide) ?_
  exact V_iret C .int dX7_daysLeft_27 hr rfl ⟨rfl, rfl, _, _, _, _, rfl⟩ (by omega) (by omega)
set_option maxHeartbeats 4000000 in
theorem m_daysLeft_no {l : Launch} {D : va_G} {ba d : Nat} {ad : Adr} (hl : l.stackTraces = false) (hd : 4 ≤ d) {i : Nat} {σ : CS} {th ro : Int32} {lo ma ap : Nat → Int32} {o : Wd} (hσ : cOK σ) {x : Int32} (hx : ∀ j, j < cN σ → x ≠ nI j)  : CT l yX7_daysLeft (wsO yX7_daysLeft cX7_daysLeft 2 (some .int)) d 8 64 D ba [.ref (ad [i]), .int x] ad (QW i ad σ th ro lo ma ap o) (RQ i ad σ o (nI 1) (some (.int (nI 0)))) noX := by
  refine CT_of RX7 rfl (by decide +kernel) hl (Nat.le_of_ble_eq_true rfl) ?_
  intro p e s m args below meth c C hr hnm
  refine V_lvE (lv' := [(0, .ref (ad [i])), (1, .int x)]) rfl ?_
  have hσ1 := hσ.1
  have hσ2 := hσ.2.1
  refine V_aload_n C dX7_daysLeft_0 0 rfl ?_
  refine V_iconst (v := nI 0) C dX7_daysLeft_1 (by decide) ?_
  refine V_put (ci := 6) (k := 0) C dX7_daysLeft_2 RX7 RX7 TX7 17 tyX7 tyX7_ok nmX7 fw_X7 rfl (by decide) tw_668 rfl (Or.inl rfl) rfl rfl rfl QW_o (Nat.le_of_ble_eq_true rfl) ?_
  refine V_wd (w' := wset (QW i ad σ th ro lo ma ap o) ([i]) (.inr (6, [.int (nI 0), .int (nI (cN σ)), .int (nI (cK σ)), .int (cDay σ), .int (cIns σ), .ref (ad [i, 1]), .ref (ad [i, 2]), .ref (ad [i, 3]), .ref (ad [i, 4]), .ref (ad [i, 5]), .ref (ad [i, 6]), .ref (ad [i, 7]), .ref (ad [i, 8]), .ref (ad [i, 9]), .ref (ad [i, 10]), .ref (ad [i, 11]), .int ro]))) rfl ?_
  refine V_wd (w' := QW i ad σ (nI 0) ro lo ma ap o) QW_th ?_
  refine V_aload_n C dX7_daysLeft_5 0 rfl ?_
  refine V_iload_n C dX7_daysLeft_6 1 rfl ?_
  refine V_callV (r := (RX7, TX7, 17)) C [.int x] dX7_daysLeft_7 m_X7_isHall k_X7_isHall tw_739 rfl rfl rfl QW_o rfl rfl (Nat.le_of_ble_eq_true rfl) ⟨by omega, by omega, by omega, by omega⟩ (m_isHall_no hl (by omega) hσ hx) (kr_some (x := .int (nI 0)) ?_) kx_no
  refine V_ifn_eq (tgt := 22) C dX7_daysLeft_10 (by decide) (by decide) (fun hb1 => ?_) (fun hb1 => by exfalso; omega)
  refine V_aload_n C dX7_daysLeft_22 0 rfl ?_
  refine V_iconst (v := nI 1) C dX7_daysLeft_23 (by decide) ?_
  refine V_callV (r := (RX7, TX7, 17)) C [.int (nI 1)] dX7_daysLeft_24 m_X7_fail k_X7_fail tw_731 rfl rfl rfl QW_o rfl rfl (Nat.le_of_ble_eq_true rfl) ⟨by omega, by omega, by omega, by omega⟩ (m_fail hl (by omega) (nI 1)) (kr_some (x := .int (nI 0)) ?_) kx_no
  exact V_iret C .int dX7_daysLeft_27 hr rfl ⟨rfl, rfl, _, _, _, _, rfl⟩ (by omega) (by omega)
set_option maxHeartbeats 4000000 in
theorem m_distanceOf {l : Launch} {D : va_G} {ba d : Nat} {ad : Adr} (hl : l.stackTraces = false) (hd : 4 ≤ d) {i : Nat} {σ : CS} {th ro : Int32} {lo ma ap : Nat → Int32} {o : Wd} (hσ : cOK σ) {j : Nat} (hj : j < cN σ) {k : Nat} (hk : k < hSc (cH σ j))  : CT l yX7_distanceOf (wsO yX7_distanceOf cX7_distanceOf 3 (some .int)) d 8 64 D ba [.ref (ad [i]), .int (nI j), .int (nI k)] ad (QW i ad σ th ro lo ma ap o) (RQ i ad σ o (nI 0) (some (.int (nI ((hSu (cH σ j) k).2))))) noX := by
  refine CT_of RX7 rfl (by decide +kernel) hl (Nat.le_of_ble_eq_true rfl) ?_
  intro p e s m args below meth c C hr hnm
  refine V_lvE (lv' := [(0, .ref (ad [i])), (1, .int (nI j)), (2, .int (nI k))]) rfl ?_
  have hσ1 := hσ.1
  have hσ2 := hσ.2.1
  have hu := hσ.2.2.1 j hj
  have hu1 := hu.1
  have hu2 := hu.2.1
  have hu3 := hu.2.2.1
  have hu4 := hu.2.2.2.1
  refine V_aload_n C dX7_distanceOf_0 0 rfl ?_
  refine V_iconst (v := nI 0) C dX7_distanceOf_1 (by decide) ?_
  refine V_put (ci := 6) (k := 0) C dX7_distanceOf_2 RX7 RX7 TX7 17 tyX7 tyX7_ok nmX7 fw_X7 rfl (by decide) tw_668 rfl (Or.inl rfl) rfl rfl rfl QW_o (Nat.le_of_ble_eq_true rfl) ?_
  refine V_wd (w' := wset (QW i ad σ th ro lo ma ap o) ([i]) (.inr (6, [.int (nI 0), .int (nI (cN σ)), .int (nI (cK σ)), .int (cDay σ), .int (cIns σ), .ref (ad [i, 1]), .ref (ad [i, 2]), .ref (ad [i, 3]), .ref (ad [i, 4]), .ref (ad [i, 5]), .ref (ad [i, 6]), .ref (ad [i, 7]), .ref (ad [i, 8]), .ref (ad [i, 9]), .ref (ad [i, 10]), .ref (ad [i, 11]), .int ro]))) rfl ?_
  refine V_wd (w' := QW i ad σ (nI 0) ro lo ma ap o) QW_th ?_
  refine V_aload_n C dX7_distanceOf_5 0 rfl ?_
  refine V_iload_n C dX7_distanceOf_6 1 rfl ?_
  refine V_iload_n C dX7_distanceOf_7 2 rfl ?_
  refine V_callV (r := (RX7, TX7, 17)) C [.int (nI j), .int (nI k)] dX7_distanceOf_8 m_X7_isSurface k_X7_isSurface tw_751 rfl rfl rfl QW_o rfl rfl (Nat.le_of_ble_eq_true rfl) ⟨by omega, by omega, by omega, by omega⟩ (m_isSurf hl (by omega) hσ hj hk) (kr_some (x := .int (nI 1)) ?_) kx_no
  refine V_ifn_eq (tgt := 28) C dX7_distanceOf_11 (by decide) (by decide) (fun hb1 => by exfalso; omega) (fun hb1 => ?_)
  refine V_aload_n C dX7_distanceOf_14 0 rfl ?_
  refine V_get (ci := 6) (k := 10) C dX7_distanceOf_15 RX7 RX7 TX7 17 fw_X7 rfl (by decide) tw_678 rfl rfl QW_o rfl ?_
  refine V_bipush (v := nI 6) C dX7_distanceOf_18 (by decide) ?_
  refine V_iload_n C dX7_distanceOf_20 1 rfl ?_
  refine V_imuln C dX7_distanceOf_21 ?_
  refine V_iload_n C dX7_distanceOf_22 2 rfl ?_
  refine V_iaddn C dX7_distanceOf_23 ?_
  refine V_ialdn (v := (nI ((hSu (cH σ j) k).2))) C dX7_distanceOf_24 rfl QW_6 (by omega) (by decide) (aDs_at hj hk (by omega)) ?_
  refine V_goto (tgt := 33) C dX7_distanceOf_25 (by decide) ?_
  exact V_iret C .int dX7_distanceOf_33 hr rfl ⟨rfl, rfl, _, _, _, _, rfl⟩ (by omega) (by omega)
set_option maxHeartbeats 4000000 in
theorem m_hardnessOf {l : Launch} {D : va_G} {ba d : Nat} {ad : Adr} (hl : l.stackTraces = false) (hd : 4 ≤ d) {i : Nat} {σ : CS} {th ro : Int32} {lo ma ap : Nat → Int32} {o : Wd} (hσ : cOK σ) {j : Nat} (hj : j < cN σ) {k : Nat} (hk : k < hSc (cH σ j))  : CT l yX7_hardnessOf (wsO yX7_hardnessOf cX7_hardnessOf 3 (some .int)) d 8 64 D ba [.ref (ad [i]), .int (nI j), .int (nI k)] ad (QW i ad σ th ro lo ma ap o) (RQ i ad σ o (nI 0) (some (.int (nI ((hSu (cH σ j) k).1 - hDu (cH σ j) / 5))))) noX := by
  refine CT_of RX7 rfl (by decide +kernel) hl (Nat.le_of_ble_eq_true rfl) ?_
  intro p e s m args below meth c C hr hnm
  refine V_lvE (lv' := [(0, .ref (ad [i])), (1, .int (nI j)), (2, .int (nI k))]) rfl ?_
  have hσ1 := hσ.1
  have hσ2 := hσ.2.1
  have hu := hσ.2.2.1 j hj
  have hu1 := hu.1
  have hu2 := hu.2.1
  have hu3 := hu.2.2.1
  have hu4 := hu.2.2.2.1
  refine V_aload_n C dX7_hardnessOf_0 0 rfl ?_
  refine V_iconst (v := nI 0) C dX7_hardnessOf_1 (by decide) ?_
  refine V_put (ci := 6) (k := 0) C dX7_hardnessOf_2 RX7 RX7 TX7 17 tyX7 tyX7_ok nmX7 fw_X7 rfl (by decide) tw_668 rfl (Or.inl rfl) rfl rfl rfl QW_o (Nat.le_of_ble_eq_true rfl) ?_
  refine V_wd (w' := wset (QW i ad σ th ro lo ma ap o) ([i]) (.inr (6, [.int (nI 0), .int (nI (cN σ)), .int (nI (cK σ)), .int (cDay σ), .int (cIns σ), .ref (ad [i, 1]), .ref (ad [i, 2]), .ref (ad [i, 3]), .ref (ad [i, 4]), .ref (ad [i, 5]), .ref (ad [i, 6]), .ref (ad [i, 7]), .ref (ad [i, 8]), .ref (ad [i, 9]), .ref (ad [i, 10]), .ref (ad [i, 11]), .int ro]))) rfl ?_
  refine V_wd (w' := QW i ad σ (nI 0) ro lo ma ap o) QW_th ?_
  refine V_aload_n C dX7_hardnessOf_5 0 rfl ?_
  refine V_iload_n C dX7_hardnessOf_6 1 rfl ?_
  refine V_iload_n C dX7_hardnessOf_7 2 rfl ?_
  refine V_callV (r := (RX7, TX7, 17)) C [.int (nI j), .int (nI k)] dX7_hardnessOf_8 m_X7_isSurface k_X7_isSurface tw_751 rfl rfl rfl QW_o rfl rfl (Nat.le_of_ble_eq_true rfl) ⟨by omega, by omega, by omega, by omega⟩ (m_isSurf hl (by omega) hσ hj hk) (kr_some (x := .int (nI 1)) ?_) kx_no
  refine V_ifn_eq (tgt := 29) C dX7_hardnessOf_11 (by decide) (by decide) (fun hb1 => by exfalso; omega) (fun hb1 => ?_)
  refine V_aload_n C dX7_hardnessOf_14 0 rfl ?_
  refine V_iload_n C dX7_hardnessOf_15 1 rfl ?_
  refine V_iload_n C dX7_hardnessOf_16 2 rfl ?_
  refine V_aload_n C dX7_hardnessOf_17 0 rfl ?_
  refine V_get (ci := 6) (k := 7) C dX7_hardnessOf_18 RX7 RX7 TX7 17 fw_X7 rfl (by decide) tw_675 rfl rfl QW_o rfl ?_
  refine V_iload_n C dX7_hardnessOf_21 1 rfl ?_
  refine V_ialdn (v := (nI (hDu (cH σ j)))) C dX7_hardnessOf_22 rfl QW_3 (by omega) (by decide) (row0_in hj) ?_
  refine V_callV (r := (RX7, TX7, 17)) C [.int (nI j), .int (nI k), .int (nI (hDu (cH σ j)))] dX7_hardnessOf_23 m_X7_hard k_X7_hard tw_794 rfl rfl rfl QW_o rfl rfl (Nat.le_of_ble_eq_true rfl) ⟨by omega, by omega, by omega, by omega⟩ (m_hard hl (by omega) hσ hj hk hu3) (kr_some (x := .int (nI ((hSu (cH σ j) k).1 - hDu (cH σ j) / 5))) ?_) kx_no
  refine V_goto (tgt := 34) C dX7_hardnessOf_26 (by decide) ?_
  exact V_iret C .int dX7_hardnessOf_34 hr rfl ⟨rfl, rfl, _, _, _, _, rfl⟩ (by omega) (by omega)
set_option maxHeartbeats 4000000 in
theorem m_distanceOf_no {l : Launch} {D : va_G} {ba d : Nat} {ad : Adr} (hl : l.stackTraces = false) (hd : 4 ≤ d) {i : Nat} {σ : CS} {th ro : Int32} {lo ma ap : Nat → Int32} {o : Wd} (hσ : cOK σ) {x : Int32} (hx : ∀ j, j < cN σ → x ≠ nI j) (y : Int32)  : CT l yX7_distanceOf (wsO yX7_distanceOf cX7_distanceOf 3 (some .int)) d 8 64 D ba [.ref (ad [i]), .int x, .int y] ad (QW i ad σ th ro lo ma ap o) (RQ i ad σ o (nI 1) (some (.int (nI 0)))) noX := by
  refine CT_of RX7 rfl (by decide +kernel) hl (Nat.le_of_ble_eq_true rfl) ?_
  intro p e s m args below meth c C hr hnm
  refine V_lvE (lv' := [(0, .ref (ad [i])), (1, .int x), (2, .int y)]) rfl ?_
  have hσ1 := hσ.1
  have hσ2 := hσ.2.1
  refine V_aload_n C dX7_distanceOf_0 0 rfl ?_
  refine V_iconst (v := nI 0) C dX7_distanceOf_1 (by decide) ?_
  refine V_put (ci := 6) (k := 0) C dX7_distanceOf_2 RX7 RX7 TX7 17 tyX7 tyX7_ok nmX7 fw_X7 rfl (by decide) tw_668 rfl (Or.inl rfl) rfl rfl rfl QW_o (Nat.le_of_ble_eq_true rfl) ?_
  refine V_wd (w' := wset (QW i ad σ th ro lo ma ap o) ([i]) (.inr (6, [.int (nI 0), .int (nI (cN σ)), .int (nI (cK σ)), .int (cDay σ), .int (cIns σ), .ref (ad [i, 1]), .ref (ad [i, 2]), .ref (ad [i, 3]), .ref (ad [i, 4]), .ref (ad [i, 5]), .ref (ad [i, 6]), .ref (ad [i, 7]), .ref (ad [i, 8]), .ref (ad [i, 9]), .ref (ad [i, 10]), .ref (ad [i, 11]), .int ro]))) rfl ?_
  refine V_wd (w' := QW i ad σ (nI 0) ro lo ma ap o) QW_th ?_
  refine V_aload_n C dX7_distanceOf_5 0 rfl ?_
  refine V_iload_n C dX7_distanceOf_6 1 rfl ?_
  refine V_iload_n C dX7_distanceOf_7 2 rfl ?_
  refine V_callV (r := (RX7, TX7, 17)) C [.int x, .int y] dX7_distanceOf_8 m_X7_isSurface k_X7_isSurface tw_751 rfl rfl rfl QW_o rfl rfl (Nat.le_of_ble_eq_true rfl) ⟨by omega, by omega, by omega, by omega⟩ (m_isSurf_no hl (by omega) hσ hx y) (kr_some (x := .int (nI 0)) ?_) kx_no
  refine V_ifn_eq (tgt := 28) C dX7_distanceOf_11 (by decide) (by decide) (fun hb1 => ?_) (fun hb1 => by exfalso; omega)
  refine V_aload_n C dX7_distanceOf_28 0 rfl ?_
  refine V_iconst (v := nI 1) C dX7_distanceOf_29 (by decide) ?_
  refine V_callV (r := (RX7, TX7, 17)) C [.int (nI 1)] dX7_distanceOf_30 m_X7_fail k_X7_fail tw_731 rfl rfl rfl QW_o rfl rfl (Nat.le_of_ble_eq_true rfl) ⟨by omega, by omega, by omega, by omega⟩ (m_fail hl (by omega) (nI 1)) (kr_some (x := .int (nI 0)) ?_) kx_no
  exact V_iret C .int dX7_distanceOf_33 hr rfl ⟨rfl, rfl, _, _, _, _, rfl⟩ (by omega) (by omega)
set_option maxHeartbeats 4000000 in
theorem m_distanceOf_no2 {l : Launch} {D : va_G} {ba d : Nat} {ad : Adr} (hl : l.stackTraces = false) (hd : 4 ≤ d) {i : Nat} {σ : CS} {th ro : Int32} {lo ma ap : Nat → Int32} {o : Wd} (hσ : cOK σ) {j : Nat} (hj : j < cN σ) {x2 : Int32} (hx2 : ∀ k, k < hSc (cH σ j) → x2 ≠ nI k)  : CT l yX7_distanceOf (wsO yX7_distanceOf cX7_distanceOf 3 (some .int)) d 8 64 D ba [.ref (ad [i]), .int (nI j), .int x2] ad (QW i ad σ th ro lo ma ap o) (RQ i ad σ o (nI 1) (some (.int (nI 0)))) noX := by
  refine CT_of RX7 rfl (by decide +kernel) hl (Nat.le_of_ble_eq_true rfl) ?_
  intro p e s m args below meth c C hr hnm
  refine V_lvE (lv' := [(0, .ref (ad [i])), (1, .int (nI j)), (2, .int x2)]) rfl ?_
  have hσ1 := hσ.1
  have hσ2 := hσ.2.1
  refine V_aload_n C dX7_distanceOf_0 0 rfl ?_
  refine V_iconst (v := nI 0) C dX7_distanceOf_1 (by decide) ?_
  refine V_put (ci := 6) (k := 0) C dX7_distanceOf_2 RX7 RX7 TX7 17 tyX7 tyX7_ok nmX7 fw_X7 rfl (by decide) tw_668 rfl (Or.inl rfl) rfl rfl rfl QW_o (Nat.le_of_ble_eq_true rfl) ?_
  refine V_wd (w' := wset (QW i ad σ th ro lo ma ap o) ([i]) (.inr (6, [.int (nI 0), .int (nI (cN σ)), .int (nI (cK σ)), .int (cDay σ), .int (cIns σ), .ref (ad [i, 1]), .ref (ad [i, 2]), .ref (ad [i, 3]), .ref (ad [i, 4]), .ref (ad [i, 5]), .ref (ad [i, 6]), .ref (ad [i, 7]), .ref (ad [i, 8]), .ref (ad [i, 9]), .ref (ad [i, 10]), .ref (ad [i, 11]), .int ro]))) rfl ?_
  refine V_wd (w' := QW i ad σ (nI 0) ro lo ma ap o) QW_th ?_
  refine V_aload_n C dX7_distanceOf_5 0 rfl ?_
  refine V_iload_n C dX7_distanceOf_6 1 rfl ?_
  refine V_iload_n C dX7_distanceOf_7 2 rfl ?_
  refine V_callV (r := (RX7, TX7, 17)) C [.int (nI j), .int x2] dX7_distanceOf_8 m_X7_isSurface k_X7_isSurface tw_751 rfl rfl rfl QW_o rfl rfl (Nat.le_of_ble_eq_true rfl) ⟨by omega, by omega, by omega, by omega⟩ (m_isSurf_no2 hl (by omega) hσ hj hx2) (kr_some (x := .int (nI 0)) ?_) kx_no
  refine V_ifn_eq (tgt := 28) C dX7_distanceOf_11 (by decide) (by decide) (fun hb1 => ?_) (fun hb1 => by exfalso; omega)
  refine V_aload_n C dX7_distanceOf_28 0 rfl ?_
  refine V_iconst (v := nI 1) C dX7_distanceOf_29 (by decide) ?_
  refine V_callV (r := (RX7, TX7, 17)) C [.int (nI 1)] dX7_distanceOf_30 m_X7_fail k_X7_fail tw_731 rfl rfl rfl QW_o rfl rfl (Nat.le_of_ble_eq_true rfl) ⟨by omega, by omega, by omega, by omega⟩ (m_fail hl (by omega) (nI 1)) (kr_some (x := .int (nI 0)) ?_) kx_no
  exact V_iret C .int dX7_distanceOf_33 hr rfl ⟨rfl, rfl, _, _, _, _, rfl⟩ (by omega) (by omega)
set_option maxHeartbeats 4000000 in
theorem m_hardnessOf_no {l : Launch} {D : va_G} {ba d : Nat} {ad : Adr} (hl : l.stackTraces = false) (hd : 4 ≤ d) {i : Nat} {σ : CS} {th ro : Int32} {lo ma ap : Nat → Int32} {o : Wd} (hσ : cOK σ) {x : Int32} (hx : ∀ j, j < cN σ → x ≠ nI j) (y : Int32)  : CT l yX7_hardnessOf (wsO yX7_hardnessOf cX7_hardnessOf 3 (some .int)) d 8 64 D ba [.ref (ad [i]), .int x, .int y] ad (QW i ad σ th ro lo ma ap o) (RQ i ad σ o (nI 1) (some (.int (nI 0)))) noX := by
  refine CT_of RX7 rfl (by decide +kernel) hl (Nat.le_of_ble_eq_true rfl) ?_
  intro p e s m args below meth c C hr hnm
  refine V_lvE (lv' := [(0, .ref (ad [i])), (1, .int x), (2, .int y)]) rfl ?_
  have hσ1 := hσ.1
  have hσ2 := hσ.2.1
  refine V_aload_n C dX7_hardnessOf_0 0 rfl ?_
  refine V_iconst (v := nI 0) C dX7_hardnessOf_1 (by decide) ?_
  refine V_put (ci := 6) (k := 0) C dX7_hardnessOf_2 RX7 RX7 TX7 17 tyX7 tyX7_ok nmX7 fw_X7 rfl (by decide) tw_668 rfl (Or.inl rfl) rfl rfl rfl QW_o (Nat.le_of_ble_eq_true rfl) ?_
  refine V_wd (w' := wset (QW i ad σ th ro lo ma ap o) ([i]) (.inr (6, [.int (nI 0), .int (nI (cN σ)), .int (nI (cK σ)), .int (cDay σ), .int (cIns σ), .ref (ad [i, 1]), .ref (ad [i, 2]), .ref (ad [i, 3]), .ref (ad [i, 4]), .ref (ad [i, 5]), .ref (ad [i, 6]), .ref (ad [i, 7]), .ref (ad [i, 8]), .ref (ad [i, 9]), .ref (ad [i, 10]), .ref (ad [i, 11]), .int ro]))) rfl ?_
  refine V_wd (w' := QW i ad σ (nI 0) ro lo ma ap o) QW_th ?_
  refine V_aload_n C dX7_hardnessOf_5 0 rfl ?_
  refine V_iload_n C dX7_hardnessOf_6 1 rfl ?_
  refine V_iload_n C dX7_hardnessOf_7 2 rfl ?_
  refine V_callV (r := (RX7, TX7, 17)) C [.int x, .int y] dX7_hardnessOf_8 m_X7_isSurface k_X7_isSurface tw_751 rfl rfl rfl QW_o rfl rfl (Nat.le_of_ble_eq_true rfl) ⟨by omega, by omega, by omega, by omega⟩ (m_isSurf_no hl (by omega) hσ hx y) (kr_some (x := .int (nI 0)) ?_) kx_no
  refine V_ifn_eq (tgt := 29) C dX7_hardnessOf_11 (by decide) (by decide) (fun hb1 => ?_) (fun hb1 => by exfalso; omega)
  refine V_aload_n C dX7_hardnessOf_29 0 rfl ?_
  refine V_iconst (v := nI 1) C dX7_hardnessOf_30 (by decide) ?_
  refine V_callV (r := (RX7, TX7, 17)) C [.int (nI 1)] dX7_hardnessOf_31 m_X7_fail k_X7_fail tw_731 rfl rfl rfl QW_o rfl rfl (Nat.le_of_ble_eq_true rfl) ⟨by omega, by omega, by omega, by omega⟩ (m_fail hl (by omega) (nI 1)) (kr_some (x := .int (nI 0)) ?_) kx_no
  exact V_iret C .int dX7_hardnessOf_34 hr rfl ⟨rfl, rfl, _, _, _, _, rfl⟩ (by omega) (by omega)
set_option maxHeartbeats 4000000 in
theorem m_hardnessOf_no2 {l : Launch} {D : va_G} {ba d : Nat} {ad : Adr} (hl : l.stackTraces = false) (hd : 4 ≤ d) {i : Nat} {σ : CS} {th ro : Int32} {lo ma ap : Nat → Int32} {o : Wd} (hσ : cOK σ) {j : Nat} (hj : j < cN σ) {x2 : Int32} (hx2 : ∀ k, k < hSc (cH σ j) → x2 ≠ nI k)  : CT l yX7_hardnessOf (wsO yX7_hardnessOf cX7_hardnessOf 3 (some .int)) d 8 64 D ba [.ref (ad [i]), .int (nI j), .int x2] ad (QW i ad σ th ro lo ma ap o) (RQ i ad σ o (nI 1) (some (.int (nI 0)))) noX := by
  refine CT_of RX7 rfl (by decide +kernel) hl (Nat.le_of_ble_eq_true rfl) ?_
  intro p e s m args below meth c C hr hnm
  refine V_lvE (lv' := [(0, .ref (ad [i])), (1, .int (nI j)), (2, .int x2)]) rfl ?_
  have hσ1 := hσ.1
  have hσ2 := hσ.2.1
  refine V_aload_n C dX7_hardnessOf_0 0 rfl ?_
  refine V_iconst (v := nI 0) C dX7_hardnessOf_1 (by decide) ?_
  refine V_put (ci := 6) (k := 0) C dX7_hardnessOf_2 RX7 RX7 TX7 17 tyX7 tyX7_ok nmX7 fw_X7 rfl (by decide) tw_668 rfl (Or.inl rfl) rfl rfl rfl QW_o (Nat.le_of_ble_eq_true rfl) ?_
  refine V_wd (w' := wset (QW i ad σ th ro lo ma ap o) ([i]) (.inr (6, [.int (nI 0), .int (nI (cN σ)), .int (nI (cK σ)), .int (cDay σ), .int (cIns σ), .ref (ad [i, 1]), .ref (ad [i, 2]), .ref (ad [i, 3]), .ref (ad [i, 4]), .ref (ad [i, 5]), .ref (ad [i, 6]), .ref (ad [i, 7]), .ref (ad [i, 8]), .ref (ad [i, 9]), .ref (ad [i, 10]), .ref (ad [i, 11]), .int ro]))) rfl ?_
  refine V_wd (w' := QW i ad σ (nI 0) ro lo ma ap o) QW_th ?_
  refine V_aload_n C dX7_hardnessOf_5 0 rfl ?_
  refine V_iload_n C dX7_hardnessOf_6 1 rfl ?_
  refine V_iload_n C dX7_hardnessOf_7 2 rfl ?_
  refine V_callV (r := (RX7, TX7, 17)) C [.int (nI j), .int x2] dX7_hardnessOf_8 m_X7_isSurface k_X7_isSurface tw_751 rfl rfl rfl QW_o rfl rfl (Nat.le_of_ble_eq_true rfl) ⟨by omega, by omega, by omega, by omega⟩ (m_isSurf_no2 hl (by omega) hσ hj hx2) (kr_some (x := .int (nI 0)) ?_) kx_no
  refine V_ifn_eq (tgt := 29) C dX7_hardnessOf_11 (by decide) (by decide) (fun hb1 => ?_) (fun hb1 => by exfalso; omega)
  refine V_aload_n C dX7_hardnessOf_29 0 rfl ?_
  refine V_iconst (v := nI 1) C dX7_hardnessOf_30 (by decide) ?_
  refine V_callV (r := (RX7, TX7, 17)) C [.int (nI 1)] dX7_hardnessOf_31 m_X7_fail k_X7_fail tw_731 rfl rfl rfl QW_o rfl rfl (Nat.le_of_ble_eq_true rfl) ⟨by omega, by omega, by omega, by omega⟩ (m_fail hl (by omega) (nI 1)) (kr_some (x := .int (nI 0)) ?_) kx_no
  exact V_iret C .int dX7_hardnessOf_34 hr rfl ⟨rfl, rfl, _, _, _, _, rfl⟩ (by omega) (by omega)
set_option maxHeartbeats 4000000 in
theorem m_halls {l : Launch} {D : va_G} {ba d : Nat} {ad : Adr} (hl : l.stackTraces = false) (hd : 4 ≤ d) {i : Nat} {σ : CS} {th ro : Int32} {lo ma ap : Nat → Int32} {o : Wd} (hσ : cOK σ)  : CT l yX7_halls (wsO yX7_halls cX7_halls 1 (some .int)) d 8 64 D ba [.ref (ad [i])] ad (QW i ad σ th ro lo ma ap o) (RQ i ad σ o (nI 0) (some (.int (nI (cN σ))))) noX := by
  refine CT_of RX7 rfl (by decide +kernel) hl (Nat.le_of_ble_eq_true rfl) ?_
  intro p e s m args below meth c C hr hnm
  refine V_lvE (lv' := [(0, .ref (ad [i]))]) rfl ?_
  have hσ1 := hσ.1
  have hσ2 := hσ.2.1
  refine V_aload_n C dX7_halls_0 0 rfl ?_
  refine V_iconst (v := nI 0) C dX7_halls_1 (by decide) ?_
  refine V_put (ci := 6) (k := 0) C dX7_halls_2 RX7 RX7 TX7 17 tyX7 tyX7_ok nmX7 fw_X7 rfl (by decide) tw_668 rfl (Or.inl rfl) rfl rfl rfl QW_o (Nat.le_of_ble_eq_true rfl) ?_
  refine V_wd (w' := wset (QW i ad σ th ro lo ma ap o) ([i]) (.inr (6, [.int (nI 0), .int (nI (cN σ)), .int (nI (cK σ)), .int (cDay σ), .int (cIns σ), .ref (ad [i, 1]), .ref (ad [i, 2]), .ref (ad [i, 3]), .ref (ad [i, 4]), .ref (ad [i, 5]), .ref (ad [i, 6]), .ref (ad [i, 7]), .ref (ad [i, 8]), .ref (ad [i, 9]), .ref (ad [i, 10]), .ref (ad [i, 11]), .int ro]))) rfl ?_
  refine V_wd (w' := QW i ad σ (nI 0) ro lo ma ap o) QW_th ?_
  refine V_aload_n C dX7_halls_5 0 rfl ?_
  refine V_get (ci := 6) (k := 1) C dX7_halls_6 RX7 RX7 TX7 17 fw_X7 rfl (by decide) tw_669 rfl rfl QW_o rfl ?_
  exact V_iret C .int dX7_halls_9 hr rfl ⟨rfl, rfl, _, _, _, _, rfl⟩ (by omega) (by omega)
set_option maxHeartbeats 4000000 in
theorem m_standards {l : Launch} {D : va_G} {ba d : Nat} {ad : Adr} (hl : l.stackTraces = false) (hd : 4 ≤ d) {i : Nat} {σ : CS} {th ro : Int32} {lo ma ap : Nat → Int32} {o : Wd} (hσ : cOK σ)  : CT l yX7_standards (wsO yX7_standards cX7_standards 1 (some .int)) d 8 64 D ba [.ref (ad [i])] ad (QW i ad σ th ro lo ma ap o) (RQ i ad σ o (nI 0) (some (.int (nI (cK σ))))) noX := by
  refine CT_of RX7 rfl (by decide +kernel) hl (Nat.le_of_ble_eq_true rfl) ?_
  intro p e s m args below meth c C hr hnm
  refine V_lvE (lv' := [(0, .ref (ad [i]))]) rfl ?_
  have hσ1 := hσ.1
  have hσ2 := hσ.2.1
  refine V_aload_n C dX7_standards_0 0 rfl ?_
  refine V_iconst (v := nI 0) C dX7_standards_1 (by decide) ?_
  refine V_put (ci := 6) (k := 0) C dX7_standards_2 RX7 RX7 TX7 17 tyX7 tyX7_ok nmX7 fw_X7 rfl (by decide) tw_668 rfl (Or.inl rfl) rfl rfl rfl QW_o (Nat.le_of_ble_eq_true rfl) ?_
  refine V_wd (w' := wset (QW i ad σ th ro lo ma ap o) ([i]) (.inr (6, [.int (nI 0), .int (nI (cN σ)), .int (nI (cK σ)), .int (cDay σ), .int (cIns σ), .ref (ad [i, 1]), .ref (ad [i, 2]), .ref (ad [i, 3]), .ref (ad [i, 4]), .ref (ad [i, 5]), .ref (ad [i, 6]), .ref (ad [i, 7]), .ref (ad [i, 8]), .ref (ad [i, 9]), .ref (ad [i, 10]), .ref (ad [i, 11]), .int ro]))) rfl ?_
  refine V_wd (w' := QW i ad σ (nI 0) ro lo ma ap o) QW_th ?_
  refine V_aload_n C dX7_standards_5 0 rfl ?_
  refine V_get (ci := 6) (k := 2) C dX7_standards_6 RX7 RX7 TX7 17 fw_X7 rfl (by decide) tw_670 rfl rfl QW_o rfl ?_
  exact V_iret C .int dX7_standards_9 hr rfl ⟨rfl, rfl, _, _, _, _, rfl⟩ (by omega) (by omega)
set_option maxHeartbeats 4000000 in
theorem m_day {l : Launch} {D : va_G} {ba d : Nat} {ad : Adr} (hl : l.stackTraces = false) (hd : 4 ≤ d) {i : Nat} {σ : CS} {th ro : Int32} {lo ma ap : Nat → Int32} {o : Wd} (hσ : cOK σ)  : CT l yX7_day (wsO yX7_day cX7_day 1 (some .int)) d 8 64 D ba [.ref (ad [i])] ad (QW i ad σ th ro lo ma ap o) (RQ i ad σ o (nI 0) (some (.int (cDay σ)))) noX := by
  refine CT_of RX7 rfl (by decide +kernel) hl (Nat.le_of_ble_eq_true rfl) ?_
  intro p e s m args below meth c C hr hnm
  refine V_lvE (lv' := [(0, .ref (ad [i]))]) rfl ?_
  have hσ1 := hσ.1
  have hσ2 := hσ.2.1
  refine V_aload_n C dX7_day_0 0 rfl ?_
  refine V_iconst (v := nI 0) C dX7_day_1 (by decide) ?_
  refine V_put (ci := 6) (k := 0) C dX7_day_2 RX7 RX7 TX7 17 tyX7 tyX7_ok nmX7 fw_X7 rfl (by decide) tw_668 rfl (Or.inl rfl) rfl rfl rfl QW_o (Nat.le_of_ble_eq_true rfl) ?_
  refine V_wd (w' := wset (QW i ad σ th ro lo ma ap o) ([i]) (.inr (6, [.int (nI 0), .int (nI (cN σ)), .int (nI (cK σ)), .int (cDay σ), .int (cIns σ), .ref (ad [i, 1]), .ref (ad [i, 2]), .ref (ad [i, 3]), .ref (ad [i, 4]), .ref (ad [i, 5]), .ref (ad [i, 6]), .ref (ad [i, 7]), .ref (ad [i, 8]), .ref (ad [i, 9]), .ref (ad [i, 10]), .ref (ad [i, 11]), .int ro]))) rfl ?_
  refine V_wd (w' := QW i ad σ (nI 0) ro lo ma ap o) QW_th ?_
  refine V_aload_n C dX7_day_5 0 rfl ?_
  refine V_get (ci := 6) (k := 3) C dX7_day_6 RX7 RX7 TX7 17 fw_X7 rfl (by decide) tw_671 rfl rfl QW_o rfl ?_
  exact V_iret C .int dX7_day_9 hr rfl ⟨rfl, rfl, _, _, _, _, rfl⟩ (by omega) (by omega)
set_option maxHeartbeats 4000000 in
theorem m_inspections {l : Launch} {D : va_G} {ba d : Nat} {ad : Adr} (hl : l.stackTraces = false) (hd : 4 ≤ d) {i : Nat} {σ : CS} {th ro : Int32} {lo ma ap : Nat → Int32} {o : Wd} (hσ : cOK σ)  : CT l yX7_inspections (wsO yX7_inspections cX7_inspections 1 (some .int)) d 8 64 D ba [.ref (ad [i])] ad (QW i ad σ th ro lo ma ap o) (RQ i ad σ o (nI 0) (some (.int (cIns σ)))) noX := by
  refine CT_of RX7 rfl (by decide +kernel) hl (Nat.le_of_ble_eq_true rfl) ?_
  intro p e s m args below meth c C hr hnm
  refine V_lvE (lv' := [(0, .ref (ad [i]))]) rfl ?_
  have hσ1 := hσ.1
  have hσ2 := hσ.2.1
  refine V_aload_n C dX7_inspections_0 0 rfl ?_
  refine V_iconst (v := nI 0) C dX7_inspections_1 (by decide) ?_
  refine V_put (ci := 6) (k := 0) C dX7_inspections_2 RX7 RX7 TX7 17 tyX7 tyX7_ok nmX7 fw_X7 rfl (by decide) tw_668 rfl (Or.inl rfl) rfl rfl rfl QW_o (Nat.le_of_ble_eq_true rfl) ?_
  refine V_wd (w' := wset (QW i ad σ th ro lo ma ap o) ([i]) (.inr (6, [.int (nI 0), .int (nI (cN σ)), .int (nI (cK σ)), .int (cDay σ), .int (cIns σ), .ref (ad [i, 1]), .ref (ad [i, 2]), .ref (ad [i, 3]), .ref (ad [i, 4]), .ref (ad [i, 5]), .ref (ad [i, 6]), .ref (ad [i, 7]), .ref (ad [i, 8]), .ref (ad [i, 9]), .ref (ad [i, 10]), .ref (ad [i, 11]), .int ro]))) rfl ?_
  refine V_wd (w' := QW i ad σ (nI 0) ro lo ma ap o) QW_th ?_
  refine V_aload_n C dX7_inspections_5 0 rfl ?_
  refine V_get (ci := 6) (k := 4) C dX7_inspections_6 RX7 RX7 TX7 17 fw_X7 rfl (by decide) tw_672 rfl rfl QW_o rfl ?_
  exact V_iret C .int dX7_inspections_9 hr rfl ⟨rfl, rfl, _, _, _, _, rfl⟩ (by omega) (by omega)
set_option maxHeartbeats 4000000 in
theorem m_isCertified {l : Launch} {D : va_G} {ba d : Nat} {ad : Adr} (hl : l.stackTraces = false) (hd : 4 ≤ d) {i : Nat} {σ : CS} {th ro : Int32} {lo ma ap : Nat → Int32} {o : Wd} (hσ : cOK σ) {j : Nat} (hj : j < cN σ)  : CT l yX7_isCertified (wsO yX7_isCertified cX7_isCertified 2 (some .boolean)) d 8 64 D ba [.ref (ad [i]), .int (nI j)] ad (QW i ad σ th ro lo ma ap o) (RQ i ad σ o (nI 0) (some (.int (nI (if hCe (cH σ j) = -1 then 0 else 1))))) noX := by
  refine CT_of RX7 rfl (by decide +kernel) hl (Nat.le_of_ble_eq_true rfl) ?_
  intro p e s m args below meth c C hr hnm
  refine V_lvE (lv' := [(0, .ref (ad [i])), (1, .int (nI j))]) rfl ?_
  have hσ1 := hσ.1
  have hσ2 := hσ.2.1
  refine V_aload_n C dX7_isCertified_0 0 rfl ?_
  refine V_iconst (v := nI 0) C dX7_isCertified_1 (by decide) ?_
  refine V_put (ci := 6) (k := 0) C dX7_isCertified_2 RX7 RX7 TX7 17 tyX7 tyX7_ok nmX7 fw_X7 rfl (by decide) tw_668 rfl (Or.inl rfl) rfl rfl rfl QW_o (Nat.le_of_ble_eq_true rfl) ?_
  refine V_wd (w' := wset (QW i ad σ th ro lo ma ap o) ([i]) (.inr (6, [.int (nI 0), .int (nI (cN σ)), .int (nI (cK σ)), .int (cDay σ), .int (cIns σ), .ref (ad [i, 1]), .ref (ad [i, 2]), .ref (ad [i, 3]), .ref (ad [i, 4]), .ref (ad [i, 5]), .ref (ad [i, 6]), .ref (ad [i, 7]), .ref (ad [i, 8]), .ref (ad [i, 9]), .ref (ad [i, 10]), .ref (ad [i, 11]), .int ro]))) rfl ?_
  refine V_wd (w' := QW i ad σ (nI 0) ro lo ma ap o) QW_th ?_
  refine V_aload_n C dX7_isCertified_5 0 rfl ?_
  refine V_iload_n C dX7_isCertified_6 1 rfl ?_
  refine V_callV (r := (RX7, TX7, 17)) C [.int (nI j)] dX7_isCertified_7 m_X7_isHall k_X7_isHall tw_739 rfl rfl rfl QW_o rfl rfl (Nat.le_of_ble_eq_true rfl) ⟨by omega, by omega, by omega, by omega⟩ (m_isHall hl (by omega) hσ hj) (kr_some (x := .int (nI 1)) ?_) kx_no
  refine V_ifn_eq (tgt := 31) C dX7_isCertified_10 (by decide) (by decide) (fun hb1 => by exfalso; omega) (fun hb1 => ?_)
  refine V_aload_n C dX7_isCertified_13 0 rfl ?_
  refine V_get (ci := 6) (k := 8) C dX7_isCertified_14 RX7 RX7 TX7 17 fw_X7 rfl (by decide) tw_676 rfl rfl QW_o rfl ?_
  refine V_iload_n C dX7_isCertified_17 1 rfl ?_
  refine V_ialdn (v := (hCe (cH σ j))) C dX7_isCertified_18 rfl QW_4 (by omega) (by decide) (row0_in hj) ?_
  refine V_iconst (v := -1) C dX7_isCertified_19 (by decide) ?_
  refine V_icmp_eq (tgt := 27) C dX7_isCertified_20 (by decide) (fun hb2 => ?_) (fun hb2 => ?_)
  · skip
    refine V_iconst (v := nI 0) C dX7_isCertified_27 (by decide) ?_
    refine V_goto (tgt := 36) C dX7_isCertified_28 (by decide) ?_
    exact V_iret C .boolean dX7_isCertified_36 hr rfl ⟨by rw [if_pos hb2], rfl, _, _, _, _, rfl⟩ (by omega) (by omega)
  · skip
    refine V_iconst (v := nI 1) C dX7_isCertified_23 (by decide) ?_
    refine V_goto (tgt := 36) C dX7_isCertified_24 (by decide) ?_
    exact V_iret C .boolean dX7_isCertified_36 hr rfl ⟨by rw [if_neg hb2], rfl, _, _, _, _, rfl⟩ (by omega) (by omega)
set_option maxHeartbeats 4000000 in
theorem m_isCertified_no {l : Launch} {D : va_G} {ba d : Nat} {ad : Adr} (hl : l.stackTraces = false) (hd : 4 ≤ d) {i : Nat} {σ : CS} {th ro : Int32} {lo ma ap : Nat → Int32} {o : Wd} (hσ : cOK σ) {x : Int32} (hx : ∀ j, j < cN σ → x ≠ nI j)  : CT l yX7_isCertified (wsO yX7_isCertified cX7_isCertified 2 (some .boolean)) d 8 64 D ba [.ref (ad [i]), .int x] ad (QW i ad σ th ro lo ma ap o) (RQ i ad σ o (nI 1) (some (.int (nI 0)))) noX := by
  refine CT_of RX7 rfl (by decide +kernel) hl (Nat.le_of_ble_eq_true rfl) ?_
  intro p e s m args below meth c C hr hnm
  refine V_lvE (lv' := [(0, .ref (ad [i])), (1, .int x)]) rfl ?_
  have hσ1 := hσ.1
  have hσ2 := hσ.2.1
  refine V_aload_n C dX7_isCertified_0 0 rfl ?_
  refine V_iconst (v := nI 0) C dX7_isCertified_1 (by decide) ?_
  refine V_put (ci := 6) (k := 0) C dX7_isCertified_2 RX7 RX7 TX7 17 tyX7 tyX7_ok nmX7 fw_X7 rfl (by decide) tw_668 rfl (Or.inl rfl) rfl rfl rfl QW_o (Nat.le_of_ble_eq_true rfl) ?_
  refine V_wd (w' := wset (QW i ad σ th ro lo ma ap o) ([i]) (.inr (6, [.int (nI 0), .int (nI (cN σ)), .int (nI (cK σ)), .int (cDay σ), .int (cIns σ), .ref (ad [i, 1]), .ref (ad [i, 2]), .ref (ad [i, 3]), .ref (ad [i, 4]), .ref (ad [i, 5]), .ref (ad [i, 6]), .ref (ad [i, 7]), .ref (ad [i, 8]), .ref (ad [i, 9]), .ref (ad [i, 10]), .ref (ad [i, 11]), .int ro]))) rfl ?_
  refine V_wd (w' := QW i ad σ (nI 0) ro lo ma ap o) QW_th ?_
  refine V_aload_n C dX7_isCertified_5 0 rfl ?_
  refine V_iload_n C dX7_isCertified_6 1 rfl ?_
  refine V_callV (r := (RX7, TX7, 17)) C [.int x] dX7_isCertified_7 m_X7_isHall k_X7_isHall tw_739 rfl rfl rfl QW_o rfl rfl (Nat.le_of_ble_eq_true rfl) ⟨by omega, by omega, by omega, by omega⟩ (m_isHall_no hl (by omega) hσ hx) (kr_some (x := .int (nI 0)) ?_) kx_no
  refine V_ifn_eq (tgt := 31) C dX7_isCertified_10 (by decide) (by decide) (fun hb1 => ?_) (fun hb1 => by exfalso; omega)
  refine V_aload_n C dX7_isCertified_31 0 rfl ?_
  refine V_iconst (v := nI 1) C dX7_isCertified_32 (by decide) ?_
  refine V_callV (r := (RX7, TX7, 17)) C [.int (nI 1)] dX7_isCertified_33 m_X7_failed k_X7_failed tw_904 rfl rfl rfl QW_o rfl rfl (Nat.le_of_ble_eq_true rfl) ⟨by omega, by omega, by omega, by omega⟩ (m_failed hl (by omega) (nI 1)) (kr_some (x := .int (nI 0)) ?_) kx_no
  exact V_iret C .boolean dX7_isCertified_36 hr rfl ⟨rfl, rfl, _, _, _, _, rfl⟩ (by omega) (by omega)
set_option maxHeartbeats 4000000 in
theorem m_certifiedBy {l : Launch} {D : va_G} {ba d : Nat} {ad : Adr} (hl : l.stackTraces = false) (hd : 4 ≤ d) {i : Nat} {σ : CS} {th ro : Int32} {lo ma ap : Nat → Int32} {o : Wd} (hσ : cOK σ) {j : Nat} (hj : j < cN σ) (hc : ¬ hCe (cH σ j) = -1)  : CT l yX7_certifiedBy (wsO yX7_certifiedBy cX7_certifiedBy 2 (some .int)) d 8 64 D ba [.ref (ad [i]), .int (nI j)] ad (QW i ad σ th ro lo ma ap o) (RQ i ad σ o (nI 0) (some (.int (hCe (cH σ j))))) noX := by
  refine CT_of RX7 rfl (by decide +kernel) hl (Nat.le_of_ble_eq_true rfl) ?_
  intro p e s m args below meth c C hr hnm
  refine V_lvE (lv' := [(0, .ref (ad [i])), (1, .int (nI j))]) rfl ?_
  have hσ1 := hσ.1
  have hσ2 := hσ.2.1
  refine V_aload_n C dX7_certifiedBy_0 0 rfl ?_
  refine V_iconst (v := nI 0) C dX7_certifiedBy_1 (by decide) ?_
  refine V_put (ci := 6) (k := 0) C dX7_certifiedBy_2 RX7 RX7 TX7 17 tyX7 tyX7_ok nmX7 fw_X7 rfl (by decide) tw_668 rfl (Or.inl rfl) rfl rfl rfl QW_o (Nat.le_of_ble_eq_true rfl) ?_
  refine V_wd (w' := wset (QW i ad σ th ro lo ma ap o) ([i]) (.inr (6, [.int (nI 0), .int (nI (cN σ)), .int (nI (cK σ)), .int (cDay σ), .int (cIns σ), .ref (ad [i, 1]), .ref (ad [i, 2]), .ref (ad [i, 3]), .ref (ad [i, 4]), .ref (ad [i, 5]), .ref (ad [i, 6]), .ref (ad [i, 7]), .ref (ad [i, 8]), .ref (ad [i, 9]), .ref (ad [i, 10]), .ref (ad [i, 11]), .int ro]))) rfl ?_
  refine V_wd (w' := QW i ad σ (nI 0) ro lo ma ap o) QW_th ?_
  refine V_aload_n C dX7_certifiedBy_5 0 rfl ?_
  refine V_iload_n C dX7_certifiedBy_6 1 rfl ?_
  refine V_callV (r := (RX7, TX7, 17)) C [.int (nI j)] dX7_certifiedBy_7 m_X7_isHall k_X7_isHall tw_739 rfl rfl rfl QW_o rfl rfl (Nat.le_of_ble_eq_true rfl) ⟨by omega, by omega, by omega, by omega⟩ (m_isHall hl (by omega) hσ hj) (kr_some (x := .int (nI 1)) ?_) kx_no
  refine V_ifn_ne (tgt := 19) C dX7_certifiedBy_10 (by decide) (by decide) (fun hb1 => ?_) (fun hb1 => by exfalso; omega)
  refine V_aload_n C dX7_certifiedBy_19 0 rfl ?_
  refine V_get (ci := 6) (k := 8) C dX7_certifiedBy_20 RX7 RX7 TX7 17 fw_X7 rfl (by decide) tw_676 rfl rfl QW_o rfl ?_
  refine V_iload_n C dX7_certifiedBy_23 1 rfl ?_
  refine V_ialdn (v := (hCe (cH σ j))) C dX7_certifiedBy_24 rfl QW_4 (by omega) (by decide) (row0_in hj) ?_
  refine V_iconst (v := -1) C dX7_certifiedBy_25 (by decide) ?_
  refine V_icmp_ne (tgt := 37) C dX7_certifiedBy_26 (by decide) (fun hb2 => ?_) (fun hb2 => by exfalso; exact hc hb2)
  refine V_aload_n C dX7_certifiedBy_37 0 rfl ?_
  refine V_get (ci := 6) (k := 8) C dX7_certifiedBy_38 RX7 RX7 TX7 17 fw_X7 rfl (by decide) tw_676 rfl rfl QW_o rfl ?_
  refine V_iload_n C dX7_certifiedBy_41 1 rfl ?_
  refine V_ialdn (v := (hCe (cH σ j))) C dX7_certifiedBy_42 rfl QW_4 (by omega) (by decide) (row0_in hj) ?_
  exact V_iret C .int dX7_certifiedBy_43 hr rfl ⟨rfl, rfl, _, _, _, _, rfl⟩ (by omega) (by omega)
set_option maxHeartbeats 4000000 in
theorem m_certifiedBy_none {l : Launch} {D : va_G} {ba d : Nat} {ad : Adr} (hl : l.stackTraces = false) (hd : 4 ≤ d) {i : Nat} {σ : CS} {th ro : Int32} {lo ma ap : Nat → Int32} {o : Wd} (hσ : cOK σ) {j : Nat} (hj : j < cN σ) (hc : hCe (cH σ j) = -1)  : CT l yX7_certifiedBy (wsO yX7_certifiedBy cX7_certifiedBy 2 (some .int)) d 8 64 D ba [.ref (ad [i]), .int (nI j)] ad (QW i ad σ th ro lo ma ap o) (RQ i ad σ o (nI 2) (some (.int (nI 0)))) noX := by
  refine CT_of RX7 rfl (by decide +kernel) hl (Nat.le_of_ble_eq_true rfl) ?_
  intro p e s m args below meth c C hr hnm
  refine V_lvE (lv' := [(0, .ref (ad [i])), (1, .int (nI j))]) rfl ?_
  have hσ1 := hσ.1
  have hσ2 := hσ.2.1
  refine V_aload_n C dX7_certifiedBy_0 0 rfl ?_
  refine V_iconst (v := nI 0) C dX7_certifiedBy_1 (by decide) ?_
  refine V_put (ci := 6) (k := 0) C dX7_certifiedBy_2 RX7 RX7 TX7 17 tyX7 tyX7_ok nmX7 fw_X7 rfl (by decide) tw_668 rfl (Or.inl rfl) rfl rfl rfl QW_o (Nat.le_of_ble_eq_true rfl) ?_
  refine V_wd (w' := wset (QW i ad σ th ro lo ma ap o) ([i]) (.inr (6, [.int (nI 0), .int (nI (cN σ)), .int (nI (cK σ)), .int (cDay σ), .int (cIns σ), .ref (ad [i, 1]), .ref (ad [i, 2]), .ref (ad [i, 3]), .ref (ad [i, 4]), .ref (ad [i, 5]), .ref (ad [i, 6]), .ref (ad [i, 7]), .ref (ad [i, 8]), .ref (ad [i, 9]), .ref (ad [i, 10]), .ref (ad [i, 11]), .int ro]))) rfl ?_
  refine V_wd (w' := QW i ad σ (nI 0) ro lo ma ap o) QW_th ?_
  refine V_aload_n C dX7_certifiedBy_5 0 rfl ?_
  refine V_iload_n C dX7_certifiedBy_6 1 rfl ?_
  refine V_callV (r := (RX7, TX7, 17)) C [.int (nI j)] dX7_certifiedBy_7 m_X7_isHall k_X7_isHall tw_739 rfl rfl rfl QW_o rfl rfl (Nat.le_of_ble_eq_true rfl) ⟨by omega, by omega, by omega, by omega⟩ (m_isHall hl (by omega) hσ hj) (kr_some (x := .int (nI 1)) ?_) kx_no
  refine V_ifn_ne (tgt := 19) C dX7_certifiedBy_10 (by decide) (by decide) (fun hb1 => ?_) (fun hb1 => by exfalso; omega)
  refine V_aload_n C dX7_certifiedBy_19 0 rfl ?_
  refine V_get (ci := 6) (k := 8) C dX7_certifiedBy_20 RX7 RX7 TX7 17 fw_X7 rfl (by decide) tw_676 rfl rfl QW_o rfl ?_
  refine V_iload_n C dX7_certifiedBy_23 1 rfl ?_
  refine V_ialdn (v := (hCe (cH σ j))) C dX7_certifiedBy_24 rfl QW_4 (by omega) (by decide) (row0_in hj) ?_
  refine V_iconst (v := -1) C dX7_certifiedBy_25 (by decide) ?_
  refine V_icmp_ne (tgt := 37) C dX7_certifiedBy_26 (by decide) (fun hb2 => by exfalso; exact hb2 hc) (fun hb2 => ?_)
  refine V_aload_n C dX7_certifiedBy_29 0 rfl ?_
  refine V_iconst (v := nI 2) C dX7_certifiedBy_30 (by decide) ?_
  refine V_callV (r := (RX7, TX7, 17)) C [.int (nI 2)] dX7_certifiedBy_31 m_X7_fail k_X7_fail tw_731 rfl rfl rfl QW_o rfl rfl (Nat.le_of_ble_eq_true rfl) ⟨by omega, by omega, by omega, by omega⟩ (m_fail hl (by omega) (nI 2)) (kr_some (x := .int (nI 0)) ?_) kx_no
  refine V_goto (tgt := 43) C dX7_certifiedBy_34 (by decide) ?_
  exact V_iret C .int dX7_certifiedBy_43 hr rfl ⟨rfl, rfl, _, _, _, _, rfl⟩ (by omega) (by omega)
set_option maxHeartbeats 4000000 in
theorem m_certifiedBy_no {l : Launch} {D : va_G} {ba d : Nat} {ad : Adr} (hl : l.stackTraces = false) (hd : 4 ≤ d) {i : Nat} {σ : CS} {th ro : Int32} {lo ma ap : Nat → Int32} {o : Wd} (hσ : cOK σ) {x : Int32} (hx : ∀ j, j < cN σ → x ≠ nI j)  : CT l yX7_certifiedBy (wsO yX7_certifiedBy cX7_certifiedBy 2 (some .int)) d 8 64 D ba [.ref (ad [i]), .int x] ad (QW i ad σ th ro lo ma ap o) (RQ i ad σ o (nI 1) (some (.int (nI 0)))) noX := by
  refine CT_of RX7 rfl (by decide +kernel) hl (Nat.le_of_ble_eq_true rfl) ?_
  intro p e s m args below meth c C hr hnm
  refine V_lvE (lv' := [(0, .ref (ad [i])), (1, .int x)]) rfl ?_
  have hσ1 := hσ.1
  have hσ2 := hσ.2.1
  refine V_aload_n C dX7_certifiedBy_0 0 rfl ?_
  refine V_iconst (v := nI 0) C dX7_certifiedBy_1 (by decide) ?_
  refine V_put (ci := 6) (k := 0) C dX7_certifiedBy_2 RX7 RX7 TX7 17 tyX7 tyX7_ok nmX7 fw_X7 rfl (by decide) tw_668 rfl (Or.inl rfl) rfl rfl rfl QW_o (Nat.le_of_ble_eq_true rfl) ?_
  refine V_wd (w' := wset (QW i ad σ th ro lo ma ap o) ([i]) (.inr (6, [.int (nI 0), .int (nI (cN σ)), .int (nI (cK σ)), .int (cDay σ), .int (cIns σ), .ref (ad [i, 1]), .ref (ad [i, 2]), .ref (ad [i, 3]), .ref (ad [i, 4]), .ref (ad [i, 5]), .ref (ad [i, 6]), .ref (ad [i, 7]), .ref (ad [i, 8]), .ref (ad [i, 9]), .ref (ad [i, 10]), .ref (ad [i, 11]), .int ro]))) rfl ?_
  refine V_wd (w' := QW i ad σ (nI 0) ro lo ma ap o) QW_th ?_
  refine V_aload_n C dX7_certifiedBy_5 0 rfl ?_
  refine V_iload_n C dX7_certifiedBy_6 1 rfl ?_
  refine V_callV (r := (RX7, TX7, 17)) C [.int x] dX7_certifiedBy_7 m_X7_isHall k_X7_isHall tw_739 rfl rfl rfl QW_o rfl rfl (Nat.le_of_ble_eq_true rfl) ⟨by omega, by omega, by omega, by omega⟩ (m_isHall_no hl (by omega) hσ hx) (kr_some (x := .int (nI 0)) ?_) kx_no
  refine V_ifn_ne (tgt := 19) C dX7_certifiedBy_10 (by decide) (by decide) (fun hb1 => by exfalso; omega) (fun hb1 => ?_)
  refine V_aload_n C dX7_certifiedBy_13 0 rfl ?_
  refine V_iconst (v := nI 1) C dX7_certifiedBy_14 (by decide) ?_
  refine V_callV (r := (RX7, TX7, 17)) C [.int (nI 1)] dX7_certifiedBy_15 m_X7_fail k_X7_fail tw_731 rfl rfl rfl QW_o rfl rfl (Nat.le_of_ble_eq_true rfl) ⟨by omega, by omega, by omega, by omega⟩ (m_fail hl (by omega) (nI 1)) (kr_some (x := .int (nI 0)) ?_) kx_no
  exact V_iret C .int dX7_certifiedBy_18 hr rfl ⟨rfl, rfl, _, _, _, _, rfl⟩ (by omega) (by omega)
set_option maxHeartbeats 4000000 in
theorem m_clean {l : Launch} {D : va_G} {ba d : Nat} {ad : Adr} (hl : l.stackTraces = false) (hd : 4 ≤ d) {i : Nat} {σ : CS} {th ro : Int32} {lo ma ap : Nat → Int32} {o : Wd} (hσ : cOK σ) {j : Nat} (hj : j < cN σ)  : CT l yX7_clean (wsO yX7_clean cX7_clean 3 (some .int)) d 8 64 D ba [.ref (ad [i]), .int (nI j)] ad (QW i ad σ th ro lo ma ap o) (RQ i ad (setH σ j (hSc (cH σ j), hDm (cH σ j), 0, hCe (cH σ j), hDy (cH σ j), hSu (cH σ j))) o (nI 0) (some (.int (nI (hDu (cH σ j)))))) noX := by
  refine CT_of RX7 rfl (by decide +kernel) hl (Nat.le_of_ble_eq_true rfl) ?_
  intro p e s m args below meth c C hr hnm
  refine V_lvE (lv' := [(0, .ref (ad [i])), (1, .int (nI j))]) rfl ?_
  have hσ1 := hσ.1
  have hσ2 := hσ.2.1
  refine V_aload_n C dX7_clean_0 0 rfl ?_
  refine V_iconst (v := nI 0) C dX7_clean_1 (by decide) ?_
  refine V_put (ci := 6) (k := 0) C dX7_clean_2 RX7 RX7 TX7 17 tyX7 tyX7_ok nmX7 fw_X7 rfl (by decide) tw_668 rfl (Or.inl rfl) rfl rfl rfl QW_o (Nat.le_of_ble_eq_true rfl) ?_
  refine V_wd (w' := wset (QW i ad σ th ro lo ma ap o) ([i]) (.inr (6, [.int (nI 0), .int (nI (cN σ)), .int (nI (cK σ)), .int (cDay σ), .int (cIns σ), .ref (ad [i, 1]), .ref (ad [i, 2]), .ref (ad [i, 3]), .ref (ad [i, 4]), .ref (ad [i, 5]), .ref (ad [i, 6]), .ref (ad [i, 7]), .ref (ad [i, 8]), .ref (ad [i, 9]), .ref (ad [i, 10]), .ref (ad [i, 11]), .int ro]))) rfl ?_
  refine V_wd (w' := QW i ad σ (nI 0) ro lo ma ap o) QW_th ?_
  refine V_aload_n C dX7_clean_5 0 rfl ?_
  refine V_iload_n C dX7_clean_6 1 rfl ?_
  refine V_callV (r := (RX7, TX7, 17)) C [.int (nI j)] dX7_clean_7 m_X7_isHall k_X7_isHall tw_739 rfl rfl rfl QW_o rfl rfl (Nat.le_of_ble_eq_true rfl) ⟨by omega, by omega, by omega, by omega⟩ (m_isHall hl (by omega) hσ hj) (kr_some (x := .int (nI 1)) ?_) kx_no
  refine V_ifn_ne (tgt := 19) C dX7_clean_10 (by decide) (by decide) (fun hb1 => ?_) (fun hb1 => by exfalso; omega)
  refine V_wd (w' := QW i ad (setH σ j (hSc (cH σ j), hDm (cH σ j), hDu (cH σ j), hCe (cH σ j), hDy (cH σ j), hSu (cH σ j))) (nI 0) ro lo ma ap o) (by rw [setH_id]) ?_
  refine V_aload_n C dX7_clean_19 0 rfl ?_
  refine V_get (ci := 6) (k := 7) C dX7_clean_20 RX7 RX7 TX7 17 fw_X7 rfl (by decide) tw_675 rfl rfl (QW_o (σ := (setH σ j (hSc (cH σ j), hDm (cH σ j), hDu (cH σ j), hCe (cH σ j), hDy (cH σ j), hSu (cH σ j))))) rfl ?_
  refine V_iload_n C dX7_clean_23 1 rfl ?_
  refine V_ialdn (v := (nI (hDu (hSc (cH σ j), hDm (cH σ j), hDu (cH σ j), hCe (cH σ j), hDy (cH σ j), hSu (cH σ j))))) C dX7_clean_24 rfl (QW_3 (σ := (setH σ j (hSc (cH σ j), hDm (cH σ j), hDu (cH σ j), hCe (cH σ j), hDy (cH σ j), hSu (cH σ j))))) (by omega) (by decide) (rdh_Du hj) ?_
  refine V_istore_n C [(2, .int (nI (hDu (hSc (cH σ j), hDm (cH σ j), hDu (cH σ j), hCe (cH σ j), hDy (cH σ j), hSu (cH σ j))))), (0, .ref (ad [i])), (1, .int (nI j))] dX7_clean_25 (by decide) rfl ?_
  refine V_aload_n C dX7_clean_26 1 rfl ?_
  refine V_get (ci := 6) (k := 7) C dX7_clean_27 RX7 RX7 TX7 17 fw_X7 rfl (by decide) tw_675 rfl rfl (QW_o (σ := (setH σ j (hSc (cH σ j), hDm (cH σ j), hDu (cH σ j), hCe (cH σ j), hDy (cH σ j), hSu (cH σ j))))) rfl ?_
  refine V_iload_n C dX7_clean_30 2 rfl ?_
  refine V_iconst (v := nI 0) C dX7_clean_31 (by decide) ?_
  refine V_iastn C dX7_clean_32 rfl (QW_3 (σ := (setH σ j (hSc (cH σ j), hDm (cH σ j), hDu (cH σ j), hCe (cH σ j), hDy (cH σ j), hSu (cH σ j))))) (by omega) (by decide) ?_
  refine V_wd (w' := wset (QW i ad (setH σ j (hSc (cH σ j), hDm (cH σ j), hDu (cH σ j), hCe (cH σ j), hDy (cH σ j), hSu (cH σ j))) (nI 0) ro lo ma ap o) ([i, 3]) (eI 8 (upd (aDu (setH σ j (hSc (cH σ j), hDm (cH σ j), hDu (cH σ j), hCe (cH σ j), hDy (cH σ j), hSu (cH σ j)))) j (nI 0)))) rfl ?_
  refine V_wd (w' := QW i ad (setH σ j (hSc (cH σ j), hDm (cH σ j), 0, hCe (cH σ j), hDy (cH σ j), hSu (cH σ j))) (nI 0) ro lo ma ap o) (QW_h3 (h' := (hSc (cH σ j), hDm (cH σ j), 0, hCe (cH σ j), hDy (cH σ j), hSu (cH σ j))) hj rfl) ?_
  refine V_iload_n C dX7_clean_33 0 rfl ?_
  exact V_iret C .int dX7_clean_34 hr rfl ⟨rfl, rfl, _, _, _, _, rfl⟩ (by omega) (by omega)
set_option maxHeartbeats 4000000 in
theorem m_clean_no {l : Launch} {D : va_G} {ba d : Nat} {ad : Adr} (hl : l.stackTraces = false) (hd : 4 ≤ d) {i : Nat} {σ : CS} {th ro : Int32} {lo ma ap : Nat → Int32} {o : Wd} (hσ : cOK σ) {x : Int32} (hx : ∀ j, j < cN σ → x ≠ nI j)  : CT l yX7_clean (wsO yX7_clean cX7_clean 3 (some .int)) d 8 64 D ba [.ref (ad [i]), .int x] ad (QW i ad σ th ro lo ma ap o) (RQ i ad σ o (nI 1) (some (.int (nI 0)))) noX := by
  refine CT_of RX7 rfl (by decide +kernel) hl (Nat.le_of_ble_eq_true rfl) ?_
  intro p e s m args below meth c C hr hnm
  refine V_lvE (lv' := [(0, .ref (ad [i])), (1, .int x)]) rfl ?_
  have hσ1 := hσ.1
  have hσ2 := hσ.2.1
  refine V_aload_n C dX7_clean_0 0 rfl ?_
  refine V_iconst (v := nI 0) C dX7_clean_1 (by decide) ?_
  refine V_put (ci := 6) (k := 0) C dX7_clean_2 RX7 RX7 TX7 17 tyX7 tyX7_ok nmX7 fw_X7 rfl (by decide) tw_668 rfl (Or.inl rfl) rfl rfl rfl QW_o (Nat.le_of_ble_eq_true rfl) ?_
  refine V_wd (w' := wset (QW i ad σ th ro lo ma ap o) ([i]) (.inr (6, [.int (nI 0), .int (nI (cN σ)), .int (nI (cK σ)), .int (cDay σ), .int (cIns σ), .ref (ad [i, 1]), .ref (ad [i, 2]), .ref (ad [i, 3]), .ref (ad [i, 4]), .ref (ad [i, 5]), .ref (ad [i, 6]), .ref (ad [i, 7]), .ref (ad [i, 8]), .ref (ad [i, 9]), .ref (ad [i, 10]), .ref (ad [i, 11]), .int ro]))) rfl ?_
  refine V_wd (w' := QW i ad σ (nI 0) ro lo ma ap o) QW_th ?_
  refine V_aload_n C dX7_clean_5 0 rfl ?_
  refine V_iload_n C dX7_clean_6 1 rfl ?_
  refine V_callV (r := (RX7, TX7, 17)) C [.int x] dX7_clean_7 m_X7_isHall k_X7_isHall tw_739 rfl rfl rfl QW_o rfl rfl (Nat.le_of_ble_eq_true rfl) ⟨by omega, by omega, by omega, by omega⟩ (m_isHall_no hl (by omega) hσ hx) (kr_some (x := .int (nI 0)) ?_) kx_no
  refine V_ifn_ne (tgt := 19) C dX7_clean_10 (by decide) (by decide) (fun hb1 => by exfalso; omega) (fun hb1 => ?_)
  refine V_aload_n C dX7_clean_13 0 rfl ?_
  refine V_iconst (v := nI 1) C dX7_clean_14 (by decide) ?_
  refine V_callV (r := (RX7, TX7, 17)) C [.int (nI 1)] dX7_clean_15 m_X7_fail k_X7_fail tw_731 rfl rfl rfl QW_o rfl rfl (Nat.le_of_ble_eq_true rfl) ⟨by omega, by omega, by omega, by omega⟩ (m_fail hl (by omega) (nI 1)) (kr_some (x := .int (nI 0)) ?_) kx_no
  exact V_iret C .int dX7_clean_18 hr rfl ⟨rfl, rfl, _, _, _, _, rfl⟩ (by omega) (by omega)
set_option maxHeartbeats 4000000 in
theorem m_setDamping {l : Launch} {D : va_G} {ba d : Nat} {ad : Adr} (hl : l.stackTraces = false) (hd : 4 ≤ d) {i : Nat} {σ : CS} {th ro : Int32} {lo ma ap : Nat → Int32} {o : Wd} (hσ : cOK σ) {j : Nat} (hj : j < cN σ) {v : Nat} (hv : v ≤ 90) (hin : ¬ inR (nI v) (nI 0) (nI 90) = 0)  : CT l yX7_setDamping (wsO yX7_setDamping cX7_setDamping 4 (some .int)) d 8 64 D ba [.ref (ad [i]), .int (nI j), .int (nI v)] ad (QW i ad σ th ro lo ma ap o) (RQ i ad (setH σ j (hSc (cH σ j), v, hDu (cH σ j), -1, 0, hSu (cH σ j))) o (nI 0) (some (.int (nI (hDm (cH σ j)))))) noX := by
  refine CT_of RX7 rfl (by decide +kernel) hl (Nat.le_of_ble_eq_true rfl) ?_
  intro p e s m args below meth c C hr hnm
  refine V_lvE (lv' := [(0, .ref (ad [i])), (1, .int (nI j)), (2, .int (nI v))]) rfl ?_
  have hσ1 := hσ.1
  have hσ2 := hσ.2.1
  refine V_aload_n C dX7_setDamping_0 0 rfl ?_
  refine V_iconst (v := nI 0) C dX7_setDamping_1 (by decide) ?_
  refine V_put (ci := 6) (k := 0) C dX7_setDamping_2 RX7 RX7 TX7 17 tyX7 tyX7_ok nmX7 fw_X7 rfl (by decide) tw_668 rfl (Or.inl rfl) rfl rfl rfl QW_o (Nat.le_of_ble_eq_true rfl) ?_
  refine V_wd (w' := wset (QW i ad σ th ro lo ma ap o) ([i]) (.inr (6, [.int (nI 0), .int (nI (cN σ)), .int (nI (cK σ)), .int (cDay σ), .int (cIns σ), .ref (ad [i, 1]), .ref (ad [i, 2]), .ref (ad [i, 3]), .ref (ad [i, 4]), .ref (ad [i, 5]), .ref (ad [i, 6]), .ref (ad [i, 7]), .ref (ad [i, 8]), .ref (ad [i, 9]), .ref (ad [i, 10]), .ref (ad [i, 11]), .int ro]))) rfl ?_
  refine V_wd (w' := QW i ad σ (nI 0) ro lo ma ap o) QW_th ?_
  refine V_aload_n C dX7_setDamping_5 0 rfl ?_
  refine V_iload_n C dX7_setDamping_6 1 rfl ?_
  refine V_callV (r := (RX7, TX7, 17)) C [.int (nI j)] dX7_setDamping_7 m_X7_isHall k_X7_isHall tw_739 rfl rfl rfl QW_o rfl rfl (Nat.le_of_ble_eq_true rfl) ⟨by omega, by omega, by omega, by omega⟩ (m_isHall hl (by omega) hσ hj) (kr_some (x := .int (nI 1)) ?_) kx_no
  refine V_ifn_ne (tgt := 19) C dX7_setDamping_10 (by decide) (by decide) (fun hb1 => ?_) (fun hb1 => by exfalso; omega)
  refine V_iload_n C dX7_setDamping_19 2 rfl ?_
  refine V_iconst (v := nI 0) C dX7_setDamping_20 (by decide) ?_
  refine V_bipush (v := nI 90) C dX7_setDamping_21 (by decide) ?_
  have hin23 := inR_le (nI v) (nI 0) (nI 90)
  refine V_callS C [.int (nI v), .int (nI 0), .int (nI 90)] dX7_setDamping_23 m_X7_isIn k_X7_isIn tw_728 rfl rfl (Nat.le_of_ble_eq_true rfl) ⟨by omega, by omega, by omega, by omega⟩ (m_isIn hl (by omega) (nI v) (nI 0) (nI 90)) (kr_some (x := .int (nI (inR (nI v) (nI 0) (nI 90)))) ?_) kx_no
  refine V_ifn_ne (tgt := 35) C dX7_setDamping_26 (by decide) (by omega) (fun hb2 => ?_) (fun hb2 => by exfalso; exact hin hb2)
  refine V_wd (w' := QW i ad (setH σ j (hSc (cH σ j), hDm (cH σ j), hDu (cH σ j), hCe (cH σ j), hDy (cH σ j), hSu (cH σ j))) (nI 0) ro lo ma ap o) (by rw [setH_id]) ?_
  refine V_aload_n C dX7_setDamping_35 0 rfl ?_
  refine V_get (ci := 6) (k := 6) C dX7_setDamping_36 RX7 RX7 TX7 17 fw_X7 rfl (by decide) tw_674 rfl rfl (QW_o (σ := (setH σ j (hSc (cH σ j), hDm (cH σ j), hDu (cH σ j), hCe (cH σ j), hDy (cH σ j), hSu (cH σ j))))) rfl ?_
  refine V_iload_n C dX7_setDamping_39 1 rfl ?_
  refine V_ialdn (v := (nI (hDm (hSc (cH σ j), hDm (cH σ j), hDu (cH σ j), hCe (cH σ j), hDy (cH σ j), hSu (cH σ j))))) C dX7_setDamping_40 rfl (QW_2 (σ := (setH σ j (hSc (cH σ j), hDm (cH σ j), hDu (cH σ j), hCe (cH σ j), hDy (cH σ j), hSu (cH σ j))))) (by omega) (by decide) (rdh_Dm hj) ?_
  refine V_istore_n C [(3, .int (nI (hDm (hSc (cH σ j), hDm (cH σ j), hDu (cH σ j), hCe (cH σ j), hDy (cH σ j), hSu (cH σ j))))), (0, .ref (ad [i])), (1, .int (nI j)), (2, .int (nI v))] dX7_setDamping_41 (by decide) rfl ?_
  refine V_aload_n C dX7_setDamping_42 1 rfl ?_
  refine V_get (ci := 6) (k := 6) C dX7_setDamping_43 RX7 RX7 TX7 17 fw_X7 rfl (by decide) tw_674 rfl rfl (QW_o (σ := (setH σ j (hSc (cH σ j), hDm (cH σ j), hDu (cH σ j), hCe (cH σ j), hDy (cH σ j), hSu (cH σ j))))) rfl ?_
  refine V_iload_n C dX7_setDamping_46 2 rfl ?_
  refine V_iload_n C dX7_setDamping_47 3 rfl ?_
  refine V_iastn C dX7_setDamping_48 rfl (QW_2 (σ := (setH σ j (hSc (cH σ j), hDm (cH σ j), hDu (cH σ j), hCe (cH σ j), hDy (cH σ j), hSu (cH σ j))))) (by omega) (by decide) ?_
  refine V_wd (w' := wset (QW i ad (setH σ j (hSc (cH σ j), hDm (cH σ j), hDu (cH σ j), hCe (cH σ j), hDy (cH σ j), hSu (cH σ j))) (nI 0) ro lo ma ap o) ([i, 2]) (eI 8 (upd (aDm (setH σ j (hSc (cH σ j), hDm (cH σ j), hDu (cH σ j), hCe (cH σ j), hDy (cH σ j), hSu (cH σ j)))) j (nI v)))) rfl ?_
  refine V_wd (w' := QW i ad (setH σ j (hSc (cH σ j), v, hDu (cH σ j), hCe (cH σ j), hDy (cH σ j), hSu (cH σ j))) (nI 0) ro lo ma ap o) (QW_h2 (h' := (hSc (cH σ j), v, hDu (cH σ j), hCe (cH σ j), hDy (cH σ j), hSu (cH σ j))) hj rfl) ?_
  refine V_aload_n C dX7_setDamping_49 1 rfl ?_
  refine V_iload_n C dX7_setDamping_50 2 rfl ?_
  refine V_callV (r := (RX7, TX7, 17)) C [.int (nI j)] dX7_setDamping_51 m_X7_strike k_X7_strike tw_743 rfl rfl rfl (QW_o (σ := (setH σ j (hSc (cH σ j), v, hDu (cH σ j), hCe (cH σ j), hDy (cH σ j), hSu (cH σ j))))) rfl rfl (Nat.le_of_ble_eq_true rfl) ⟨by omega, by omega, by omega, by omega⟩ (m_strike hl (by omega) hσ hj) (kr_none ?_) kx_no
  refine V_iload_n C dX7_setDamping_54 0 rfl ?_
  exact V_iret C .int dX7_setDamping_55 hr rfl ⟨rfl, rfl, _, _, _, _, rfl⟩ (by omega) (by omega)
set_option maxHeartbeats 4000000 in
theorem m_setDamping_no {l : Launch} {D : va_G} {ba d : Nat} {ad : Adr} (hl : l.stackTraces = false) (hd : 4 ≤ d) {i : Nat} {σ : CS} {th ro : Int32} {lo ma ap : Nat → Int32} {o : Wd} (hσ : cOK σ) {x : Int32} (hx : ∀ j, j < cN σ → x ≠ nI j) (y : Int32)  : CT l yX7_setDamping (wsO yX7_setDamping cX7_setDamping 4 (some .int)) d 8 64 D ba [.ref (ad [i]), .int x, .int y] ad (QW i ad σ th ro lo ma ap o) (RQ i ad σ o (nI 1) (some (.int (nI 0)))) noX := by
  refine CT_of RX7 rfl (by decide +kernel) hl (Nat.le_of_ble_eq_true rfl) ?_
  intro p e s m args below meth c C hr hnm
  refine V_lvE (lv' := [(0, .ref (ad [i])), (1, .int x), (2, .int y)]) rfl ?_
  have hσ1 := hσ.1
  have hσ2 := hσ.2.1
  refine V_aload_n C dX7_setDamping_0 0 rfl ?_
  refine V_iconst (v := nI 0) C dX7_setDamping_1 (by decide) ?_
  refine V_put (ci := 6) (k := 0) C dX7_setDamping_2 RX7 RX7 TX7 17 tyX7 tyX7_ok nmX7 fw_X7 rfl (by decide) tw_668 rfl (Or.inl rfl) rfl rfl rfl QW_o (Nat.le_of_ble_eq_true rfl) ?_
  refine V_wd (w' := wset (QW i ad σ th ro lo ma ap o) ([i]) (.inr (6, [.int (nI 0), .int (nI (cN σ)), .int (nI (cK σ)), .int (cDay σ), .int (cIns σ), .ref (ad [i, 1]), .ref (ad [i, 2]), .ref (ad [i, 3]), .ref (ad [i, 4]), .ref (ad [i, 5]), .ref (ad [i, 6]), .ref (ad [i, 7]), .ref (ad [i, 8]), .ref (ad [i, 9]), .ref (ad [i, 10]), .ref (ad [i, 11]), .int ro]))) rfl ?_
  refine V_wd (w' := QW i ad σ (nI 0) ro lo ma ap o) QW_th ?_
  refine V_aload_n C dX7_setDamping_5 0 rfl ?_
  refine V_iload_n C dX7_setDamping_6 1 rfl ?_
  refine V_callV (r := (RX7, TX7, 17)) C [.int x] dX7_setDamping_7 m_X7_isHall k_X7_isHall tw_739 rfl rfl rfl QW_o rfl rfl (Nat.le_of_ble_eq_true rfl) ⟨by omega, by omega, by omega, by omega⟩ (m_isHall_no hl (by omega) hσ hx) (kr_some (x := .int (nI 0)) ?_) kx_no
  refine V_ifn_ne (tgt := 19) C dX7_setDamping_10 (by decide) (by decide) (fun hb1 => by exfalso; omega) (fun hb1 => ?_)
  refine V_aload_n C dX7_setDamping_13 0 rfl ?_
  refine V_iconst (v := nI 1) C dX7_setDamping_14 (by decide) ?_
  refine V_callV (r := (RX7, TX7, 17)) C [.int (nI 1)] dX7_setDamping_15 m_X7_fail k_X7_fail tw_731 rfl rfl rfl QW_o rfl rfl (Nat.le_of_ble_eq_true rfl) ⟨by omega, by omega, by omega, by omega⟩ (m_fail hl (by omega) (nI 1)) (kr_some (x := .int (nI 0)) ?_) kx_no
  exact V_iret C .int dX7_setDamping_18 hr rfl ⟨rfl, rfl, _, _, _, _, rfl⟩ (by omega) (by omega)
set_option maxHeartbeats 4000000 in
theorem m_setDamping_bad {l : Launch} {D : va_G} {ba d : Nat} {ad : Adr} (hl : l.stackTraces = false) (hd : 4 ≤ d) {i : Nat} {σ : CS} {th ro : Int32} {lo ma ap : Nat → Int32} {o : Wd} (hσ : cOK σ) {j : Nat} (hj : j < cN σ) {y : Int32} (hin : inR y (nI 0) (nI 90) = 0)  : CT l yX7_setDamping (wsO yX7_setDamping cX7_setDamping 4 (some .int)) d 8 64 D ba [.ref (ad [i]), .int (nI j), .int y] ad (QW i ad σ th ro lo ma ap o) (RQ i ad σ o (nI 2) (some (.int (nI 0)))) noX := by
  refine CT_of RX7 rfl (by decide +kernel) hl (Nat.le_of_ble_eq_true rfl) ?_
  intro p e s m args below meth c C hr hnm
  refine V_lvE (lv' := [(0, .ref (ad [i])), (1, .int (nI j)), (2, .int y)]) rfl ?_
  have hσ1 := hσ.1
  have hσ2 := hσ.2.1
  refine V_aload_n C dX7_setDamping_0 0 rfl ?_
  refine V_iconst (v := nI 0) C dX7_setDamping_1 (by decide) ?_
  refine V_put (ci := 6) (k := 0) C dX7_setDamping_2 RX7 RX7 TX7 17 tyX7 tyX7_ok nmX7 fw_X7 rfl (by decide) tw_668 rfl (Or.inl rfl) rfl rfl rfl QW_o (Nat.le_of_ble_eq_true rfl) ?_
  refine V_wd (w' := wset (QW i ad σ th ro lo ma ap o) ([i]) (.inr (6, [.int (nI 0), .int (nI (cN σ)), .int (nI (cK σ)), .int (cDay σ), .int (cIns σ), .ref (ad [i, 1]), .ref (ad [i, 2]), .ref (ad [i, 3]), .ref (ad [i, 4]), .ref (ad [i, 5]), .ref (ad [i, 6]), .ref (ad [i, 7]), .ref (ad [i, 8]), .ref (ad [i, 9]), .ref (ad [i, 10]), .ref (ad [i, 11]), .int ro]))) rfl ?_
  refine V_wd (w' := QW i ad σ (nI 0) ro lo ma ap o) QW_th ?_
  refine V_aload_n C dX7_setDamping_5 0 rfl ?_
  refine V_iload_n C dX7_setDamping_6 1 rfl ?_
  refine V_callV (r := (RX7, TX7, 17)) C [.int (nI j)] dX7_setDamping_7 m_X7_isHall k_X7_isHall tw_739 rfl rfl rfl QW_o rfl rfl (Nat.le_of_ble_eq_true rfl) ⟨by omega, by omega, by omega, by omega⟩ (m_isHall hl (by omega) hσ hj) (kr_some (x := .int (nI 1)) ?_) kx_no
  refine V_ifn_ne (tgt := 19) C dX7_setDamping_10 (by decide) (by decide) (fun hb1 => ?_) (fun hb1 => by exfalso; omega)
  refine V_iload_n C dX7_setDamping_19 2 rfl ?_
  refine V_iconst (v := nI 0) C dX7_setDamping_20 (by decide) ?_
  refine V_bipush (v := nI 90) C dX7_setDamping_21 (by decide) ?_
  have hin23 := inR_le y (nI 0) (nI 90)
  refine V_callS C [.int y, .int (nI 0), .int (nI 90)] dX7_setDamping_23 m_X7_isIn k_X7_isIn tw_728 rfl rfl (Nat.le_of_ble_eq_true rfl) ⟨by omega, by omega, by omega, by omega⟩ (m_isIn hl (by omega) y (nI 0) (nI 90)) (kr_some (x := .int (nI (inR y (nI 0) (nI 90)))) ?_) kx_no
  rw [show inR y (nI 0) (nI 90) = 0 from hin]
  refine V_ifn_ne (tgt := 35) C dX7_setDamping_26 (by decide) (by decide) (fun hb2 => by exfalso; omega) (fun hb2 => ?_)
  refine V_aload_n C dX7_setDamping_29 0 rfl ?_
  refine V_iconst (v := nI 2) C dX7_setDamping_30 (by decide) ?_
  refine V_callV (r := (RX7, TX7, 17)) C [.int (nI 2)] dX7_setDamping_31 m_X7_fail k_X7_fail tw_731 rfl rfl rfl QW_o rfl rfl (Nat.le_of_ble_eq_true rfl) ⟨by omega, by omega, by omega, by omega⟩ (m_fail hl (by omega) (nI 2)) (kr_some (x := .int (nI 0)) ?_) kx_no
  exact V_iret C .int dX7_setDamping_34 hr rfl ⟨rfl, rfl, _, _, _, _, rfl⟩ (by omega) (by omega)
set_option maxHeartbeats 4000000 in
theorem m_revoke {l : Launch} {D : va_G} {ba d : Nat} {ad : Adr} (hl : l.stackTraces = false) (hd : 4 ≤ d) {i : Nat} {σ : CS} {th ro : Int32} {lo ma ap : Nat → Int32} {o : Wd} (hσ : cOK σ) {j : Nat} (hj : j < cN σ) (hc : ¬ hCe (cH σ j) = -1)  : CT l yX7_revoke (wsO yX7_revoke cX7_revoke 3 (some .int)) d 8 64 D ba [.ref (ad [i]), .int (nI j)] ad (QW i ad σ th ro lo ma ap o) (RQ i ad (setH σ j (hSc (cH σ j), hDm (cH σ j), hDu (cH σ j), -1, 0, hSu (cH σ j))) o (nI 0) (some (.int (nI (hDy (cH σ j)))))) noX := by
  refine CT_of RX7 rfl (by decide +kernel) hl (Nat.le_of_ble_eq_true rfl) ?_
  intro p e s m args below meth c C hr hnm
  refine V_lvE (lv' := [(0, .ref (ad [i])), (1, .int (nI j))]) rfl ?_
  have hσ1 := hσ.1
  have hσ2 := hσ.2.1
  refine V_aload_n C dX7_revoke_0 0 rfl ?_
  refine V_iconst (v := nI 0) C dX7_revoke_1 (by decide) ?_
  refine V_put (ci := 6) (k := 0) C dX7_revoke_2 RX7 RX7 TX7 17 tyX7 tyX7_ok nmX7 fw_X7 rfl (by decide) tw_668 rfl (Or.inl rfl) rfl rfl rfl QW_o (Nat.le_of_ble_eq_true rfl) ?_
  refine V_wd (w' := wset (QW i ad σ th ro lo ma ap o) ([i]) (.inr (6, [.int (nI 0), .int (nI (cN σ)), .int (nI (cK σ)), .int (cDay σ), .int (cIns σ), .ref (ad [i, 1]), .ref (ad [i, 2]), .ref (ad [i, 3]), .ref (ad [i, 4]), .ref (ad [i, 5]), .ref (ad [i, 6]), .ref (ad [i, 7]), .ref (ad [i, 8]), .ref (ad [i, 9]), .ref (ad [i, 10]), .ref (ad [i, 11]), .int ro]))) rfl ?_
  refine V_wd (w' := QW i ad σ (nI 0) ro lo ma ap o) QW_th ?_
  refine V_aload_n C dX7_revoke_5 0 rfl ?_
  refine V_iload_n C dX7_revoke_6 1 rfl ?_
  refine V_callV (r := (RX7, TX7, 17)) C [.int (nI j)] dX7_revoke_7 m_X7_isHall k_X7_isHall tw_739 rfl rfl rfl QW_o rfl rfl (Nat.le_of_ble_eq_true rfl) ⟨by omega, by omega, by omega, by omega⟩ (m_isHall hl (by omega) hσ hj) (kr_some (x := .int (nI 1)) ?_) kx_no
  refine V_ifn_ne (tgt := 19) C dX7_revoke_10 (by decide) (by decide) (fun hb1 => ?_) (fun hb1 => by exfalso; omega)
  refine V_wd (w' := QW i ad (setH σ j (hSc (cH σ j), hDm (cH σ j), hDu (cH σ j), hCe (cH σ j), hDy (cH σ j), hSu (cH σ j))) (nI 0) ro lo ma ap o) (by rw [setH_id]) ?_
  refine V_aload_n C dX7_revoke_19 0 rfl ?_
  refine V_get (ci := 6) (k := 8) C dX7_revoke_20 RX7 RX7 TX7 17 fw_X7 rfl (by decide) tw_676 rfl rfl (QW_o (σ := (setH σ j (hSc (cH σ j), hDm (cH σ j), hDu (cH σ j), hCe (cH σ j), hDy (cH σ j), hSu (cH σ j))))) rfl ?_
  refine V_iload_n C dX7_revoke_23 1 rfl ?_
  refine V_ialdn (v := (hCe (hSc (cH σ j), hDm (cH σ j), hDu (cH σ j), hCe (cH σ j), hDy (cH σ j), hSu (cH σ j)))) C dX7_revoke_24 rfl (QW_4 (σ := (setH σ j (hSc (cH σ j), hDm (cH σ j), hDu (cH σ j), hCe (cH σ j), hDy (cH σ j), hSu (cH σ j))))) (by omega) (by decide) (rdh_Ce hj) ?_
  refine V_iconst (v := -1) C dX7_revoke_25 (by decide) ?_
  refine V_icmp_ne (tgt := 35) C dX7_revoke_26 (by decide) (fun hb2 => ?_) (fun hb2 => by exfalso; exact hc hb2)
  refine V_aload_n C dX7_revoke_35 0 rfl ?_
  refine V_get (ci := 6) (k := 9) C dX7_revoke_36 RX7 RX7 TX7 17 fw_X7 rfl (by decide) tw_677 rfl rfl (QW_o (σ := (setH σ j (hSc (cH σ j), hDm (cH σ j), hDu (cH σ j), hCe (cH σ j), hDy (cH σ j), hSu (cH σ j))))) rfl ?_
  refine V_iload_n C dX7_revoke_39 1 rfl ?_
  refine V_ialdn (v := (nI (hDy (hSc (cH σ j), hDm (cH σ j), hDu (cH σ j), hCe (cH σ j), hDy (cH σ j), hSu (cH σ j))))) C dX7_revoke_40 rfl (QW_5 (σ := (setH σ j (hSc (cH σ j), hDm (cH σ j), hDu (cH σ j), hCe (cH σ j), hDy (cH σ j), hSu (cH σ j))))) (by omega) (by decide) (rdh_Dy hj) ?_
  refine V_istore_n C [(2, .int (nI (hDy (hSc (cH σ j), hDm (cH σ j), hDu (cH σ j), hCe (cH σ j), hDy (cH σ j), hSu (cH σ j))))), (0, .ref (ad [i])), (1, .int (nI j))] dX7_revoke_41 (by decide) rfl ?_
  refine V_aload_n C dX7_revoke_42 1 rfl ?_
  refine V_iload_n C dX7_revoke_43 2 rfl ?_
  refine V_callV (r := (RX7, TX7, 17)) C [.int (nI j)] dX7_revoke_44 m_X7_strike k_X7_strike tw_743 rfl rfl rfl (QW_o (σ := (setH σ j (hSc (cH σ j), hDm (cH σ j), hDu (cH σ j), hCe (cH σ j), hDy (cH σ j), hSu (cH σ j))))) rfl rfl (Nat.le_of_ble_eq_true rfl) ⟨by omega, by omega, by omega, by omega⟩ (m_strike hl (by omega) hσ hj) (kr_none ?_) kx_no
  refine V_iload_n C dX7_revoke_47 0 rfl ?_
  exact V_iret C .int dX7_revoke_48 hr rfl ⟨rfl, rfl, _, _, _, _, rfl⟩ (by omega) (by omega)
set_option maxHeartbeats 4000000 in
theorem m_revoke_none {l : Launch} {D : va_G} {ba d : Nat} {ad : Adr} (hl : l.stackTraces = false) (hd : 4 ≤ d) {i : Nat} {σ : CS} {th ro : Int32} {lo ma ap : Nat → Int32} {o : Wd} (hσ : cOK σ) {j : Nat} (hj : j < cN σ) (hc : hCe (cH σ j) = -1)  : CT l yX7_revoke (wsO yX7_revoke cX7_revoke 3 (some .int)) d 8 64 D ba [.ref (ad [i]), .int (nI j)] ad (QW i ad σ th ro lo ma ap o) (RQ i ad σ o (nI 2) (some (.int (nI 0)))) noX := by
  refine CT_of RX7 rfl (by decide +kernel) hl (Nat.le_of_ble_eq_true rfl) ?_
  intro p e s m args below meth c C hr hnm
  refine V_lvE (lv' := [(0, .ref (ad [i])), (1, .int (nI j))]) rfl ?_
  have hσ1 := hσ.1
  have hσ2 := hσ.2.1
  refine V_aload_n C dX7_revoke_0 0 rfl ?_
  refine V_iconst (v := nI 0) C dX7_revoke_1 (by decide) ?_
  refine V_put (ci := 6) (k := 0) C dX7_revoke_2 RX7 RX7 TX7 17 tyX7 tyX7_ok nmX7 fw_X7 rfl (by decide) tw_668 rfl (Or.inl rfl) rfl rfl rfl QW_o (Nat.le_of_ble_eq_true rfl) ?_
  refine V_wd (w' := wset (QW i ad σ th ro lo ma ap o) ([i]) (.inr (6, [.int (nI 0), .int (nI (cN σ)), .int (nI (cK σ)), .int (cDay σ), .int (cIns σ), .ref (ad [i, 1]), .ref (ad [i, 2]), .ref (ad [i, 3]), .ref (ad [i, 4]), .ref (ad [i, 5]), .ref (ad [i, 6]), .ref (ad [i, 7]), .ref (ad [i, 8]), .ref (ad [i, 9]), .ref (ad [i, 10]), .ref (ad [i, 11]), .int ro]))) rfl ?_
  refine V_wd (w' := QW i ad σ (nI 0) ro lo ma ap o) QW_th ?_
  refine V_aload_n C dX7_revoke_5 0 rfl ?_
  refine V_iload_n C dX7_revoke_6 1 rfl ?_
  refine V_callV (r := (RX7, TX7, 17)) C [.int (nI j)] dX7_revoke_7 m_X7_isHall k_X7_isHall tw_739 rfl rfl rfl QW_o rfl rfl (Nat.le_of_ble_eq_true rfl) ⟨by omega, by omega, by omega, by omega⟩ (m_isHall hl (by omega) hσ hj) (kr_some (x := .int (nI 1)) ?_) kx_no
  refine V_ifn_ne (tgt := 19) C dX7_revoke_10 (by decide) (by decide) (fun hb1 => ?_) (fun hb1 => by exfalso; omega)
  refine V_aload_n C dX7_revoke_19 0 rfl ?_
  refine V_get (ci := 6) (k := 8) C dX7_revoke_20 RX7 RX7 TX7 17 fw_X7 rfl (by decide) tw_676 rfl rfl QW_o rfl ?_
  refine V_iload_n C dX7_revoke_23 1 rfl ?_
  refine V_ialdn (v := (hCe (cH σ j))) C dX7_revoke_24 rfl QW_4 (by omega) (by decide) (row0_in hj) ?_
  refine V_iconst (v := -1) C dX7_revoke_25 (by decide) ?_
  refine V_icmp_ne (tgt := 35) C dX7_revoke_26 (by decide) (fun hb2 => by exfalso; exact hb2 hc) (fun hb2 => ?_)
  refine V_aload_n C dX7_revoke_29 0 rfl ?_
  refine V_iconst (v := nI 2) C dX7_revoke_30 (by decide) ?_
  refine V_callV (r := (RX7, TX7, 17)) C [.int (nI 2)] dX7_revoke_31 m_X7_fail k_X7_fail tw_731 rfl rfl rfl QW_o rfl rfl (Nat.le_of_ble_eq_true rfl) ⟨by omega, by omega, by omega, by omega⟩ (m_fail hl (by omega) (nI 2)) (kr_some (x := .int (nI 0)) ?_) kx_no
  exact V_iret C .int dX7_revoke_34 hr rfl ⟨rfl, rfl, _, _, _, _, rfl⟩ (by omega) (by omega)
set_option maxHeartbeats 4000000 in
theorem m_revoke_no {l : Launch} {D : va_G} {ba d : Nat} {ad : Adr} (hl : l.stackTraces = false) (hd : 4 ≤ d) {i : Nat} {σ : CS} {th ro : Int32} {lo ma ap : Nat → Int32} {o : Wd} (hσ : cOK σ) {x : Int32} (hx : ∀ j, j < cN σ → x ≠ nI j)  : CT l yX7_revoke (wsO yX7_revoke cX7_revoke 3 (some .int)) d 8 64 D ba [.ref (ad [i]), .int x] ad (QW i ad σ th ro lo ma ap o) (RQ i ad σ o (nI 1) (some (.int (nI 0)))) noX := by
  refine CT_of RX7 rfl (by decide +kernel) hl (Nat.le_of_ble_eq_true rfl) ?_
  intro p e s m args below meth c C hr hnm
  refine V_lvE (lv' := [(0, .ref (ad [i])), (1, .int x)]) rfl ?_
  have hσ1 := hσ.1
  have hσ2 := hσ.2.1
  refine V_aload_n C dX7_revoke_0 0 rfl ?_
  refine V_iconst (v := nI 0) C dX7_revoke_1 (by decide) ?_
  refine V_put (ci := 6) (k := 0) C dX7_revoke_2 RX7 RX7 TX7 17 tyX7 tyX7_ok nmX7 fw_X7 rfl (by decide) tw_668 rfl (Or.inl rfl) rfl rfl rfl QW_o (Nat.le_of_ble_eq_true rfl) ?_
  refine V_wd (w' := wset (QW i ad σ th ro lo ma ap o) ([i]) (.inr (6, [.int (nI 0), .int (nI (cN σ)), .int (nI (cK σ)), .int (cDay σ), .int (cIns σ), .ref (ad [i, 1]), .ref (ad [i, 2]), .ref (ad [i, 3]), .ref (ad [i, 4]), .ref (ad [i, 5]), .ref (ad [i, 6]), .ref (ad [i, 7]), .ref (ad [i, 8]), .ref (ad [i, 9]), .ref (ad [i, 10]), .ref (ad [i, 11]), .int ro]))) rfl ?_
  refine V_wd (w' := QW i ad σ (nI 0) ro lo ma ap o) QW_th ?_
  refine V_aload_n C dX7_revoke_5 0 rfl ?_
  refine V_iload_n C dX7_revoke_6 1 rfl ?_
  refine V_callV (r := (RX7, TX7, 17)) C [.int x] dX7_revoke_7 m_X7_isHall k_X7_isHall tw_739 rfl rfl rfl QW_o rfl rfl (Nat.le_of_ble_eq_true rfl) ⟨by omega, by omega, by omega, by omega⟩ (m_isHall_no hl (by omega) hσ hx) (kr_some (x := .int (nI 0)) ?_) kx_no
  refine V_ifn_ne (tgt := 19) C dX7_revoke_10 (by decide) (by decide) (fun hb1 => by exfalso; omega) (fun hb1 => ?_)
  refine V_aload_n C dX7_revoke_13 0 rfl ?_
  refine V_iconst (v := nI 1) C dX7_revoke_14 (by decide) ?_
  refine V_callV (r := (RX7, TX7, 17)) C [.int (nI 1)] dX7_revoke_15 m_X7_fail k_X7_fail tw_731 rfl rfl rfl QW_o rfl rfl (Nat.le_of_ble_eq_true rfl) ⟨by omega, by omega, by omega, by omega⟩ (m_fail hl (by omega) (nI 1)) (kr_some (x := .int (nI 0)) ?_) kx_no
  exact V_iret C .int dX7_revoke_18 hr rfl ⟨rfl, rfl, _, _, _, _, rfl⟩ (by omega) (by omega)
theorem QW_mv {i : Nat} {ad : Adr} {σ : CS} {th ro : Int32} {lo ma ap : Nat → Int32} {o : Wd} {j k v : Nat} (hj : j < cN σ) (hk : k < hSc (cH σ j)) (h6 : k < 6) : wset (QW i ad (setH σ j (hSc (cH σ j), hDm (cH σ j), hDu (cH σ j), hCe (cH σ j), hDy (cH σ j), hSu (cH σ j))) th ro lo ma ap o) [i, 6] (eI 48 (upd (aDs (setH σ j (hSc (cH σ j), hDm (cH σ j), hDu (cH σ j), hCe (cH σ j), hDy (cH σ j), hSu (cH σ j)))) (6 * j + k) (nI v))) = QW i ad (setH σ j (hSc (cH σ j), hDm (cH σ j), hDu (cH σ j), hCe (cH σ j), hDy (cH σ j), fup (hSu (cH σ j)) k ((hSu (cH σ j) k).1, v))) th ro lo ma ap o := by
  refine QW_ar ⟨rfl, rfl, rfl, rfl⟩ ?_ (MC_h (Or.inr rfl) (Or.inr rfl) (Or.inr rfl) (Or.inr rfl) (Or.inr rfl) (Or.inl rfl) (Or.inr ?_))
  · show some (eI 48 (aDs _)) = _
    rw [aDs_up (sc := hSc (cH σ j)) (h := (hSc (cH σ j), hDm (cH σ j), hDu (cH σ j), hCe (cH σ j), hDy (cH σ j), hSu (cH σ j))) (h' := (hSc (cH σ j), hDm (cH σ j), hDu (cH σ j), hCe (cH σ j), hDy (cH σ j), fup (hSu (cH σ j)) k ((hSu (cH σ j) k).1, v))) hj h6 rfl hk (fun a _ _ => Iff.rfl) (fun a ha => by show (fup (hSu (cH σ j)) k ((hSu (cH σ j) k).1, v) a).2 = _; rw [fup_n ha])]
    show some (eI 48 (upd _ _ (nI (fup (hSu (cH σ j)) k ((hSu (cH σ j) k).1, v) k).2))) = _
    rw [fup_s]
  · funext x
    show (if x / 6 < cN σ ∧ x % 6 < hSc (fup (cH σ) j _ (x / 6)) then nI (hSu (fup (cH σ) j _ (x / 6)) (x % 6)).1 else 0) = (if x / 6 < cN σ ∧ x % 6 < hSc (fup (cH σ) j _ (x / 6)) then nI (hSu (fup (cH σ) j _ (x / 6)) (x % 6)).1 else 0)
    by_cases hx : x / 6 = j
    · rw [hx, fup_s, fup_s]
      show (if _ then nI (fup (hSu (cH σ j)) k ((hSu (cH σ j) k).1, v) (x % 6)).1 else 0) = _
      by_cases ha : x % 6 = k
      · rw [ha, fup_s]
      · rw [fup_n ha]
    · rw [fup_n hx, fup_n hx]
set_option maxHeartbeats 4000000 in
theorem m_move {l : Launch} {D : va_G} {ba d : Nat} {ad : Adr} (hl : l.stackTraces = false) (hd : 4 ≤ d) {i : Nat} {σ : CS} {th ro : Int32} {lo ma ap : Nat → Int32} {o : Wd} (hσ : cOK σ) {j : Nat} (hj : j < cN σ) {k : Nat} (hk : k < hSc (cH σ j)) {v : Nat} (hv : v ≤ 60) (hin : ¬ inR (nI v) (nI 1) (nI 60) = 0)  : CT l yX7_moveSurface (wsO yX7_moveSurface cX7_moveSurface 5 (some .int)) d 8 64 D ba [.ref (ad [i]), .int (nI j), .int (nI k), .int (nI v)] ad (QW i ad σ th ro lo ma ap o) (RQ i ad (setH σ j (hSc (cH σ j), hDm (cH σ j), hDu (cH σ j), -1, 0, fup (hSu (cH σ j)) k ((hSu (cH σ j) k).1, v))) o (nI 0) (some (.int (nI ((hSu (cH σ j) k).2))))) noX := by
  refine CT_of RX7 rfl (by decide +kernel) hl (Nat.le_of_ble_eq_true rfl) ?_
  intro p e s m args below meth c C hr hnm
  refine V_lvE (lv' := [(0, .ref (ad [i])), (1, .int (nI j)), (2, .int (nI k)), (3, .int (nI v))]) rfl ?_
  have hσ1 := hσ.1
  have hσ2 := hσ.2.1
  have hu := hσ.2.2.1 j hj
  have hu1 := hu.1
  have hu2 := hu.2.1
  have hu3 := hu.2.2.1
  have hu4 := hu.2.2.2.1
  refine V_aload_n C dX7_moveSurface_0 0 rfl ?_
  refine V_iconst (v := nI 0) C dX7_moveSurface_1 (by decide) ?_
  refine V_put (ci := 6) (k := 0) C dX7_moveSurface_2 RX7 RX7 TX7 17 tyX7 tyX7_ok nmX7 fw_X7 rfl (by decide) tw_668 rfl (Or.inl rfl) rfl rfl rfl QW_o (Nat.le_of_ble_eq_true rfl) ?_
  refine V_wd (w' := wset (QW i ad σ th ro lo ma ap o) ([i]) (.inr (6, [.int (nI 0), .int (nI (cN σ)), .int (nI (cK σ)), .int (cDay σ), .int (cIns σ), .ref (ad [i, 1]), .ref (ad [i, 2]), .ref (ad [i, 3]), .ref (ad [i, 4]), .ref (ad [i, 5]), .ref (ad [i, 6]), .ref (ad [i, 7]), .ref (ad [i, 8]), .ref (ad [i, 9]), .ref (ad [i, 10]), .ref (ad [i, 11]), .int ro]))) rfl ?_
  refine V_wd (w' := QW i ad σ (nI 0) ro lo ma ap o) QW_th ?_
  refine V_aload_n C dX7_moveSurface_5 0 rfl ?_
  refine V_iload_n C dX7_moveSurface_6 1 rfl ?_
  refine V_iload_n C dX7_moveSurface_7 2 rfl ?_
  refine V_callV (r := (RX7, TX7, 17)) C [.int (nI j), .int (nI k)] dX7_moveSurface_8 m_X7_isSurface k_X7_isSurface tw_751 rfl rfl rfl QW_o rfl rfl (Nat.le_of_ble_eq_true rfl) ⟨by omega, by omega, by omega, by omega⟩ (m_isSurf hl (by omega) hσ hj hk) (kr_some (x := .int (nI 1)) ?_) kx_no
  refine V_ifn_ne (tgt := 20) C dX7_moveSurface_11 (by decide) (by decide) (fun hb1 => ?_) (fun hb1 => by exfalso; omega)
  refine V_iload_n C dX7_moveSurface_20 3 rfl ?_
  refine V_iconst (v := nI 1) C dX7_moveSurface_21 (by decide) ?_
  refine V_bipush (v := nI 60) C dX7_moveSurface_22 (by decide) ?_
  have hin24 := inR_le (nI v) (nI 1) (nI 60)
  refine V_callS C [.int (nI v), .int (nI 1), .int (nI 60)] dX7_moveSurface_24 m_X7_isIn k_X7_isIn tw_728 rfl rfl (Nat.le_of_ble_eq_true rfl) ⟨by omega, by omega, by omega, by omega⟩ (m_isIn hl (by omega) (nI v) (nI 1) (nI 60)) (kr_some (x := .int (nI (inR (nI v) (nI 1) (nI 60)))) ?_) kx_no
  refine V_ifn_ne (tgt := 36) C dX7_moveSurface_27 (by decide) (by omega) (fun hb2 => ?_) (fun hb2 => by exfalso; exact hin hb2)
  refine V_wd (w' := QW i ad (setH σ j (hSc (cH σ j), hDm (cH σ j), hDu (cH σ j), hCe (cH σ j), hDy (cH σ j), hSu (cH σ j))) (nI 0) ro lo ma ap o) (by rw [setH_id]) ?_
  refine V_aload_n C dX7_moveSurface_36 0 rfl ?_
  refine V_get (ci := 6) (k := 10) C dX7_moveSurface_37 RX7 RX7 TX7 17 fw_X7 rfl (by decide) tw_678 rfl rfl (QW_o (σ := (setH σ j (hSc (cH σ j), hDm (cH σ j), hDu (cH σ j), hCe (cH σ j), hDy (cH σ j), hSu (cH σ j))))) rfl ?_
  refine V_bipush (v := nI 6) C dX7_moveSurface_40 (by decide) ?_
  refine V_iload_n C dX7_moveSurface_42 1 rfl ?_
  refine V_imuln C dX7_moveSurface_43 ?_
  refine V_iload_n C dX7_moveSurface_44 2 rfl ?_
  refine V_iaddn C dX7_moveSurface_45 ?_
  refine V_ialdn (v := (nI ((hSu (cH σ j) k).2))) C dX7_moveSurface_46 rfl (QW_6 (σ := (setH σ j (hSc (cH σ j), hDm (cH σ j), hDu (cH σ j), hCe (cH σ j), hDy (cH σ j), hSu (cH σ j))))) (by omega) (by decide) (by rw [aDs_at (σ := (setH σ j (hSc (cH σ j), hDm (cH σ j), hDu (cH σ j), hCe (cH σ j), hDy (cH σ j), hSu (cH σ j)))) hj (by show k < hSc (fup _ _ _ _); rw [fup_s]; exact hk) (by omega)]; show nI (hSu (fup _ _ _ _) k).2 = _; rw [fup_s]) ?_
  refine V_istore C [(4, .int (nI ((hSu (cH σ j) k).2))), (0, .ref (ad [i])), (1, .int (nI j)), (2, .int (nI k)), (3, .int (nI v))] dX7_moveSurface_47 (by decide) rfl ?_
  refine V_aload_n C dX7_moveSurface_49 1 rfl ?_
  refine V_get (ci := 6) (k := 10) C dX7_moveSurface_50 RX7 RX7 TX7 17 fw_X7 rfl (by decide) tw_678 rfl rfl (QW_o (σ := (setH σ j (hSc (cH σ j), hDm (cH σ j), hDu (cH σ j), hCe (cH σ j), hDy (cH σ j), hSu (cH σ j))))) rfl ?_
  refine V_bipush (v := nI 6) C dX7_moveSurface_53 (by decide) ?_
  refine V_iload_n C dX7_moveSurface_55 2 rfl ?_
  refine V_imuln C dX7_moveSurface_56 ?_
  refine V_iload_n C dX7_moveSurface_57 3 rfl ?_
  refine V_iaddn C dX7_moveSurface_58 ?_
  refine V_iload_n C dX7_moveSurface_59 4 rfl ?_
  refine V_iastn C dX7_moveSurface_60 rfl (QW_6 (σ := (setH σ j (hSc (cH σ j), hDm (cH σ j), hDu (cH σ j), hCe (cH σ j), hDy (cH σ j), hSu (cH σ j))))) (by omega) (by decide) ?_
  refine V_wd (w' := wset (QW i ad (setH σ j (hSc (cH σ j), hDm (cH σ j), hDu (cH σ j), hCe (cH σ j), hDy (cH σ j), hSu (cH σ j))) (nI 0) ro lo ma ap o) ([i, 6]) (eI 48 (upd (aDs (setH σ j (hSc (cH σ j), hDm (cH σ j), hDu (cH σ j), hCe (cH σ j), hDy (cH σ j), hSu (cH σ j)))) ((6 * j) + k) (nI v)))) rfl ?_
  refine V_wd (w' := QW i ad (setH σ j (hSc (cH σ j), hDm (cH σ j), hDu (cH σ j), hCe (cH σ j), hDy (cH σ j), fup (hSu (cH σ j)) k ((hSu (cH σ j) k).1, v))) (nI 0) ro lo ma ap o) (QW_mv hj hk (by omega)) ?_
  refine V_aload_n C dX7_moveSurface_61 1 rfl ?_
  refine V_iload_n C dX7_moveSurface_62 2 rfl ?_
  refine V_callV (r := (RX7, TX7, 17)) C [.int (nI j)] dX7_moveSurface_63 m_X7_strike k_X7_strike tw_743 rfl rfl rfl (QW_o (σ := (setH σ j (hSc (cH σ j), hDm (cH σ j), hDu (cH σ j), hCe (cH σ j), hDy (cH σ j), fup (hSu (cH σ j)) k ((hSu (cH σ j) k).1, v))))) rfl rfl (Nat.le_of_ble_eq_true rfl) ⟨by omega, by omega, by omega, by omega⟩ (m_strike hl (by omega) hσ hj) (kr_none ?_) kx_no
  refine V_iload C dX7_moveSurface_66 0 rfl ?_
  exact V_iret C .int dX7_moveSurface_68 hr rfl ⟨rfl, rfl, _, _, _, _, rfl⟩ (by omega) (by omega)
set_option maxHeartbeats 4000000 in
theorem m_move_no {l : Launch} {D : va_G} {ba d : Nat} {ad : Adr} (hl : l.stackTraces = false) (hd : 4 ≤ d) {i : Nat} {σ : CS} {th ro : Int32} {lo ma ap : Nat → Int32} {o : Wd} (hσ : cOK σ) {x : Int32} (hx : ∀ j, j < cN σ → x ≠ nI j) (y z : Int32)  : CT l yX7_moveSurface (wsO yX7_moveSurface cX7_moveSurface 5 (some .int)) d 8 64 D ba [.ref (ad [i]), .int x, .int y, .int z] ad (QW i ad σ th ro lo ma ap o) (RQ i ad σ o (nI 1) (some (.int (nI 0)))) noX := by
  refine CT_of RX7 rfl (by decide +kernel) hl (Nat.le_of_ble_eq_true rfl) ?_
  intro p e s m args below meth c C hr hnm
  refine V_lvE (lv' := [(0, .ref (ad [i])), (1, .int x), (2, .int y), (3, .int z)]) rfl ?_
  have hσ1 := hσ.1
  have hσ2 := hσ.2.1
  refine V_aload_n C dX7_moveSurface_0 0 rfl ?_
  refine V_iconst (v := nI 0) C dX7_moveSurface_1 (by decide) ?_
  refine V_put (ci := 6) (k := 0) C dX7_moveSurface_2 RX7 RX7 TX7 17 tyX7 tyX7_ok nmX7 fw_X7 rfl (by decide) tw_668 rfl (Or.inl rfl) rfl rfl rfl QW_o (Nat.le_of_ble_eq_true rfl) ?_
  refine V_wd (w' := wset (QW i ad σ th ro lo ma ap o) ([i]) (.inr (6, [.int (nI 0), .int (nI (cN σ)), .int (nI (cK σ)), .int (cDay σ), .int (cIns σ), .ref (ad [i, 1]), .ref (ad [i, 2]), .ref (ad [i, 3]), .ref (ad [i, 4]), .ref (ad [i, 5]), .ref (ad [i, 6]), .ref (ad [i, 7]), .ref (ad [i, 8]), .ref (ad [i, 9]), .ref (ad [i, 10]), .ref (ad [i, 11]), .int ro]))) rfl ?_
  refine V_wd (w' := QW i ad σ (nI 0) ro lo ma ap o) QW_th ?_
  refine V_aload_n C dX7_moveSurface_5 0 rfl ?_
  refine V_iload_n C dX7_moveSurface_6 1 rfl ?_
  refine V_iload_n C dX7_moveSurface_7 2 rfl ?_
  refine V_callV (r := (RX7, TX7, 17)) C [.int x, .int y] dX7_moveSurface_8 m_X7_isSurface k_X7_isSurface tw_751 rfl rfl rfl QW_o rfl rfl (Nat.le_of_ble_eq_true rfl) ⟨by omega, by omega, by omega, by omega⟩ (m_isSurf_no hl (by omega) hσ hx y) (kr_some (x := .int (nI 0)) ?_) kx_no
  refine V_ifn_ne (tgt := 20) C dX7_moveSurface_11 (by decide) (by decide) (fun hb1 => by exfalso; omega) (fun hb1 => ?_)
  refine V_aload_n C dX7_moveSurface_14 0 rfl ?_
  refine V_iconst (v := nI 1) C dX7_moveSurface_15 (by decide) ?_
  refine V_callV (r := (RX7, TX7, 17)) C [.int (nI 1)] dX7_moveSurface_16 m_X7_fail k_X7_fail tw_731 rfl rfl rfl QW_o rfl rfl (Nat.le_of_ble_eq_true rfl) ⟨by omega, by omega, by omega, by omega⟩ (m_fail hl (by omega) (nI 1)) (kr_some (x := .int (nI 0)) ?_) kx_no
  exact V_iret C .int dX7_moveSurface_19 hr rfl ⟨rfl, rfl, _, _, _, _, rfl⟩ (by omega) (by omega)
set_option maxHeartbeats 4000000 in
theorem m_move_no2 {l : Launch} {D : va_G} {ba d : Nat} {ad : Adr} (hl : l.stackTraces = false) (hd : 4 ≤ d) {i : Nat} {σ : CS} {th ro : Int32} {lo ma ap : Nat → Int32} {o : Wd} (hσ : cOK σ) {j : Nat} (hj : j < cN σ) {x2 : Int32} (hx2 : ∀ k, k < hSc (cH σ j) → x2 ≠ nI k) (z : Int32)  : CT l yX7_moveSurface (wsO yX7_moveSurface cX7_moveSurface 5 (some .int)) d 8 64 D ba [.ref (ad [i]), .int (nI j), .int x2, .int z] ad (QW i ad σ th ro lo ma ap o) (RQ i ad σ o (nI 1) (some (.int (nI 0)))) noX := by
  refine CT_of RX7 rfl (by decide +kernel) hl (Nat.le_of_ble_eq_true rfl) ?_
  intro p e s m args below meth c C hr hnm
  refine V_lvE (lv' := [(0, .ref (ad [i])), (1, .int (nI j)), (2, .int x2), (3, .int z)]) rfl ?_
  have hσ1 := hσ.1
  have hσ2 := hσ.2.1
  refine V_aload_n C dX7_moveSurface_0 0 rfl ?_
  refine V_iconst (v := nI 0) C dX7_moveSurface_1 (by decide) ?_
  refine V_put (ci := 6) (k := 0) C dX7_moveSurface_2 RX7 RX7 TX7 17 tyX7 tyX7_ok nmX7 fw_X7 rfl (by decide) tw_668 rfl (Or.inl rfl) rfl rfl rfl QW_o (Nat.le_of_ble_eq_true rfl) ?_
  refine V_wd (w' := wset (QW i ad σ th ro lo ma ap o) ([i]) (.inr (6, [.int (nI 0), .int (nI (cN σ)), .int (nI (cK σ)), .int (cDay σ), .int (cIns σ), .ref (ad [i, 1]), .ref (ad [i, 2]), .ref (ad [i, 3]), .ref (ad [i, 4]), .ref (ad [i, 5]), .ref (ad [i, 6]), .ref (ad [i, 7]), .ref (ad [i, 8]), .ref (ad [i, 9]), .ref (ad [i, 10]), .ref (ad [i, 11]), .int ro]))) rfl ?_
  refine V_wd (w' := QW i ad σ (nI 0) ro lo ma ap o) QW_th ?_
  refine V_aload_n C dX7_moveSurface_5 0 rfl ?_
  refine V_iload_n C dX7_moveSurface_6 1 rfl ?_
  refine V_iload_n C dX7_moveSurface_7 2 rfl ?_
  refine V_callV (r := (RX7, TX7, 17)) C [.int (nI j), .int x2] dX7_moveSurface_8 m_X7_isSurface k_X7_isSurface tw_751 rfl rfl rfl QW_o rfl rfl (Nat.le_of_ble_eq_true rfl) ⟨by omega, by omega, by omega, by omega⟩ (m_isSurf_no2 hl (by omega) hσ hj hx2) (kr_some (x := .int (nI 0)) ?_) kx_no
  refine V_ifn_ne (tgt := 20) C dX7_moveSurface_11 (by decide) (by decide) (fun hb1 => by exfalso; omega) (fun hb1 => ?_)
  refine V_aload_n C dX7_moveSurface_14 0 rfl ?_
  refine V_iconst (v := nI 1) C dX7_moveSurface_15 (by decide) ?_
  refine V_callV (r := (RX7, TX7, 17)) C [.int (nI 1)] dX7_moveSurface_16 m_X7_fail k_X7_fail tw_731 rfl rfl rfl QW_o rfl rfl (Nat.le_of_ble_eq_true rfl) ⟨by omega, by omega, by omega, by omega⟩ (m_fail hl (by omega) (nI 1)) (kr_some (x := .int (nI 0)) ?_) kx_no
  exact V_iret C .int dX7_moveSurface_19 hr rfl ⟨rfl, rfl, _, _, _, _, rfl⟩ (by omega) (by omega)
set_option maxHeartbeats 4000000 in
theorem m_move_bad {l : Launch} {D : va_G} {ba d : Nat} {ad : Adr} (hl : l.stackTraces = false) (hd : 4 ≤ d) {i : Nat} {σ : CS} {th ro : Int32} {lo ma ap : Nat → Int32} {o : Wd} (hσ : cOK σ) {j : Nat} (hj : j < cN σ) {k : Nat} (hk : k < hSc (cH σ j)) {y : Int32} (hin : inR y (nI 1) (nI 60) = 0)  : CT l yX7_moveSurface (wsO yX7_moveSurface cX7_moveSurface 5 (some .int)) d 8 64 D ba [.ref (ad [i]), .int (nI j), .int (nI k), .int y] ad (QW i ad σ th ro lo ma ap o) (RQ i ad σ o (nI 2) (some (.int (nI 0)))) noX := by
  refine CT_of RX7 rfl (by decide +kernel) hl (Nat.le_of_ble_eq_true rfl) ?_
  intro p e s m args below meth c C hr hnm
  refine V_lvE (lv' := [(0, .ref (ad [i])), (1, .int (nI j)), (2, .int (nI k)), (3, .int y)]) rfl ?_
  have hσ1 := hσ.1
  have hσ2 := hσ.2.1
  refine V_aload_n C dX7_moveSurface_0 0 rfl ?_
  refine V_iconst (v := nI 0) C dX7_moveSurface_1 (by decide) ?_
  refine V_put (ci := 6) (k := 0) C dX7_moveSurface_2 RX7 RX7 TX7 17 tyX7 tyX7_ok nmX7 fw_X7 rfl (by decide) tw_668 rfl (Or.inl rfl) rfl rfl rfl QW_o (Nat.le_of_ble_eq_true rfl) ?_
  refine V_wd (w' := wset (QW i ad σ th ro lo ma ap o) ([i]) (.inr (6, [.int (nI 0), .int (nI (cN σ)), .int (nI (cK σ)), .int (cDay σ), .int (cIns σ), .ref (ad [i, 1]), .ref (ad [i, 2]), .ref (ad [i, 3]), .ref (ad [i, 4]), .ref (ad [i, 5]), .ref (ad [i, 6]), .ref (ad [i, 7]), .ref (ad [i, 8]), .ref (ad [i, 9]), .ref (ad [i, 10]), .ref (ad [i, 11]), .int ro]))) rfl ?_
  refine V_wd (w' := QW i ad σ (nI 0) ro lo ma ap o) QW_th ?_
  refine V_aload_n C dX7_moveSurface_5 0 rfl ?_
  refine V_iload_n C dX7_moveSurface_6 1 rfl ?_
  refine V_iload_n C dX7_moveSurface_7 2 rfl ?_
  refine V_callV (r := (RX7, TX7, 17)) C [.int (nI j), .int (nI k)] dX7_moveSurface_8 m_X7_isSurface k_X7_isSurface tw_751 rfl rfl rfl QW_o rfl rfl (Nat.le_of_ble_eq_true rfl) ⟨by omega, by omega, by omega, by omega⟩ (m_isSurf hl (by omega) hσ hj hk) (kr_some (x := .int (nI 1)) ?_) kx_no
  refine V_ifn_ne (tgt := 20) C dX7_moveSurface_11 (by decide) (by decide) (fun hb1 => ?_) (fun hb1 => by exfalso; omega)
  refine V_iload_n C dX7_moveSurface_20 3 rfl ?_
  refine V_iconst (v := nI 1) C dX7_moveSurface_21 (by decide) ?_
  refine V_bipush (v := nI 60) C dX7_moveSurface_22 (by decide) ?_
  have hin24 := inR_le y (nI 1) (nI 60)
  refine V_callS C [.int y, .int (nI 1), .int (nI 60)] dX7_moveSurface_24 m_X7_isIn k_X7_isIn tw_728 rfl rfl (Nat.le_of_ble_eq_true rfl) ⟨by omega, by omega, by omega, by omega⟩ (m_isIn hl (by omega) y (nI 1) (nI 60)) (kr_some (x := .int (nI (inR y (nI 1) (nI 60)))) ?_) kx_no
  rw [show inR y (nI 1) (nI 60) = 0 from hin]
  refine V_ifn_ne (tgt := 36) C dX7_moveSurface_27 (by decide) (by decide) (fun hb2 => by exfalso; omega) (fun hb2 => ?_)
  refine V_aload_n C dX7_moveSurface_30 0 rfl ?_
  refine V_iconst (v := nI 2) C dX7_moveSurface_31 (by decide) ?_
  refine V_callV (r := (RX7, TX7, 17)) C [.int (nI 2)] dX7_moveSurface_32 m_X7_fail k_X7_fail tw_731 rfl rfl rfl QW_o rfl rfl (Nat.le_of_ble_eq_true rfl) ⟨by omega, by omega, by omega, by omega⟩ (m_fail hl (by omega) (nI 2)) (kr_some (x := .int (nI 0)) ?_) kx_no
  exact V_iret C .int dX7_moveSurface_35 hr rfl ⟨rfl, rfl, _, _, _, _, rfl⟩ (by omega) (by omega)
