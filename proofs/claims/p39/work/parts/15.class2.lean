
abbrev RP (i : Nat) (ad : Adr) (σ : CS) (o : Wd) (v : Option Value) : Option Value → Adr → Wd → Prop := fun v' ad' w' => v' = v ∧ ad' = ad ∧ ∃ tl t lo, w' = PW i ad σ tl t lo o
abbrev XP (i : Nat) (ad : Adr) (σ : CS) (o : Wd) (E : String) : String → Adr → Wd → Prop := fun E' ad' w' => E' = E ∧ ad' = ad ∧ ∃ tl t lo, w' = PW i ad σ tl t lo o
abbrev eIO : String := "java/lang/IndexOutOfBoundsException"
abbrev eIA : String := "java/lang/IllegalArgumentException"
abbrev eIS : String := "java/lang/IllegalStateException"
abbrev t00 : TT := (nI 0, nI 0, -1, -1)
def tly (h : HallS) (x : Int32) (click : Nat) : TT := upF (rowsT x (hDm h) (hDu h) click (hSu h)) (hSc h) t00
def lds (lo : Nat → Int32) (h : HallS) (click : Nat) : Nat → Int32 := upF (rowsL (hDm h) (hDu h) click (hSu h)) (hSc h) (fillF (nI 0) lo 501)
set_option maxHeartbeats 4000000 in
theorem p_surfacesOf {l : Launch} {D : va_G} {ba d : Nat} {ad : Adr} (hl : l.stackTraces = false) (hd : 8 ≤ d) {i : Nat} {σ : CS} {tl : Int32} {t : TT} {lo : Nat → Int32} {o : Wd} (hσ : cOK σ) {j : Nat} (hj : j < cN σ)  : CT l yX6_surfacesOf (wsO yX6_surfacesOf cX6_surfacesOf 2 (some .int)) d 8 64 D ba [.ref (ad [i]), .int (nI j)] ad (PW i ad σ tl t lo o) (RP i ad σ o (some (.int (nI (hSc (cH σ j)))))) noX := by
  refine CT_of RX6 rfl (by decide +kernel) hl (Nat.le_of_ble_eq_true rfl) ?_
  intro p e s m args below meth c C hr hnm
  refine V_lvE (lv' := [(0, .ref (ad [i])), (1, .int (nI j))]) rfl ?_
  have hσ1 := hσ.1
  have hσ2 := hσ.2.1
  refine V_aload_n C dX6_surfacesOf_0 0 rfl ?_
  refine V_iload_n C dX6_surfacesOf_1 1 rfl ?_
  refine V_callV (r := (RX6, TX6, 8)) C [.int (nI j)] dX6_surfacesOf_2 m_X6_findHall k_X6_findHall tw_225 rfl rfl rfl PW_b rfl rfl (Nat.le_of_ble_eq_true rfl) ⟨by omega, by omega, by omega, by omega⟩ (c_findHall hl (by omega) hσ hj) (kr_some (x := .ref (ad [i, 6, j])) ?_) kx_no
  refine V_getN (ci := 0) (k := 1) C dX6_surfacesOf_5 RX0 RX0 RX6 TX0 6 fw_X0 rfl (by decide) tw_199 rfl rfl (PW_h hj) rfl ?_
  exact V_iret C .int dX6_surfacesOf_8 hr rfl ⟨rfl, rfl, _, _, _, rfl⟩ (by omega) (by omega)
set_option maxHeartbeats 4000000 in
theorem p_dampingOf {l : Launch} {D : va_G} {ba d : Nat} {ad : Adr} (hl : l.stackTraces = false) (hd : 8 ≤ d) {i : Nat} {σ : CS} {tl : Int32} {t : TT} {lo : Nat → Int32} {o : Wd} (hσ : cOK σ) {j : Nat} (hj : j < cN σ)  : CT l yX6_dampingOf (wsO yX6_dampingOf cX6_dampingOf 2 (some .int)) d 8 64 D ba [.ref (ad [i]), .int (nI j)] ad (PW i ad σ tl t lo o) (RP i ad σ o (some (.int (nI (hDm (cH σ j)))))) noX := by
  refine CT_of RX6 rfl (by decide +kernel) hl (Nat.le_of_ble_eq_true rfl) ?_
  intro p e s m args below meth c C hr hnm
  refine V_lvE (lv' := [(0, .ref (ad [i])), (1, .int (nI j))]) rfl ?_
  have hσ1 := hσ.1
  have hσ2 := hσ.2.1
  refine V_aload_n C dX6_dampingOf_0 0 rfl ?_
  refine V_iload_n C dX6_dampingOf_1 1 rfl ?_
  refine V_callV (r := (RX6, TX6, 8)) C [.int (nI j)] dX6_dampingOf_2 m_X6_findHall k_X6_findHall tw_225 rfl rfl rfl PW_b rfl rfl (Nat.le_of_ble_eq_true rfl) ⟨by omega, by omega, by omega, by omega⟩ (c_findHall hl (by omega) hσ hj) (kr_some (x := .ref (ad [i, 6, j])) ?_) kx_no
  refine V_getN (ci := 0) (k := 2) C dX6_dampingOf_5 RX0 RX0 RX6 TX0 6 fw_X0 rfl (by decide) tw_201 rfl rfl (PW_h hj) rfl ?_
  exact V_iret C .int dX6_dampingOf_8 hr rfl ⟨rfl, rfl, _, _, _, rfl⟩ (by omega) (by omega)
set_option maxHeartbeats 4000000 in
theorem p_dustOf {l : Launch} {D : va_G} {ba d : Nat} {ad : Adr} (hl : l.stackTraces = false) (hd : 8 ≤ d) {i : Nat} {σ : CS} {tl : Int32} {t : TT} {lo : Nat → Int32} {o : Wd} (hσ : cOK σ) {j : Nat} (hj : j < cN σ)  : CT l yX6_dustOf (wsO yX6_dustOf cX6_dustOf 2 (some .int)) d 8 64 D ba [.ref (ad [i]), .int (nI j)] ad (PW i ad σ tl t lo o) (RP i ad σ o (some (.int (nI (hDu (cH σ j)))))) noX := by
  refine CT_of RX6 rfl (by decide +kernel) hl (Nat.le_of_ble_eq_true rfl) ?_
  intro p e s m args below meth c C hr hnm
  refine V_lvE (lv' := [(0, .ref (ad [i])), (1, .int (nI j))]) rfl ?_
  have hσ1 := hσ.1
  have hσ2 := hσ.2.1
  refine V_aload_n C dX6_dustOf_0 0 rfl ?_
  refine V_iload_n C dX6_dustOf_1 1 rfl ?_
  refine V_callV (r := (RX6, TX6, 8)) C [.int (nI j)] dX6_dustOf_2 m_X6_findHall k_X6_findHall tw_225 rfl rfl rfl PW_b rfl rfl (Nat.le_of_ble_eq_true rfl) ⟨by omega, by omega, by omega, by omega⟩ (c_findHall hl (by omega) hσ hj) (kr_some (x := .ref (ad [i, 6, j])) ?_) kx_no
  refine V_getN (ci := 0) (k := 3) C dX6_dustOf_5 RX0 RX0 RX6 TX0 6 fw_X0 rfl (by decide) tw_202 rfl rfl (PW_h hj) rfl ?_
  exact V_iret C .int dX6_dustOf_8 hr rfl ⟨rfl, rfl, _, _, _, rfl⟩ (by omega) (by omega)
set_option maxHeartbeats 4000000 in
theorem p_daysLeft {l : Launch} {D : va_G} {ba d : Nat} {ad : Adr} (hl : l.stackTraces = false) (hd : 8 ≤ d) {i : Nat} {σ : CS} {tl : Int32} {t : TT} {lo : Nat → Int32} {o : Wd} (hσ : cOK σ) {j : Nat} (hj : j < cN σ)  : CT l yX6_daysLeft (wsO yX6_daysLeft cX6_daysLeft 2 (some .int)) d 8 64 D ba [.ref (ad [i]), .int (nI j)] ad (PW i ad σ tl t lo o) (RP i ad σ o (some (.int (nI (hDy (cH σ j)))))) noX := by
  refine CT_of RX6 rfl (by decide +kernel) hl (Nat.le_of_ble_eq_true rfl) ?_
  intro p e s m args below meth c C hr hnm
  refine V_lvE (lv' := [(0, .ref (ad [i])), (1, .int (nI j))]) rfl ?_
  have hσ1 := hσ.1
  have hσ2 := hσ.2.1
  refine V_aload_n C dX6_daysLeft_0 0 rfl ?_
  refine V_iload_n C dX6_daysLeft_1 1 rfl ?_
  refine V_callV (r := (RX6, TX6, 8)) C [.int (nI j)] dX6_daysLeft_2 m_X6_findHall k_X6_findHall tw_225 rfl rfl rfl PW_b rfl rfl (Nat.le_of_ble_eq_true rfl) ⟨by omega, by omega, by omega, by omega⟩ (c_findHall hl (by omega) hσ hj) (kr_some (x := .ref (ad [i, 6, j])) ?_) kx_no
  refine V_getN (ci := 0) (k := 5) C dX6_daysLeft_5 RX0 RX0 RX6 TX0 6 fw_X0 rfl (by decide) tw_207 rfl rfl (PW_h hj) rfl ?_
  exact V_iret C .int dX6_daysLeft_8 hr rfl ⟨rfl, rfl, _, _, _, rfl⟩ (by omega) (by omega)
set_option maxHeartbeats 4000000 in
theorem p_isCertified {l : Launch} {D : va_G} {ba d : Nat} {ad : Adr} (hl : l.stackTraces = false) (hd : 8 ≤ d) {i : Nat} {σ : CS} {tl : Int32} {t : TT} {lo : Nat → Int32} {o : Wd} (hσ : cOK σ) {j : Nat} (hj : j < cN σ)  : CT l yX6_isCertified (wsO yX6_isCertified cX6_isCertified 2 (some .boolean)) d 8 64 D ba [.ref (ad [i]), .int (nI j)] ad (PW i ad σ tl t lo o) (RP i ad σ o (some (.int (nI (if hCe (cH σ j) = -1 then 0 else 1))))) noX := by
  refine CT_of RX6 rfl (by decide +kernel) hl (Nat.le_of_ble_eq_true rfl) ?_
  intro p e s m args below meth c C hr hnm
  refine V_lvE (lv' := [(0, .ref (ad [i])), (1, .int (nI j))]) rfl ?_
  have hσ1 := hσ.1
  have hσ2 := hσ.2.1
  refine V_aload_n C dX6_isCertified_0 0 rfl ?_
  refine V_iload_n C dX6_isCertified_1 1 rfl ?_
  refine V_callV (r := (RX6, TX6, 8)) C [.int (nI j)] dX6_isCertified_2 m_X6_findHall k_X6_findHall tw_225 rfl rfl rfl PW_b rfl rfl (Nat.le_of_ble_eq_true rfl) ⟨by omega, by omega, by omega, by omega⟩ (c_findHall hl (by omega) hσ hj) (kr_some (x := .ref (ad [i, 6, j])) ?_) kx_no
  refine V_callVN (r := (RX0, TX0, 6)) C RX6 [] dX6_isCertified_5 m_X0_hasCertificate k_X0_hasCertificate tw_418 rfl rfl rfl (PW_h hj) rfl rfl (Nat.le_of_ble_eq_true rfl) ⟨by omega, by omega, by omega, by omega⟩ (c_hasCert hl (by omega) (PW_h hj)) (kr_some (x := .int (nI (if hCe (cH σ j) = -1 then 0 else 1))) ?_) kx_no
  exact V_iret C .boolean dX6_isCertified_8 hr (by split <;> rfl) ⟨rfl, rfl, _, _, _, rfl⟩ (by omega) (by omega)
set_option maxHeartbeats 4000000 in
theorem p_certifiedBy {l : Launch} {D : va_G} {ba d : Nat} {ad : Adr} (hl : l.stackTraces = false) (hd : 9 ≤ d) {i : Nat} {σ : CS} {tl : Int32} {t : TT} {lo : Nat → Int32} {o : Wd} (hσ : cOK σ) {j : Nat} (hj : j < cN σ) (hc : ¬ hCe (cH σ j) = -1) : CT l yX6_certifiedBy (wsO yX6_certifiedBy cX6_certifiedBy 3 (some .int)) d 8 64 D ba [.ref (ad [i]), .int (nI j)] ad (PW i ad σ tl t lo o) (RP i ad σ o (some (.int (hCe (cH σ j))))) noX := by
  refine CT_of RX6 rfl (by decide +kernel) hl (Nat.le_of_ble_eq_true rfl) ?_
  intro p e s m args below meth c C hr hnm
  refine V_lvE (lv' := [(0, .ref (ad [i])), (1, .int (nI j))]) rfl ?_
  have hσ1 := hσ.1
  have hσ2 := hσ.2.1
  refine V_aload_n C dX6_certifiedBy_0 0 rfl ?_
  refine V_iload_n C dX6_certifiedBy_1 1 rfl ?_
  refine V_callV (r := (RX6, TX6, 8)) C [.int (nI j)] dX6_certifiedBy_2 m_X6_findHall k_X6_findHall tw_225 rfl rfl rfl PW_b rfl rfl (Nat.le_of_ble_eq_true rfl) ⟨by omega, by omega, by omega, by omega⟩ (c_findHall hl (by omega) hσ hj) (kr_some (x := .ref (ad [i, 6, j])) ?_) kx_no
  refine V_astore_n C [(2, .ref (ad [i, 6, j])), (0, .ref (ad [i])), (1, .int (nI j))] dX6_certifiedBy_5 (by decide) rfl ?_
  refine V_aload_n C dX6_certifiedBy_6 0 rfl ?_
  refine V_callS C [.ref (ad [i, 6, j])] dX6_certifiedBy_7 m_X6_checkCertificate k_X6_checkCertificate tw_477 rfl rfl (Nat.le_of_ble_eq_true rfl) ⟨by omega, by omega, by omega, by omega⟩ (c_ckCert_ok hl (by omega) (PW_h hj) hc) (kr_none ?_) kx_no
  refine V_aload_n C dX6_certifiedBy_10 0 rfl ?_
  refine V_getN (ci := 0) (k := 4) C dX6_certifiedBy_11 RX0 RX0 RX6 TX0 6 fw_X0 rfl (by decide) tw_205 rfl rfl (PW_h hj) rfl ?_
  exact V_iret C .int dX6_certifiedBy_14 hr rfl ⟨rfl, rfl, _, _, _, rfl⟩ (by omega) (by omega)
set_option maxHeartbeats 4000000 in
theorem p_distanceOf {l : Launch} {D : va_G} {ba d : Nat} {ad : Adr} (hl : l.stackTraces = false) (hd : 8 ≤ d) {i : Nat} {σ : CS} {tl : Int32} {t : TT} {lo : Nat → Int32} {o : Wd} (hσ : cOK σ) {j : Nat} (hj : j < cN σ) {k : Nat} (hk : k < hSc (cH σ j))  : CT l yX6_distanceOf (wsO yX6_distanceOf cX6_distanceOf 3 (some .int)) d 8 64 D ba [.ref (ad [i]), .int (nI j), .int (nI k)] ad (PW i ad σ tl t lo o) (RP i ad σ o (some (.int (nI ((hSu (cH σ j) k).2))))) noX := by
  refine CT_of RX6 rfl (by decide +kernel) hl (Nat.le_of_ble_eq_true rfl) ?_
  intro p e s m args below meth c C hr hnm
  refine V_lvE (lv' := [(0, .ref (ad [i])), (1, .int (nI j)), (2, .int (nI k))]) rfl ?_
  have hσ1 := hσ.1
  have hσ2 := hσ.2.1
  refine V_aload_n C dX6_distanceOf_0 0 rfl ?_
  refine V_iload_n C dX6_distanceOf_1 1 rfl ?_
  refine V_callV (r := (RX6, TX6, 8)) C [.int (nI j)] dX6_distanceOf_2 m_X6_findHall k_X6_findHall tw_225 rfl rfl rfl PW_b rfl rfl (Nat.le_of_ble_eq_true rfl) ⟨by omega, by omega, by omega, by omega⟩ (c_findHall hl (by omega) hσ hj) (kr_some (x := .ref (ad [i, 6, j])) ?_) kx_no
  refine V_iload_n C dX6_distanceOf_5 2 rfl ?_
  refine V_callS C [.ref (ad [i, 6, j]), .int (nI k)] dX6_distanceOf_6 m_X6_findSurface k_X6_findSurface tw_286 rfl rfl (Nat.le_of_ble_eq_true rfl) ⟨by omega, by omega, by omega, by omega⟩ (c_findSurf hl (by omega) hσ hj hk) (kr_some (x := .ref (ad [i, 8, j, k])) ?_) kx_no
  refine V_getN (ci := 3) (k := 1) C dX6_distanceOf_9 RX4 RX4 RX6 TX4 2 fw_X4 rfl (by decide) tw_268 rfl rfl (PW_u hj hk) rfl ?_
  exact V_iret C .int dX6_distanceOf_12 hr rfl ⟨rfl, rfl, _, _, _, rfl⟩ (by omega) (by omega)
set_option maxHeartbeats 4000000 in
theorem p_hardnessOf {l : Launch} {D : va_G} {ba d : Nat} {ad : Adr} (hl : l.stackTraces = false) (hd : 8 ≤ d) {i : Nat} {σ : CS} {tl : Int32} {t : TT} {lo : Nat → Int32} {o : Wd} (hσ : cOK σ) {j : Nat} (hj : j < cN σ) {k : Nat} (hk : k < hSc (cH σ j))  : CT l yX6_hardnessOf (wsO yX6_hardnessOf cX6_hardnessOf 4 (some .int)) d 8 64 D ba [.ref (ad [i]), .int (nI j), .int (nI k)] ad (PW i ad σ tl t lo o) (RP i ad σ o (some (.int (nI ((hSu (cH σ j) k).1 - hDu (cH σ j) / 5))))) noX := by
  refine CT_of RX6 rfl (by decide +kernel) hl (Nat.le_of_ble_eq_true rfl) ?_
  intro p e s m args below meth c C hr hnm
  refine V_lvE (lv' := [(0, .ref (ad [i])), (1, .int (nI j)), (2, .int (nI k))]) rfl ?_
  have hσ1 := hσ.1
  have hσ2 := hσ.2.1
  have hu := hσ.2.2.1 j hj
  have hu1 := hu.1
  have hu2 := hu.2.1
  have hu3 := hu.2.2.1
  have hu4 := hu.2.2.2.1
  refine V_aload_n C dX6_hardnessOf_0 0 rfl ?_
  refine V_iload_n C dX6_hardnessOf_1 1 rfl ?_
  refine V_callV (r := (RX6, TX6, 8)) C [.int (nI j)] dX6_hardnessOf_2 m_X6_findHall k_X6_findHall tw_225 rfl rfl rfl PW_b rfl rfl (Nat.le_of_ble_eq_true rfl) ⟨by omega, by omega, by omega, by omega⟩ (c_findHall hl (by omega) hσ hj) (kr_some (x := .ref (ad [i, 6, j])) ?_) kx_no
  refine V_astore_n C [(3, .ref (ad [i, 6, j])), (0, .ref (ad [i])), (1, .int (nI j)), (2, .int (nI k))] dX6_hardnessOf_5 (by decide) rfl ?_
  refine V_aload_n C dX6_hardnessOf_6 0 rfl ?_
  refine V_iload_n C dX6_hardnessOf_7 3 rfl ?_
  refine V_callS C [.ref (ad [i, 6, j]), .int (nI k)] dX6_hardnessOf_8 m_X6_findSurface k_X6_findSurface tw_286 rfl rfl (Nat.le_of_ble_eq_true rfl) ⟨by omega, by omega, by omega, by omega⟩ (c_findSurf hl (by omega) hσ hj hk) (kr_some (x := .ref (ad [i, 8, j, k])) ?_) kx_no
  refine V_aload_n C dX6_hardnessOf_11 0 rfl ?_
  refine V_getN (ci := 0) (k := 3) C dX6_hardnessOf_12 RX0 RX0 RX6 TX0 6 fw_X0 rfl (by decide) tw_202 rfl rfl (PW_h hj) rfl ?_
  refine V_callVN (r := (RX4, TX4, 2)) C RX6 [.int (nI (hDu (cH σ j)))] dX6_hardnessOf_15 m_X4_hardnessUnder k_X4_hardnessUnder tw_295 rfl rfl rfl (PW_u hj hk) rfl rfl (Nat.le_of_ble_eq_true rfl) ⟨by omega, by omega, by omega, by omega⟩ (c_hardUnder hl (by omega) (PW_u hj hk) (hDu (cH σ j)) (hu.2.2.2.2 k hk).1 hu3) (kr_some (x := .int (nI ((hSu (cH σ j) k).1 - hDu (cH σ j) / 5))) ?_) kx_no
  exact V_iret C .int dX6_hardnessOf_18 hr rfl ⟨rfl, rfl, _, _, _, rfl⟩ (by omega) (by omega)
set_option maxHeartbeats 4000000 in
theorem p_halls {l : Launch} {D : va_G} {ba d : Nat} {ad : Adr} (hl : l.stackTraces = false) (hd : 8 ≤ d) {i : Nat} {σ : CS} {tl : Int32} {t : TT} {lo : Nat → Int32} {o : Wd} (hσ : cOK σ)  : CT l yX6_halls (wsO yX6_halls cX6_halls 1 (some .int)) d 8 64 D ba [.ref (ad [i])] ad (PW i ad σ tl t lo o) (RP i ad σ o (some (.int (nI (cN σ))))) noX := by
  refine CT_of RX6 rfl (by decide +kernel) hl (Nat.le_of_ble_eq_true rfl) ?_
  intro p e s m args below meth c C hr hnm
  refine V_lvE (lv' := [(0, .ref (ad [i]))]) rfl ?_
  have hσ1 := hσ.1
  have hσ2 := hσ.2.1
  refine V_aload_n C dX6_halls_0 0 rfl ?_
  refine V_get (ci := 5) (k := 2) C dX6_halls_1 RX6 RX6 TX6 8 fw_X6 rfl (by decide) tw_72 rfl rfl PW_b rfl ?_
  exact V_iret C .int dX6_halls_4 hr rfl ⟨rfl, rfl, _, _, _, rfl⟩ (by omega) (by omega)
set_option maxHeartbeats 4000000 in
theorem p_standards {l : Launch} {D : va_G} {ba d : Nat} {ad : Adr} (hl : l.stackTraces = false) (hd : 8 ≤ d) {i : Nat} {σ : CS} {tl : Int32} {t : TT} {lo : Nat → Int32} {o : Wd} (hσ : cOK σ)  : CT l yX6_standards (wsO yX6_standards cX6_standards 1 (some .int)) d 8 64 D ba [.ref (ad [i])] ad (PW i ad σ tl t lo o) (RP i ad σ o (some (.int (nI (cK σ))))) noX := by
  refine CT_of RX6 rfl (by decide +kernel) hl (Nat.le_of_ble_eq_true rfl) ?_
  intro p e s m args below meth c C hr hnm
  refine V_lvE (lv' := [(0, .ref (ad [i]))]) rfl ?_
  have hσ1 := hσ.1
  have hσ2 := hσ.2.1
  refine V_aload_n C dX6_standards_0 0 rfl ?_
  refine V_get (ci := 5) (k := 3) C dX6_standards_1 RX6 RX6 TX6 8 fw_X6 rfl (by decide) tw_73 rfl rfl PW_b rfl ?_
  exact V_iret C .int dX6_standards_4 hr rfl ⟨rfl, rfl, _, _, _, rfl⟩ (by omega) (by omega)
set_option maxHeartbeats 4000000 in
theorem p_day {l : Launch} {D : va_G} {ba d : Nat} {ad : Adr} (hl : l.stackTraces = false) (hd : 8 ≤ d) {i : Nat} {σ : CS} {tl : Int32} {t : TT} {lo : Nat → Int32} {o : Wd} (hσ : cOK σ)  : CT l yX6_day (wsO yX6_day cX6_day 1 (some .int)) d 8 64 D ba [.ref (ad [i])] ad (PW i ad σ tl t lo o) (RP i ad σ o (some (.int (cDay σ)))) noX := by
  refine CT_of RX6 rfl (by decide +kernel) hl (Nat.le_of_ble_eq_true rfl) ?_
  intro p e s m args below meth c C hr hnm
  refine V_lvE (lv' := [(0, .ref (ad [i]))]) rfl ?_
  have hσ1 := hσ.1
  have hσ2 := hσ.2.1
  refine V_aload_n C dX6_day_0 0 rfl ?_
  refine V_get (ci := 5) (k := 4) C dX6_day_1 RX6 RX6 TX6 8 fw_X6 rfl (by decide) tw_74 rfl rfl PW_b rfl ?_
  exact V_iret C .int dX6_day_4 hr rfl ⟨rfl, rfl, _, _, _, rfl⟩ (by omega) (by omega)
set_option maxHeartbeats 4000000 in
theorem p_inspections {l : Launch} {D : va_G} {ba d : Nat} {ad : Adr} (hl : l.stackTraces = false) (hd : 8 ≤ d) {i : Nat} {σ : CS} {tl : Int32} {t : TT} {lo : Nat → Int32} {o : Wd} (hσ : cOK σ)  : CT l yX6_inspections (wsO yX6_inspections cX6_inspections 1 (some .int)) d 8 64 D ba [.ref (ad [i])] ad (PW i ad σ tl t lo o) (RP i ad σ o (some (.int (cIns σ)))) noX := by
  refine CT_of RX6 rfl (by decide +kernel) hl (Nat.le_of_ble_eq_true rfl) ?_
  intro p e s m args below meth c C hr hnm
  refine V_lvE (lv' := [(0, .ref (ad [i]))]) rfl ?_
  have hσ1 := hσ.1
  have hσ2 := hσ.2.1
  refine V_aload_n C dX6_inspections_0 0 rfl ?_
  refine V_get (ci := 5) (k := 5) C dX6_inspections_1 RX6 RX6 TX6 8 fw_X6 rfl (by decide) tw_75 rfl rfl PW_b rfl ?_
  exact V_iret C .int dX6_inspections_4 hr rfl ⟨rfl, rfl, _, _, _, rfl⟩ (by omega) (by omega)
def certN (H : Nat → HallS) : Nat → Nat → Nat := fun j x => if hCe (H j) = -1 then x else x + 1
def certs (H : Nat → HallS) (m : Nat) : Nat := upF (certN H) m 0
theorem certs_le (H : Nat → HallS) : ∀ m, certs H m ≤ m
  | 0 => Nat.le_refl 0
  | m + 1 => by
    have := certs_le H m
    show certN H m (certs H m) ≤ m + 1
    unfold certN
    split <;> omega
set_option maxHeartbeats 4000000 in
theorem lp_count {p : Program} {l : Launch} {e : Env} {s : State} {m : MethodId} {args : Array Value} {below : List Frame} {meth : Method} {c : Code} {D : va_G} {ba d mc ms : Nat} {ad : Adr} {QR : Option Value → Adr → Wd → Prop} {QX : String → Adr → Wd → Prop} (C : Cx p l s m args meth c D ba RX6 cX6_countCertified 6 [] d) (hl : l.stackTraces = false) (hr : meth.sig.returnType = (some .int)) (hd : 2 ≤ d) {i : Nat} {σ : CS} {tl : Int32} {t : TT} {lo : Nat → Int32} {o : Wd} (hσ : cOK σ) (hq : QR (some (.int (nI (certs (cH σ) (cN σ))))) ad (PW i ad σ tl t lo o)) : ∀ (n : Nat) (k : Nat), k + n = 8 → V p l e s m args below meth c D ba d mc ms (MO D ba QR QX below args s mc ms) 6 ad (PW i ad σ tl t lo o) 13 [(4, .int (nI k)), (3, .int (nI 8)), (2, .ref (ad [i, 1])), (1, .int (nI (upF (certN (cH σ)) (min k (cN σ)) 0))), (0, .ref (ad [i]))] [] 0 0 := by
  intro n
  induction n with
  | zero =>
    intro k hk
    have hσ1 := hσ.1
    refine V_iload C dX6_countCertified_13 0 rfl ?_
    refine V_iload_n C dX6_countCertified_15 1 rfl ?_
    refine V_icmpn_ge (tgt := 47) C dX6_countCertified_16 (by decide) (by omega) (by decide) (fun hb1 => ?_) (fun hb1 => by exfalso; omega)
    refine V_iload_n C dX6_countCertified_47 3 rfl ?_
    exact V_iret C .int dX6_countCertified_48 hr rfl (by rw [upF_x (by omega)]; exact hq) (by omega) (by omega)
  | succ n ih =>
    intro k hk
    have hσ1 := hσ.1
    refine V_iload C dX6_countCertified_13 0 rfl ?_
    refine V_iload_n C dX6_countCertified_15 1 rfl ?_
    refine V_icmpn_ge (tgt := 47) C dX6_countCertified_16 (by decide) (by omega) (by decide) (fun hb1 => by exfalso; omega) (fun hb1 => ?_)
    refine V_aload_n C dX6_countCertified_19 2 rfl ?_
    refine V_iload C dX6_countCertified_20 0 rfl ?_
    rcases Nat.lt_or_ge k (cN σ) with hks | hks
    · skip
      refine V_aaldn (v := .ref (ad [i, 6, k])) C dX6_countCertified_22 rfl PW_hr (by omega) (by decide) (by rw [adN_lt hks]; rfl) ?_
      refine V_astore C [(5, .ref (ad [i, 6, k])), (4, .int (nI k)), (3, .int (nI 8)), (2, .ref (ad [i, 1])), (1, .int (nI (upF (certN (cH σ)) (min k (cN σ)) 0))), (0, .ref (ad [i]))] dX6_countCertified_23 (by decide) rfl ?_
      refine V_aload C dX6_countCertified_25 0 rfl ?_
      refine V_ifnull C dX6_countCertified_27 ?_
      refine V_aload C dX6_countCertified_30 0 rfl ?_
      refine V_callVN (r := (RX0, TX0, 6)) C RX6 [] dX6_countCertified_32 m_X0_hasCertificate k_X0_hasCertificate tw_418 rfl rfl rfl (PW_h hks) rfl rfl (Nat.le_of_ble_eq_true rfl) ⟨by omega, by omega, by omega, by omega⟩ (c_hasCert hl (by omega) (PW_h hks)) (kr_some (x := .int (nI (if hCe (cH σ k) = -1 then 0 else 1))) ?_) kx_no
      have hle9 : (if hCe (cH σ k) = -1 then 0 else 1) ≤ 1 := by split <;> omega
      refine V_ifn_eq (tgt := 41) C dX6_countCertified_35 (by decide) (by omega) (fun hb2 => ?_) (fun hb2 => ?_)
      · skip
        have hcc : hCe (cH σ k) = -1 := by apply Decidable.byContradiction; intro z; rw [if_neg z] at hb2; omega
        refine V_iincn C [(4, .int (nI (k + 1))), (5, .ref (ad [i, 6, k])), (3, .int (nI 8)), (2, .ref (ad [i, 1])), (1, .int (nI (upF (certN (cH σ)) (min k (cN σ)) 0))), (0, .ref (ad [i]))] dX6_countCertified_41 1 rfl (by decide) rfl ?_
        refine V_goto (tgt := 13) C dX6_countCertified_44 (by decide) ?_
        rw [show upF (certN (cH σ)) (min k (cN σ)) 0 = upF (certN (cH σ)) (min (k + 1) (cN σ)) 0 from by rw [upF_s hks]; show _ = certN _ _ _; unfold certN; rw [if_pos hcc]]
        refine V_lv [0, 2, 3, 4, 5] rfl ?_
        exact ih (k + 1) (by omega)
      · skip
        have hcc : ¬ hCe (cH σ k) = -1 := by intro z; rw [if_pos z] at hb2; omega
        refine V_iincn C [(1, .int (nI (upF (certN (cH σ)) (min k (cN σ)) 0 + 1))), (5, .ref (ad [i, 6, k])), (4, .int (nI k)), (3, .int (nI 8)), (2, .ref (ad [i, 1])), (0, .ref (ad [i]))] dX6_countCertified_38 4 rfl (by decide) rfl ?_
        refine V_iincn C [(4, .int (nI (k + 1))), (1, .int (nI (upF (certN (cH σ)) (min k (cN σ)) 0 + 1))), (5, .ref (ad [i, 6, k])), (3, .int (nI 8)), (2, .ref (ad [i, 1])), (0, .ref (ad [i]))] dX6_countCertified_41 2 rfl (by decide) rfl ?_
        refine V_goto (tgt := 13) C dX6_countCertified_44 (by decide) ?_
        rw [show upF (certN (cH σ)) (min k (cN σ)) 0 + 1 = upF (certN (cH σ)) (min (k + 1) (cN σ)) 0 from by rw [upF_s hks]; show _ = certN _ _ _; unfold certN; rw [if_neg hcc]]
        refine V_lv [0, 3, 4, 1, 5] rfl ?_
        exact ih (k + 1) (by omega)
    · skip
      refine V_aaldn (v := .null) C dX6_countCertified_22 rfl PW_hr (by omega) (by decide) (by rw [adN_ge (Nat.not_lt.mpr hks)]; rfl) ?_
      refine V_astoreN C [(5, .null), (4, .int (nI k)), (3, .int (nI 8)), (2, .ref (ad [i, 1])), (1, .int (nI (upF (certN (cH σ)) (min k (cN σ)) 0))), (0, .ref (ad [i]))] dX6_countCertified_23 (by decide) rfl ?_
      refine V_aloadN C dX6_countCertified_25 0 rfl ?_
      refine V_ifnullN (tgt := 41) C dX6_countCertified_27 (by decide) ?_
      refine V_iincn C [(4, .int (nI (k + 1))), (5, .null), (3, .int (nI 8)), (2, .ref (ad [i, 1])), (1, .int (nI (upF (certN (cH σ)) (min k (cN σ)) 0))), (0, .ref (ad [i]))] dX6_countCertified_41 1 rfl (by decide) rfl ?_
      refine V_goto (tgt := 13) C dX6_countCertified_44 (by decide) ?_
      rw [show upF (certN (cH σ)) (min k (cN σ)) 0 = upF (certN (cH σ)) (min (k + 1) (cN σ)) 0 from by rw [upF_e hks]]
      refine V_lv [0, 2, 3, 4, 5] rfl ?_
      exact ih (k + 1) (by omega)
set_option maxHeartbeats 4000000 in
theorem c_count {l : Launch} {D : va_G} {ba d : Nat} {ad : Adr} (hl : l.stackTraces = false) (hd : 2 ≤ d) {i : Nat} {σ : CS} {tl : Int32} {t : TT} {lo : Nat → Int32} {o : Wd} (hσ : cOK σ)  : CT l yX6_countCertified (wsO yX6_countCertified cX6_countCertified 6 (some .int)) d 0 0 D ba [.ref (ad [i])] ad (PW i ad σ tl t lo o) (isR (some (.int (nI (certs (cH σ) (cN σ))))) ad (PW i ad σ tl t lo o)) noX := by
  refine CT_of RX6 rfl (by decide +kernel) hl (Nat.le_of_ble_eq_true rfl) ?_
  intro p e s m args below meth c C hr hnm
  refine V_lvE (lv' := [(0, .ref (ad [i]))]) rfl ?_
  have hσ1 := hσ.1
  have hσ2 := hσ.2.1
  refine V_iconst (v := nI 0) C dX6_countCertified_0 (by decide) ?_
  refine V_istore_n C [(1, .int (nI 0)), (0, .ref (ad [i]))] dX6_countCertified_1 (by decide) rfl ?_
  refine V_aload_n C dX6_countCertified_2 1 rfl ?_
  refine V_get (ci := 5) (k := 0) C dX6_countCertified_3 RX6 RX6 TX6 8 fw_X6 rfl (by decide) tw_70 rfl rfl PW_b rfl ?_
  refine V_astore_n C [(2, .ref (ad [i, 1])), (1, .int (nI 0)), (0, .ref (ad [i]))] dX6_countCertified_6 (by decide) rfl ?_
  refine V_aload_n C dX6_countCertified_7 0 rfl ?_
  refine V_alen (v := nI 8) C dX6_countCertified_8 rfl PW_hr rfl ?_
  refine V_istore_n C [(3, .int (nI 8)), (2, .ref (ad [i, 1])), (1, .int (nI 0)), (0, .ref (ad [i]))] dX6_countCertified_9 (by decide) rfl ?_
  refine V_iconst (v := nI 0) C dX6_countCertified_10 (by decide) ?_
  refine V_istore C [(4, .int (nI 0)), (3, .int (nI 8)), (2, .ref (ad [i, 1])), (1, .int (nI 0)), (0, .ref (ad [i]))] dX6_countCertified_11 (by decide) rfl ?_
  refine V_lv [0, 1, 2, 3, 4] rfl ?_
  have K := lp_count (QR := isR (some (.int (nI (certs (cH σ) (cN σ))))) ad (PW i ad σ tl t lo o)) (QX := noX) (mc := 0) (ms := 0) (e := e) (below := below) C hl hr (by omega) hσ ⟨rfl, rfl, rfl⟩ 8 0 (by omega)
  rw [Nat.zero_min] at K
  exact K
set_option maxHeartbeats 4000000 in
theorem p_certifiedHalls {l : Launch} {D : va_G} {ba d : Nat} {ad : Adr} (hl : l.stackTraces = false) (hd : 8 ≤ d) {i : Nat} {σ : CS} {tl : Int32} {t : TT} {lo : Nat → Int32} {o : Wd} (hσ : cOK σ)  : CT l yX6_certifiedHalls (wsO yX6_certifiedHalls cX6_certifiedHalls 1 (some .int)) d 8 64 D ba [.ref (ad [i])] ad (PW i ad σ tl t lo o) (RP i ad σ o (some (.int (nI (certs (cH σ) (cN σ)))))) noX := by
  refine CT_of RX6 rfl (by decide +kernel) hl (Nat.le_of_ble_eq_true rfl) ?_
  intro p e s m args below meth c C hr hnm
  refine V_lvE (lv' := [(0, .ref (ad [i]))]) rfl ?_
  have hσ1 := hσ.1
  have hσ2 := hσ.2.1
  refine V_aload_n C dX6_certifiedHalls_0 0 rfl ?_
  refine V_callV (r := (RX6, TX6, 8)) C [] dX6_certifiedHalls_1 m_X6_countCertified k_X6_countCertified tw_438 rfl rfl rfl PW_b rfl rfl (Nat.le_of_ble_eq_true rfl) ⟨by omega, by omega, by omega, by omega⟩ (c_count hl (by omega) hσ) (kr_some (x := .int (nI (certs (cH σ) (cN σ)))) ?_) kx_no
  exact V_iret C .int dX6_certifiedHalls_4 hr rfl ⟨rfl, rfl, _, _, _, rfl⟩ (by omega) (by omega)
set_option maxHeartbeats 4000000 in
theorem p_clean {l : Launch} {D : va_G} {ba d : Nat} {ad : Adr} (hl : l.stackTraces = false) (hd : 8 ≤ d) {i : Nat} {σ : CS} {tl : Int32} {t : TT} {lo : Nat → Int32} {o : Wd} (hσ : cOK σ) {j : Nat} (hj : j < cN σ)  : CT l yX6_clean (wsO yX6_clean cX6_clean 4 (some .int)) d 8 64 D ba [.ref (ad [i]), .int (nI j)] ad (PW i ad σ tl t lo o) (RP i ad (setH σ j (hSc (cH σ j), hDm (cH σ j), 0, hCe (cH σ j), hDy (cH σ j), hSu (cH σ j))) o (some (.int (nI (hDu (cH σ j)))))) noX := by
  refine CT_of RX6 rfl (by decide +kernel) hl (Nat.le_of_ble_eq_true rfl) ?_
  intro p e s m args below meth c C hr hnm
  refine V_lvE (lv' := [(0, .ref (ad [i])), (1, .int (nI j))]) rfl ?_
  have hσ1 := hσ.1
  have hσ2 := hσ.2.1
  have hu := hσ.2.2.1 j hj
  have hu1 := hu.1
  have hu2 := hu.2.1
  have hu3 := hu.2.2.1
  have hu4 := hu.2.2.2.1
  refine V_aload_n C dX6_clean_0 0 rfl ?_
  refine V_iload_n C dX6_clean_1 1 rfl ?_
  refine V_callV (r := (RX6, TX6, 8)) C [.int (nI j)] dX6_clean_2 m_X6_findHall k_X6_findHall tw_225 rfl rfl rfl PW_b rfl rfl (Nat.le_of_ble_eq_true rfl) ⟨by omega, by omega, by omega, by omega⟩ (c_findHall hl (by omega) hσ hj) (kr_some (x := .ref (ad [i, 6, j])) ?_) kx_no
  refine V_astore_n C [(2, .ref (ad [i, 6, j])), (0, .ref (ad [i])), (1, .int (nI j))] dX6_clean_5 (by decide) rfl ?_
  refine V_aload_n C dX6_clean_6 0 rfl ?_
  refine V_getN (ci := 0) (k := 3) C dX6_clean_7 RX0 RX0 RX6 TX0 6 fw_X0 rfl (by decide) tw_202 rfl rfl (PW_h hj) rfl ?_
  refine V_istore_n C [(3, .int (nI (hDu (cH σ j)))), (2, .ref (ad [i, 6, j])), (0, .ref (ad [i])), (1, .int (nI j))] dX6_clean_10 (by decide) rfl ?_
  refine V_aload_n C dX6_clean_11 1 rfl ?_
  refine V_iconst (v := nI 0) C dX6_clean_12 (by decide) ?_
  refine V_putN (ci := 0) (k := 3) C dX6_clean_13 RX0 RX0 RX6 TX0 6 tyX0 tyX0_ok nmX0 fw_X0 rfl (by decide) tw_202 rfl rfl rfl rfl rfl (PW_h hj) (Nat.le_of_ble_eq_true rfl) ?_
  refine V_wd (w' := wset (PW i ad σ tl t lo o) ([i, 6, j]) (.inr (0, [.ref (ad [i, 7, j]), .int (nI (hSc (cH σ j))), .int (nI (hDm (cH σ j))), .int (nI 0), .int (hCe (cH σ j)), .int (nI (hDy (cH σ j)))]))) rfl ?_
  refine V_iload_n C dX6_clean_16 0 rfl ?_
  exact V_iret C .int dX6_clean_17 hr rfl ⟨rfl, rfl, _, _, _, PW_h' hj⟩ (by omega) (by omega)
set_option maxHeartbeats 4000000 in
theorem p_setDamping {l : Launch} {D : va_G} {ba d : Nat} {ad : Adr} (hl : l.stackTraces = false) (hd : 9 ≤ d) {i : Nat} {σ : CS} {tl : Int32} {t : TT} {lo : Nat → Int32} {o : Wd} (hσ : cOK σ) {j : Nat} (hj : j < cN σ) {v : Nat} (hv : v ≤ 90) (hin : ¬ inR (nI v) (nI 0) (nI 90) = 0)  : CT l yX6_setDamping (wsO yX6_setDamping cX6_setDamping 5 (some .int)) d 8 64 D ba [.ref (ad [i]), .int (nI j), .int (nI v)] ad (PW i ad σ tl t lo o) (RP i ad (setH σ j (hSc (cH σ j), v, hDu (cH σ j), -1, 0, hSu (cH σ j))) o (some (.int (nI (hDm (cH σ j)))))) noX := by
  refine CT_of RX6 rfl (by decide +kernel) hl (Nat.le_of_ble_eq_true rfl) ?_
  intro p e s m args below meth c C hr hnm
  refine V_lvE (lv' := [(0, .ref (ad [i])), (1, .int (nI j)), (2, .int (nI v))]) rfl ?_
  have hσ1 := hσ.1
  have hσ2 := hσ.2.1
  have hu := hσ.2.2.1 j hj
  have hu1 := hu.1
  have hu2 := hu.2.1
  have hu3 := hu.2.2.1
  have hu4 := hu.2.2.2.1
  refine V_aload_n C dX6_setDamping_0 0 rfl ?_
  refine V_iload_n C dX6_setDamping_1 1 rfl ?_
  refine V_callV (r := (RX6, TX6, 8)) C [.int (nI j)] dX6_setDamping_2 m_X6_findHall k_X6_findHall tw_225 rfl rfl rfl PW_b rfl rfl (Nat.le_of_ble_eq_true rfl) ⟨by omega, by omega, by omega, by omega⟩ (c_findHall hl (by omega) hσ hj) (kr_some (x := .ref (ad [i, 6, j])) ?_) kx_no
  refine V_astore_n C [(3, .ref (ad [i, 6, j])), (0, .ref (ad [i])), (1, .int (nI j)), (2, .int (nI v))] dX6_setDamping_5 (by decide) rfl ?_
  refine V_iload_n C dX6_setDamping_6 3 rfl ?_
  refine V_callS C [.int (nI v)] dX6_setDamping_7 m_X6_checkDamping k_X6_checkDamping tw_99 rfl rfl (Nat.le_of_ble_eq_true rfl) ⟨by omega, by omega, by omega, by omega⟩ (c_ckDamp_ok hl (by omega) _ hin) (kr_none ?_) kx_no
  refine V_aload_n C dX6_setDamping_10 0 rfl ?_
  refine V_getN (ci := 0) (k := 2) C dX6_setDamping_11 RX0 RX0 RX6 TX0 6 fw_X0 rfl (by decide) tw_201 rfl rfl (PW_h hj) rfl ?_
  refine V_istore C [(4, .int (nI (hDm (cH σ j)))), (3, .ref (ad [i, 6, j])), (0, .ref (ad [i])), (1, .int (nI j)), (2, .int (nI v))] dX6_setDamping_14 (by decide) rfl ?_
  refine V_aload_n C dX6_setDamping_16 1 rfl ?_
  refine V_iload_n C dX6_setDamping_17 4 rfl ?_
  refine V_putN (ci := 0) (k := 2) C dX6_setDamping_18 RX0 RX0 RX6 TX0 6 tyX0 tyX0_ok nmX0 fw_X0 rfl (by decide) tw_201 rfl rfl rfl rfl rfl (PW_h hj) (Nat.le_of_ble_eq_true rfl) ?_
  refine V_wd (w' := wset (PW i ad σ tl t lo o) ([i, 6, j]) (.inr (0, [.ref (ad [i, 7, j]), .int (nI (hSc (cH σ j))), .int (nI v), .int (nI (hDu (cH σ j))), .int (hCe (cH σ j)), .int (nI (hDy (cH σ j)))]))) rfl ?_
  refine V_aload_n C dX6_setDamping_21 1 rfl ?_
  refine V_callVN (r := (RX0, TX0, 6)) C RX6 [] dX6_setDamping_22 m_X0_loseCertificate k_X0_loseCertificate tw_256 rfl rfl rfl wset_s rfl rfl (Nat.le_of_ble_eq_true rfl) ⟨by omega, by omega, by omega, by omega⟩ (c_loseCert hl (by omega) wset_s) (kr_none ?_) kx_no
  refine V_wd (w' := wset (PW i ad σ tl t lo o) ([i, 6, j]) (.inr (0, [.ref (ad [i, 7, j]), .int (nI (hSc (cH σ j))), .int (nI v), .int (nI (hDu (cH σ j))), .int (-1), .int (nI 0)]))) wset_wset ?_
  refine V_iload C dX6_setDamping_25 0 rfl ?_
  exact V_iret C .int dX6_setDamping_27 hr rfl ⟨rfl, rfl, _, _, _, PW_h' hj⟩ (by omega) (by omega)
set_option maxHeartbeats 4000000 in
theorem p_revoke {l : Launch} {D : va_G} {ba d : Nat} {ad : Adr} (hl : l.stackTraces = false) (hd : 9 ≤ d) {i : Nat} {σ : CS} {tl : Int32} {t : TT} {lo : Nat → Int32} {o : Wd} (hσ : cOK σ) {j : Nat} (hj : j < cN σ) (hc : ¬ hCe (cH σ j) = -1) : CT l yX6_revoke (wsO yX6_revoke cX6_revoke 4 (some .int)) d 8 64 D ba [.ref (ad [i]), .int (nI j)] ad (PW i ad σ tl t lo o) (RP i ad (setH σ j (hSc (cH σ j), hDm (cH σ j), hDu (cH σ j), -1, 0, hSu (cH σ j))) o (some (.int (nI (hDy (cH σ j)))))) noX := by
  refine CT_of RX6 rfl (by decide +kernel) hl (Nat.le_of_ble_eq_true rfl) ?_
  intro p e s m args below meth c C hr hnm
  refine V_lvE (lv' := [(0, .ref (ad [i])), (1, .int (nI j))]) rfl ?_
  have hσ1 := hσ.1
  have hσ2 := hσ.2.1
  have hu := hσ.2.2.1 j hj
  have hu1 := hu.1
  have hu2 := hu.2.1
  have hu3 := hu.2.2.1
  have hu4 := hu.2.2.2.1
  refine V_aload_n C dX6_revoke_0 0 rfl ?_
  refine V_iload_n C dX6_revoke_1 1 rfl ?_
  refine V_callV (r := (RX6, TX6, 8)) C [.int (nI j)] dX6_revoke_2 m_X6_findHall k_X6_findHall tw_225 rfl rfl rfl PW_b rfl rfl (Nat.le_of_ble_eq_true rfl) ⟨by omega, by omega, by omega, by omega⟩ (c_findHall hl (by omega) hσ hj) (kr_some (x := .ref (ad [i, 6, j])) ?_) kx_no
  refine V_astore_n C [(2, .ref (ad [i, 6, j])), (0, .ref (ad [i])), (1, .int (nI j))] dX6_revoke_5 (by decide) rfl ?_
  refine V_aload_n C dX6_revoke_6 0 rfl ?_
  refine V_callS C [.ref (ad [i, 6, j])] dX6_revoke_7 m_X6_checkCertificate k_X6_checkCertificate tw_477 rfl rfl (Nat.le_of_ble_eq_true rfl) ⟨by omega, by omega, by omega, by omega⟩ (c_ckCert_ok hl (by omega) (PW_h hj) hc) (kr_none ?_) kx_no
  refine V_aload_n C dX6_revoke_10 0 rfl ?_
  refine V_getN (ci := 0) (k := 5) C dX6_revoke_11 RX0 RX0 RX6 TX0 6 fw_X0 rfl (by decide) tw_207 rfl rfl (PW_h hj) rfl ?_
  refine V_istore_n C [(3, .int (nI (hDy (cH σ j)))), (2, .ref (ad [i, 6, j])), (0, .ref (ad [i])), (1, .int (nI j))] dX6_revoke_14 (by decide) rfl ?_
  refine V_aload_n C dX6_revoke_15 1 rfl ?_
  refine V_callVN (r := (RX0, TX0, 6)) C RX6 [] dX6_revoke_16 m_X0_loseCertificate k_X0_loseCertificate tw_256 rfl rfl rfl (PW_h hj) rfl rfl (Nat.le_of_ble_eq_true rfl) ⟨by omega, by omega, by omega, by omega⟩ (c_loseCert hl (by omega) (PW_h hj)) (kr_none ?_) kx_no
  refine V_wd (w' := wset (PW i ad σ tl t lo o) ([i, 6, j]) (.inr (0, [.ref (ad [i, 7, j]), .int (nI (hSc (cH σ j))), .int (nI (hDm (cH σ j))), .int (nI (hDu (cH σ j))), .int (-1), .int (nI 0)]))) rfl ?_
  refine V_iload_n C dX6_revoke_19 0 rfl ?_
  exact V_iret C .int dX6_revoke_20 hr rfl ⟨rfl, rfl, _, _, _, PW_h' hj⟩ (by omega) (by omega)
