
set_option maxHeartbeats 4000000 in
theorem c_tInit {l : Launch} {D : va_G} {ba d : Nat} {ad : Adr} {w : Wd} (hl : l.stackTraces = false) (hd : 1 ≤ d) (a : Nat) : CT l yX5_init (wsO yX5_init cX5_init 1 none) d 0 0 D ba [.ref a] ad w (isR none ad w) noX := by
  refine CT_of RX5 rfl (by decide +kernel) hl (Nat.le_of_ble_eq_true rfl) ?_
  intro p e s m args below meth c C hr hnm
  refine V_lvE (lv' := [(0, .ref a)]) rfl ?_
  refine V_aload_n C dX5_init_0 0 rfl ?_
  refine V_obj C dX5_init_1 tw_34 tw_23 tw_24 (by omega) (by simp [Value.category]; try omega) ?_
  exact V_vret C dX5_init_4 hr ⟨rfl, rfl, rfl⟩ (by omega) (by omega)
set_option maxHeartbeats 4000000 in
theorem c_sInit {l : Launch} {D : va_G} {ba d : Nat} {ad : Adr} {w : Wd} (hl : l.stackTraces = false) (hd : 1 ≤ d) {LU : Lab} (hU : w LU = some (.inr (3, [.int 0, .int 0]))) (ds hb : Nat) : CT l yX4_init (wsO yX4_init cX4_init 3 none) d 0 0 D ba [.ref (ad LU), .int (nI ds), .int (nI hb)] ad w (isR none ad (wset w LU (.inr (3, [.int (nI hb), .int (nI ds)])))) noX := by
  refine CT_of RX4 rfl (by decide +kernel) hl (Nat.le_of_ble_eq_true rfl) ?_
  intro p e s m args below meth c C hr hnm
  refine V_lvE (lv' := [(0, .ref (ad LU)), (1, .int (nI ds)), (2, .int (nI hb))]) rfl ?_
  refine V_aload_n C dX4_init_0 0 rfl ?_
  refine V_obj C dX4_init_1 tw_265 tw_23 tw_24 (by omega) (by simp [Value.category]; try omega) ?_
  refine V_aload_n C dX4_init_4 0 rfl ?_
  refine V_iload_n C dX4_init_5 1 rfl ?_
  refine V_put (ci := 3) (k := 1) C dX4_init_6 RX4 RX4 TX4 2 tyX4 tyX4_ok nmX4 fw_X4 rfl (by decide) tw_267 rfl (Or.inl rfl) rfl rfl rfl hU (Nat.le_of_ble_eq_true rfl) ?_
  refine V_wd (w' := wset w LU (.inr (3, [.int 0, .int (nI ds)]))) rfl ?_
  refine V_aload_n C dX4_init_9 0 rfl ?_
  refine V_iload_n C dX4_init_10 2 rfl ?_
  refine V_put (ci := 3) (k := 0) C dX4_init_11 RX4 RX4 TX4 2 tyX4 tyX4_ok nmX4 fw_X4 rfl (by decide) tw_266 rfl (Or.inr ⟨rfl, hnm, rfl⟩) rfl rfl rfl wset_s (Nat.le_of_ble_eq_true rfl) ?_
  refine V_wd (w' := wset w LU (.inr (3, [.int (nI hb), .int (nI ds)]))) wset_wset ?_
  exact V_vret C dX4_init_14 hr ⟨rfl, rfl, rfl⟩ (by omega) (by omega)
set_option maxHeartbeats 4000000 in
theorem c_dInit {l : Launch} {D : va_G} {ba d : Nat} {ad : Adr} {w : Wd} (hl : l.stackTraces = false) (hd : 1 ≤ d) {LD : Lab} (hD : w LD = some (.inr (2, [.int 0, .int 0, .int 0, .int 0, .int 0]))) (ea li mo lt dy : Nat) : CT l yX3_init (wsO yX3_init cX3_init 6 none) d 0 0 D ba [.ref (ad LD), .int (nI ea), .int (nI li), .int (nI mo), .int (nI lt), .int (nI dy)] ad w (isR none ad (wset w LD (.inr (2, [.int (nI ea), .int (nI li), .int (nI mo), .int (nI lt), .int (nI dy)])))) noX := by
  refine CT_of RX3 rfl (by decide +kernel) hl (Nat.le_of_ble_eq_true rfl) ?_
  intro p e s m args below meth c C hr hnm
  refine V_lvE (lv' := [(0, .ref (ad LD)), (1, .int (nI ea)), (2, .int (nI li)), (3, .int (nI mo)), (4, .int (nI lt)), (5, .int (nI dy))]) rfl ?_
  refine V_aload_n C dX3_init_0 0 rfl ?_
  refine V_obj C dX3_init_1 tw_581 tw_23 tw_24 (by omega) (by simp [Value.category]; try omega) ?_
  refine V_aload_n C dX3_init_4 0 rfl ?_
  refine V_iload_n C dX3_init_5 1 rfl ?_
  refine V_put (ci := 2) (k := 0) C dX3_init_6 RX3 RX3 TX3 5 tyX3 tyX3_ok nmX3 fw_X3 rfl (by decide) tw_582 rfl (Or.inr ⟨rfl, hnm, rfl⟩) rfl rfl rfl hD (Nat.le_of_ble_eq_true rfl) ?_
  refine V_wd (w' := wset w LD (.inr (2, [.int (nI ea), .int 0, .int 0, .int 0, .int 0]))) rfl ?_
  refine V_aload_n C dX3_init_9 0 rfl ?_
  refine V_iload_n C dX3_init_10 2 rfl ?_
  refine V_put (ci := 2) (k := 1) C dX3_init_11 RX3 RX3 TX3 5 tyX3 tyX3_ok nmX3 fw_X3 rfl (by decide) tw_583 rfl (Or.inr ⟨rfl, hnm, rfl⟩) rfl rfl rfl wset_s (Nat.le_of_ble_eq_true rfl) ?_
  refine V_wd (w' := wset w LD (.inr (2, [.int (nI ea), .int (nI li), .int 0, .int 0, .int 0]))) wset_wset ?_
  refine V_aload_n C dX3_init_14 0 rfl ?_
  refine V_iload_n C dX3_init_15 3 rfl ?_
  refine V_put (ci := 2) (k := 2) C dX3_init_16 RX3 RX3 TX3 5 tyX3 tyX3_ok nmX3 fw_X3 rfl (by decide) tw_585 rfl (Or.inr ⟨rfl, hnm, rfl⟩) rfl rfl rfl wset_s (Nat.le_of_ble_eq_true rfl) ?_
  refine V_wd (w' := wset w LD (.inr (2, [.int (nI ea), .int (nI li), .int (nI mo), .int 0, .int 0]))) wset_wset ?_
  refine V_aload_n C dX3_init_19 0 rfl ?_
  refine V_iload C dX3_init_20 4 rfl ?_
  refine V_put (ci := 2) (k := 3) C dX3_init_22 RX3 RX3 TX3 5 tyX3 tyX3_ok nmX3 fw_X3 rfl (by decide) tw_586 rfl (Or.inr ⟨rfl, hnm, rfl⟩) rfl rfl rfl wset_s (Nat.le_of_ble_eq_true rfl) ?_
  refine V_wd (w' := wset w LD (.inr (2, [.int (nI ea), .int (nI li), .int (nI mo), .int (nI lt), .int 0]))) wset_wset ?_
  refine V_aload_n C dX3_init_25 0 rfl ?_
  refine V_iload C dX3_init_26 5 rfl ?_
  refine V_put (ci := 2) (k := 4) C dX3_init_28 RX3 RX3 TX3 5 tyX3 tyX3_ok nmX3 fw_X3 rfl (by decide) tw_587 rfl (Or.inr ⟨rfl, hnm, rfl⟩) rfl rfl rfl wset_s (Nat.le_of_ble_eq_true rfl) ?_
  refine V_wd (w' := wset w LD (.inr (2, [.int (nI ea), .int (nI li), .int (nI mo), .int (nI lt), .int (nI dy)]))) wset_wset ?_
  exact V_vret C dX3_init_31 hr ⟨rfl, rfl, rfl⟩ (by omega) (by omega)
set_option maxHeartbeats 4000000 in
theorem c_hInit {l : Launch} {D : va_G} {ba d : Nat} {ad : Adr} {w : Wd} (hl : l.stackTraces = false) (hd : 1 ≤ d) {LH LS : Lab} (hH : w LH = some (.inr (0, [.null, .int 0, .int 0, .int 0, .int 0, .int 0]))) (hS : w LS = none) (hHS : LH ≠ LS) (dm : Nat) : CT l yX0_init (wsO yX0_init cX0_init 2 none) d 1 6 D ba [.ref (ad LH), .int (nI dm)] ad w (fun v ad' w' => v = none ∧ ∃ q, ad' = aset ad LS q ∧ w' = wset (wset w LS (eQ RX4 6 (fun _ => none))) LH (.inr (0, [.ref q, .int 0, .int (nI dm), .int 0, .int (-1), .int 0]))) noX := by
  refine CT_of RX0 rfl (by decide +kernel) hl (Nat.le_of_ble_eq_true rfl) ?_
  intro p e s m args below meth c C hr hnm
  refine V_lvE (lv' := [(0, .ref (ad LH)), (1, .int (nI dm))]) rfl ?_
  refine V_aload_n C dX0_init_0 0 rfl ?_
  refine V_obj C dX0_init_1 tw_193 tw_23 tw_24 (by omega) (by simp [Value.category]; try omega) ?_
  refine V_aload_n C dX0_init_4 0 rfl ?_
  refine V_bipush (v := nI 6) C dX0_init_5 (by decide) ?_
  refine V_newQ (N := 6) C LS RX4 dX0_init_7 tw_194 tw_195 (by decide) (by decide) (by decide) hS (by omega) (by omega) (fun q1 => ?_)
  refine V_put (ci := 0) (k := 0) C dX0_init_10 RX0 RX0 TX0 6 tyX0 tyX0_ok nmX0 fw_X0 rfl (by decide) tw_196 rfl (Or.inr ⟨rfl, hnm, rfl⟩) rfl rfl (aset_n hHS).symm ((wset_n hHS).trans hH) (Nat.le_of_ble_eq_true rfl) ?_
  refine V_wd (w' := wset (wset w LS (eQ RX4 6 (fun _ => none))) LH (.inr (0, [.ref q1, .int 0, .int 0, .int 0, .int 0, .int 0]))) rfl ?_
  refine V_aload_n C dX0_init_13 0 rfl ?_
  refine V_iconst (v := -1) C dX0_init_14 (by decide) ?_
  refine V_put (ci := 0) (k := 4) C dX0_init_15 RX0 RX0 TX0 6 tyX0 tyX0_ok nmX0 fw_X0 rfl (by decide) tw_204 rfl (Or.inl rfl) rfl rfl (aset_n hHS).symm wset_s (Nat.le_of_ble_eq_true rfl) ?_
  refine V_wd (w' := wset (wset w LS (eQ RX4 6 (fun _ => none))) LH (.inr (0, [.ref q1, .int 0, .int 0, .int 0, .int (-1), .int 0]))) wset_wset ?_
  refine V_aload_n C dX0_init_18 0 rfl ?_
  refine V_iload_n C dX0_init_19 1 rfl ?_
  refine V_put (ci := 0) (k := 2) C dX0_init_20 RX0 RX0 TX0 6 tyX0 tyX0_ok nmX0 fw_X0 rfl (by decide) tw_200 rfl (Or.inl rfl) rfl rfl (aset_n hHS).symm wset_s (Nat.le_of_ble_eq_true rfl) ?_
  refine V_wd (w' := wset (wset w LS (eQ RX4 6 (fun _ => none))) LH (.inr (0, [.ref q1, .int 0, .int (nI dm), .int 0, .int (-1), .int 0]))) wset_wset ?_
  exact V_vret C dX0_init_23 hr ⟨rfl, q1, rfl, rfl⟩ (by omega) (by omega)
set_option maxHeartbeats 4000000 in
theorem c_lInit {l : Launch} {D : va_G} {ba d : Nat} {ad : Adr} {w : Wd} (hl : l.stackTraces = false) (hd : 1 ≤ d) {LL LA : Lab} (hL : w LL = some (.inr (1, [.null]))) (hA : w LA = none) (hLA : LL ≠ LA) : CT l yX2_init (wsO yX2_init cX2_init 1 none) d 1 501 D ba [.ref (ad LL)] ad w (fun v ad' w' => v = none ∧ ∃ q, ad' = aset ad LA q ∧ w' = wset (wset w LA (eI 501 (fun _ => 0))) LL (.inr (1, [.ref q]))) noX := by
  refine CT_of RX2 rfl (by decide +kernel) hl (Nat.le_of_ble_eq_true rfl) ?_
  intro p e s m args below meth c C hr hnm
  refine V_lvE (lv' := [(0, .ref (ad LL))]) rfl ?_
  refine V_aload_n C dX2_init_0 0 rfl ?_
  refine V_obj C dX2_init_1 tw_64 tw_23 tw_24 (by omega) (by simp [Value.category]; try omega) ?_
  refine V_aload_n C dX2_init_4 0 rfl ?_
  refine V_sipush (v := nI 501) C dX2_init_5 (by decide) ?_
  refine V_newI (N := 501) C LA dX2_init_8 tw_69 (by decide) (by decide) (by decide) hA (by omega) (by omega) (fun q1 => ?_)
  refine V_put (ci := 1) (k := 0) C dX2_init_10 RX2 RX2 TX2 1 tyX2 tyX2_ok nmX2 fw_X2 rfl (by decide) tw_65 rfl (Or.inr ⟨rfl, hnm, rfl⟩) rfl rfl (aset_n hLA).symm ((wset_n hLA).trans hL) (Nat.le_of_ble_eq_true rfl) ?_
  refine V_wd (w' := wset (wset w LA (eI 501 (fun _ => 0))) LL (.inr (1, [.ref q1]))) rfl ?_
  exact V_vret C dX2_init_13 hr ⟨rfl, q1, rfl, rfl⟩ (by omega) (by omega)
def inR (v a b : Int32) : Nat := if v < a then 0 else if b < v then 0 else 1
theorem inR_le (v a b : Int32) : inR v a b ≤ 1 := by unfold inR; split <;> (try split) <;> omega
set_option maxHeartbeats 4000000 in
theorem c_isWithin {l : Launch} {D : va_G} {ba d : Nat} {ad : Adr} {w : Wd} (hl : l.stackTraces = false) (hd : 1 ≤ d) (v a b : Int32) : CT l yX6_isWithin (wsO yX6_isWithin cX6_isWithin 3 (some .boolean)) d 0 0 D ba [.int v, .int a, .int b] ad w (isR (some (.int (nI (inR v a b)))) ad w) noX := by
  refine CT_of RX6 rfl (by decide +kernel) hl (Nat.le_of_ble_eq_true rfl) ?_
  intro p e s m args below meth c C hr hnm
  refine V_lvE (lv' := [(0, .int v), (1, .int a), (2, .int b)]) rfl ?_
  refine V_iload_n C dX6_isWithin_0 0 rfl ?_
  refine V_iload_n C dX6_isWithin_1 1 rfl ?_
  refine V_icmp_lt (tgt := 14) C dX6_isWithin_2 (by decide) (fun hb1 => ?_) (fun hb1 => ?_)
  · skip
    refine V_iconst (v := nI 0) C dX6_isWithin_14 (by decide) ?_
    exact V_iret C .boolean dX6_isWithin_15 hr rfl ⟨by rw [inR, if_pos hb1], rfl, rfl⟩ (by omega) (by omega)
  · skip
    refine V_iload_n C dX6_isWithin_5 0 rfl ?_
    refine V_iload_n C dX6_isWithin_6 2 rfl ?_
    refine V_icmp_gt (tgt := 14) C dX6_isWithin_7 (by decide) (fun hb2 => ?_) (fun hb2 => ?_)
    · skip
      refine V_iconst (v := nI 0) C dX6_isWithin_14 (by decide) ?_
      exact V_iret C .boolean dX6_isWithin_15 hr rfl ⟨by rw [inR, if_neg hb1, if_pos hb2], rfl, rfl⟩ (by omega) (by omega)
    · skip
      refine V_iconst (v := nI 1) C dX6_isWithin_10 (by decide) ?_
      refine V_goto (tgt := 15) C dX6_isWithin_11 (by decide) ?_
      exact V_iret C .boolean dX6_isWithin_15 hr rfl ⟨by rw [inR, if_neg hb1, if_neg hb2], rfl, rfl⟩ (by omega) (by omega)
set_option maxHeartbeats 4000000 in
theorem c_ckDamp_ok {l : Launch} {D : va_G} {ba d : Nat} {ad : Adr} {w : Wd} (hl : l.stackTraces = false) (hd : 2 ≤ d) (x : Int32) (hx : ¬ inR x (nI 0) (nI 90) = 0) : CT l yX6_checkDamping (wsO yX6_checkDamping cX6_checkDamping 1 none) d 1 6 D ba [.int x] ad w (isR none ad w) noX := by
  refine CT_of RX6 rfl (by decide +kernel) hl (Nat.le_of_ble_eq_true rfl) ?_
  intro p e s m args below meth c C hr hnm
  refine V_lvE (lv' := [(0, .int x)]) rfl ?_
  refine V_iload_n C dX6_checkDamping_0 0 rfl ?_
  refine V_iconst (v := nI 0) C dX6_checkDamping_1 (by decide) ?_
  refine V_bipush (v := nI 90) C dX6_checkDamping_2 (by decide) ?_
  have hin4 := inR_le x (nI 0) (nI 90)
  refine V_callS C [.int x, .int (nI 0), .int (nI 90)] dX6_checkDamping_4 m_X6_isWithin k_X6_isWithin tw_102 rfl rfl (Nat.le_of_ble_eq_true rfl) ⟨by omega, by omega, by omega, by omega⟩ (c_isWithin hl (by omega) x (nI 0) (nI 90)) (kr_some (x := .int (nI (inR x (nI 0) (nI 90)))) ?_) kx_no
  refine V_ifn_ne (tgt := 20) C dX6_checkDamping_7 (by decide) (by omega) (fun hb1 => ?_) (fun hb1 => by exfalso; omega)
  exact V_vret C dX6_checkDamping_20 hr ⟨rfl, rfl, rfl⟩ (by omega) (by omega)
set_option maxHeartbeats 4000000 in
theorem c_ckDist_ok {l : Launch} {D : va_G} {ba d : Nat} {ad : Adr} {w : Wd} (hl : l.stackTraces = false) (hd : 2 ≤ d) (x : Int32) (hx : ¬ inR x (nI 1) (nI 60) = 0) : CT l yX6_checkDistance (wsO yX6_checkDistance cX6_checkDistance 1 none) d 1 6 D ba [.int x] ad w (isR none ad w) noX := by
  refine CT_of RX6 rfl (by decide +kernel) hl (Nat.le_of_ble_eq_true rfl) ?_
  intro p e s m args below meth c C hr hnm
  refine V_lvE (lv' := [(0, .int x)]) rfl ?_
  refine V_iload_n C dX6_checkDistance_0 0 rfl ?_
  refine V_iconst (v := nI 1) C dX6_checkDistance_1 (by decide) ?_
  refine V_bipush (v := nI 60) C dX6_checkDistance_2 (by decide) ?_
  have hin4 := inR_le x (nI 1) (nI 60)
  refine V_callS C [.int x, .int (nI 1), .int (nI 60)] dX6_checkDistance_4 m_X6_isWithin k_X6_isWithin tw_102 rfl rfl (Nat.le_of_ble_eq_true rfl) ⟨by omega, by omega, by omega, by omega⟩ (c_isWithin hl (by omega) x (nI 1) (nI 60)) (kr_some (x := .int (nI (inR x (nI 1) (nI 60)))) ?_) kx_no
  refine V_ifn_ne (tgt := 20) C dX6_checkDistance_7 (by decide) (by omega) (fun hb1 => ?_) (fun hb1 => by exfalso; omega)
  exact V_vret C dX6_checkDistance_20 hr ⟨rfl, rfl, rfl⟩ (by omega) (by omega)
set_option maxHeartbeats 4000000 in
theorem c_ckLoud_ok {l : Launch} {D : va_G} {ba d : Nat} {ad : Adr} {w : Wd} (hl : l.stackTraces = false) (hd : 2 ≤ d) (x : Int32) (hx : ¬ inR x (nI 1) (nI 1000) = 0) : CT l yX6_checkLoudness (wsO yX6_checkLoudness cX6_checkLoudness 1 none) d 1 6 D ba [.int x] ad w (isR none ad w) noX := by
  refine CT_of RX6 rfl (by decide +kernel) hl (Nat.le_of_ble_eq_true rfl) ?_
  intro p e s m args below meth c C hr hnm
  refine V_lvE (lv' := [(0, .int x)]) rfl ?_
  refine V_iload_n C dX6_checkLoudness_0 0 rfl ?_
  refine V_iconst (v := nI 1) C dX6_checkLoudness_1 (by decide) ?_
  refine V_sipush (v := nI 1000) C dX6_checkLoudness_2 (by decide) ?_
  have hin5 := inR_le x (nI 1) (nI 1000)
  refine V_callS C [.int x, .int (nI 1), .int (nI 1000)] dX6_checkLoudness_5 m_X6_isWithin k_X6_isWithin tw_102 rfl rfl (Nat.le_of_ble_eq_true rfl) ⟨by omega, by omega, by omega, by omega⟩ (c_isWithin hl (by omega) x (nI 1) (nI 1000)) (kr_some (x := .int (nI (inR x (nI 1) (nI 1000)))) ?_) kx_no
  refine V_ifn_ne (tgt := 21) C dX6_checkLoudness_8 (by decide) (by omega) (fun hb1 => ?_) (fun hb1 => by exfalso; omega)
  exact V_vret C dX6_checkLoudness_21 hr ⟨rfl, rfl, rfl⟩ (by omega) (by omega)
set_option maxHeartbeats 4000000 in
theorem c_ckCert_ok {l : Launch} {D : va_G} {ba d : Nat} {ad : Adr} {w : Wd} (hl : l.stackTraces = false) (hd : 2 ≤ d) {LH : Lab} {sa sc dm du dy : Nat} {ce : Int32} (hH : w LH = some (.inr (0, [.ref sa, .int (nI sc), .int (nI dm), .int (nI du), .int ce, .int (nI dy)]))) (hc : ¬ ce = -1) : CT l yX6_checkCertificate (wsO yX6_checkCertificate cX6_checkCertificate 1 none) d 1 6 D ba [.ref (ad LH)] ad w (isR none ad w) noX := by
  refine CT_of RX6 rfl (by decide +kernel) hl (Nat.le_of_ble_eq_true rfl) ?_
  intro p e s m args below meth c C hr hnm
  refine V_lvE (lv' := [(0, .ref (ad LH))]) rfl ?_
  have hs9 : (if ce = -1 then 0 else 1) ≤ 1 := by split <;> omega
  refine V_aload_n C dX6_checkCertificate_0 0 rfl ?_
  refine V_callVN (r := (RX0, TX0, 6)) C RX6 [] dX6_checkCertificate_1 m_X0_hasCertificate k_X0_hasCertificate tw_418 rfl rfl rfl hH rfl rfl (Nat.le_of_ble_eq_true rfl) ⟨by omega, by omega, by omega, by omega⟩ (c_hasCert hl (by omega) hH) (kr_some (x := .int (nI (if ce = -1 then 0 else 1))) ?_) kx_no
  refine V_ifn_ne (tgt := 17) C dX6_checkCertificate_4 (by decide) (by omega) (fun hb1 => ?_) (fun hb1 => by exfalso; rw [if_neg hc] at hb1; omega)
  exact V_vret C dX6_checkCertificate_17 hr ⟨rfl, rfl, rfl⟩ (by omega) (by omega)
