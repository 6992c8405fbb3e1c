theorem nI_min {a b : Nat} (ha : a < 2 ^ 31) (hb : b < 2 ^ 31) : (if nI b < nI a then nI b else nI a) = nI (min a b) := by
  by_cases h : b < a
  · rw [if_pos ((nI_ltI hb ha).mpr h), Nat.min_eq_right (Nat.le_of_lt h)]
  · rw [if_neg (fun z => h ((nI_ltI hb ha).mp z)), Nat.min_eq_left (Nat.not_lt.mp h)]
theorem nI_max {a b : Nat} (ha : a < 2 ^ 31) (hb : b < 2 ^ 31) : (if nI a < nI b then nI b else nI a) = nI (max a b) := by
  by_cases h : a < b
  · rw [if_pos ((nI_ltI ha hb).mpr h), Nat.max_eq_right (Nat.le_of_lt h)]
  · rw [if_neg (fun z => h ((nI_ltI ha hb).mp z)), Nat.max_eq_left (Nat.not_lt.mp h)]
theorem nI_sub0 {a b : Nat} (ha : a < 2 ^ 30) (hb : b < 2 ^ 30) : (if nI 0 < nI a - nI b then nI a - nI b else nI 0) = nI (a - b) := by
  by_cases h : b < a
  · rw [pk_sub (Nat.le_of_lt h), if_pos]
    exact (nI_ltI (a := 0) (by decide) (by omega)).mpr (by omega)
  · rw [show a - b = 0 by omega, if_neg]
    intro z
    rw [Int32.lt_iff_toInt_lt, pk_sub_toInt ha hb, nI_toInt (by decide)] at z
    omega
set_option maxHeartbeats 4000000 in
theorem c_hasCert {l : Launch} {D : va_G} {ba d : Nat} {ad : Adr} {w : Wd} (hl : l.stackTraces = false) (hd : 1 ≤ d) {LH : Lab} {sa sc dm du dy : Nat} {ce : Int32} (hH : w LH = some (.inr (0, [.ref sa, .int (nI sc), .int (nI dm), .int (nI du), .int ce, .int (nI dy)])))  : CT l yX0_hasCertificate (wsO yX0_hasCertificate cX0_hasCertificate 1 (some .boolean)) d 0 0 D ba [.ref (ad LH)] ad w (isR (some (.int (nI (if ce = -1 then 0 else 1)))) ad w) noX := by
  refine CT_of RX0 rfl (by decide +kernel) hl (Nat.le_of_ble_eq_true rfl) ?_
  intro p e s m args below meth c C hr hnm
  refine V_lvE (lv' := [(0, .ref (ad LH))]) rfl ?_
  refine V_aload_n C dX0_hasCertificate_0 0 rfl ?_
  refine V_get (ci := 0) (k := 4) C dX0_hasCertificate_1 RX0 RX0 TX0 6 fw_X0 rfl (by decide) tw_204 rfl rfl hH rfl ?_
  refine V_iconst (v := -1) C dX0_hasCertificate_4 (by decide) ?_
  refine V_icmp_eq (tgt := 12) C dX0_hasCertificate_5 (by decide) (fun hb1 => ?_) (fun hb1 => ?_)
  · skip
    refine V_iconst (v := nI 0) C dX0_hasCertificate_12 (by decide) ?_
    exact V_iret C .boolean dX0_hasCertificate_13 hr rfl ⟨by rw [if_pos hb1], rfl, rfl⟩ (by omega) (by omega)
  · skip
    refine V_iconst (v := nI 1) C dX0_hasCertificate_8 (by decide) ?_
    refine V_goto (tgt := 13) C dX0_hasCertificate_9 (by decide) ?_
    exact V_iret C .boolean dX0_hasCertificate_13 hr rfl ⟨by rw [if_neg hb1], rfl, rfl⟩ (by omega) (by omega)
set_option maxHeartbeats 4000000 in
theorem c_loseCert {l : Launch} {D : va_G} {ba d : Nat} {ad : Adr} {w : Wd} (hl : l.stackTraces = false) (hd : 1 ≤ d) {LH : Lab} {sa sc dm du dy : Nat} {ce : Int32} (hH : w LH = some (.inr (0, [.ref sa, .int (nI sc), .int (nI dm), .int (nI du), .int ce, .int (nI dy)])))  : CT l yX0_loseCertificate (wsO yX0_loseCertificate cX0_loseCertificate 1 none) d 0 0 D ba [.ref (ad LH)] ad w (isR none ad (wset w LH (.inr (0, [.ref sa, .int (nI sc), .int (nI dm), .int (nI du), .int (-1), .int (nI 0)])))) noX := by
  refine CT_of RX0 rfl (by decide +kernel) hl (Nat.le_of_ble_eq_true rfl) ?_
  intro p e s m args below meth c C hr hnm
  refine V_lvE (lv' := [(0, .ref (ad LH))]) rfl ?_
  refine V_aload_n C dX0_loseCertificate_0 0 rfl ?_
  refine V_iconst (v := -1) C dX0_loseCertificate_1 (by decide) ?_
  refine V_put (ci := 0) (k := 4) C dX0_loseCertificate_2 RX0 RX0 TX0 6 tyX0 tyX0_ok nmX0 fw_X0 rfl (by decide) tw_204 rfl (Or.inl rfl) rfl rfl rfl hH (Nat.le_of_ble_eq_true rfl) ?_
  refine V_wd (w' := wset w LH (.inr (0, [.ref sa, .int (nI sc), .int (nI dm), .int (nI du), .int (-1), .int (nI dy)]))) rfl ?_
  refine V_aload_n C dX0_loseCertificate_5 0 rfl ?_
  refine V_iconst (v := nI 0) C dX0_loseCertificate_6 (by decide) ?_
  refine V_put (ci := 0) (k := 5) C dX0_loseCertificate_7 RX0 RX0 TX0 6 tyX0 tyX0_ok nmX0 fw_X0 rfl (by decide) tw_206 rfl (Or.inl rfl) rfl rfl rfl wset_s (Nat.le_of_ble_eq_true rfl) ?_
  refine V_wd (w' := wset w LH (.inr (0, [.ref sa, .int (nI sc), .int (nI dm), .int (nI du), .int (-1), .int (nI 0)]))) wset_wset ?_
  exact V_vret C dX0_loseCertificate_10 hr ⟨rfl, rfl, rfl⟩ (by omega) (by omega)
set_option maxHeartbeats 4000000 in
theorem c_takeCert {l : Launch} {D : va_G} {ba d : Nat} {ad : Adr} {w : Wd} (hl : l.stackTraces = false) (hd : 1 ≤ d) {LH : Lab} {sa sc dm du dy : Nat} {ce : Int32} (hH : w LH = some (.inr (0, [.ref sa, .int (nI sc), .int (nI dm), .int (nI du), .int ce, .int (nI dy)]))) (q : Int32) (dys : Nat) : CT l yX0_takeCertificate (wsO yX0_takeCertificate cX0_takeCertificate 3 none) d 0 0 D ba [.ref (ad LH), .int q, .int (nI dys)] ad w (isR none ad (wset w LH (.inr (0, [.ref sa, .int (nI sc), .int (nI dm), .int (nI du), .int q, .int (nI dys)])))) noX := by
  refine CT_of RX0 rfl (by decide +kernel) hl (Nat.le_of_ble_eq_true rfl) ?_
  intro p e s m args below meth c C hr hnm
  refine V_lvE (lv' := [(0, .ref (ad LH)), (1, .int q), (2, .int (nI dys))]) rfl ?_
  refine V_aload_n C dX0_takeCertificate_0 0 rfl ?_
  refine V_iload_n C dX0_takeCertificate_1 1 rfl ?_
  refine V_put (ci := 0) (k := 4) C dX0_takeCertificate_2 RX0 RX0 TX0 6 tyX0 tyX0_ok nmX0 fw_X0 rfl (by decide) tw_204 rfl (Or.inl rfl) rfl rfl rfl hH (Nat.le_of_ble_eq_true rfl) ?_
  refine V_wd (w' := wset w LH (.inr (0, [.ref sa, .int (nI sc), .int (nI dm), .int (nI du), .int q, .int (nI dy)]))) rfl ?_
  refine V_aload_n C dX0_takeCertificate_5 0 rfl ?_
  refine V_iload_n C dX0_takeCertificate_6 2 rfl ?_
  refine V_put (ci := 0) (k := 5) C dX0_takeCertificate_7 RX0 RX0 TX0 6 tyX0 tyX0_ok nmX0 fw_X0 rfl (by decide) tw_206 rfl (Or.inl rfl) rfl rfl rfl wset_s (Nat.le_of_ble_eq_true rfl) ?_
  refine V_wd (w' := wset w LH (.inr (0, [.ref sa, .int (nI sc), .int (nI dm), .int (nI du), .int q, .int (nI dys)]))) wset_wset ?_
  exact V_vret C dX0_takeCertificate_10 hr ⟨rfl, rfl, rfl⟩ (by omega) (by omega)
set_option maxHeartbeats 4000000 in
theorem c_dustBehind {l : Launch} {D : va_G} {ba d : Nat} {ad : Adr} {w : Wd} (hl : l.stackTraces = false) (hd : 1 ≤ d) {LH : Lab} {sa sc dm du dy : Nat} {ce : Int32} (hH : w LH = some (.inr (0, [.ref sa, .int (nI sc), .int (nI dm), .int (nI du), .int ce, .int (nI dy)]))) (k : Nat) (hdu : du ≤ 100) (hk : k ≤ 100) : CT l yX0_dustBehind (wsO yX0_dustBehind cX0_dustBehind 2 (some .int)) d 0 0 D ba [.ref (ad LH), .int (nI k)] ad w (isR (some (.int (nI (min 100 (du + k))))) ad w) noX := by
  refine CT_of RX0 rfl (by decide +kernel) hl (Nat.le_of_ble_eq_true rfl) ?_
  intro p e s m args below meth c C hr hnm
  refine V_lvE (lv' := [(0, .ref (ad LH)), (1, .int (nI k))]) rfl ?_
  refine V_bipush (v := nI 100) C dX0_dustBehind_0 (by decide) ?_
  refine V_aload_n C dX0_dustBehind_2 0 rfl ?_
  refine V_get (ci := 0) (k := 3) C dX0_dustBehind_3 RX0 RX0 TX0 6 fw_X0 rfl (by decide) tw_203 rfl rfl hH rfl ?_
  refine V_iload_n C dX0_dustBehind_6 1 rfl ?_
  refine V_iaddn C dX0_dustBehind_7 ?_
  refine V_min C dX0_dustBehind_8 tw_631 tw_495 tw_15 tw_496 (by omega) (by simp [Value.category]; try omega) (by omega) (by omega) ?_
  rw [show (if (nI (du + k)) < (nI 100) then (nI (du + k)) else (nI 100)) = (nI (min 100 (du + k))) from nI_min (by omega) (by omega)]
  exact V_iret C .int dX0_dustBehind_11 hr rfl ⟨rfl, rfl, rfl⟩ (by omega) (by omega)
set_option maxHeartbeats 4000000 in
theorem c_growOlder {l : Launch} {D : va_G} {ba d : Nat} {ad : Adr} {w : Wd} (hl : l.stackTraces = false) (hd : 3 ≤ d) {LH : Lab} {sa sc dm du dy : Nat} {ce : Int32} (hH : w LH = some (.inr (0, [.ref sa, .int (nI sc), .int (nI dm), .int (nI du), .int ce, .int (nI dy)]))) (k : Nat) (hdu : du ≤ 100) (hk : k ≤ 100) (hdy : dy ≤ 100) : CT l yX0_growOlder (wsO yX0_growOlder cX0_growOlder 2 none) d 0 0 D ba [.ref (ad LH), .int (nI k)] ad w (isR none ad (wset w LH (.inr (0, [.ref sa, .int (nI sc), .int (nI dm), .int (nI (min 100 (du + k))), .int (if k < dy then ce else -1), .int (nI (dy - k))])))) noX := by
  refine CT_of RX0 rfl (by decide +kernel) hl (Nat.le_of_ble_eq_true rfl) ?_
  intro p e s m args below meth c C hr hnm
  refine V_lvE (lv' := [(0, .ref (ad LH)), (1, .int (nI k))]) rfl ?_
  refine V_aload_n C dX0_growOlder_0 0 rfl ?_
  refine V_aload_n C dX0_growOlder_1 0 rfl ?_
  refine V_iload_n C dX0_growOlder_2 1 rfl ?_
  refine V_callV (r := (RX0, TX0, 6)) C [.int (nI k)] dX0_growOlder_3 m_X0_dustBehind k_X0_dustBehind tw_627 rfl rfl rfl hH rfl rfl (Nat.le_of_ble_eq_true rfl) ⟨by omega, by omega, by omega, by omega⟩ (c_dustBehind hl (by omega) hH k hdu (by omega)) (kr_some (x := .int (nI (min 100 (du + k)))) ?_) kx_no
  refine V_put (ci := 0) (k := 3) C dX0_growOlder_6 RX0 RX0 TX0 6 tyX0 tyX0_ok nmX0 fw_X0 rfl (by decide) tw_203 rfl (Or.inl rfl) rfl rfl rfl hH (Nat.le_of_ble_eq_true rfl) ?_
  refine V_wd (w' := wset w LH (.inr (0, [.ref sa, .int (nI sc), .int (nI dm), .int (nI (min 100 (du + k))), .int ce, .int (nI dy)]))) rfl ?_
  refine V_aload_n C dX0_growOlder_9 0 rfl ?_
  refine V_get (ci := 0) (k := 5) C dX0_growOlder_10 RX0 RX0 TX0 6 fw_X0 rfl (by decide) tw_206 rfl rfl wset_s rfl ?_
  refine V_iload_n C dX0_growOlder_13 1 rfl ?_
  refine V_icmpn_le (tgt := 30) C dX0_growOlder_14 (by decide) (by omega) (by omega) (fun hb1 => ?_) (fun hb1 => ?_)
  · skip
    refine V_aload_n C dX0_growOlder_30 0 rfl ?_
    refine V_callV (r := (RX0, TX0, 6)) C [] dX0_growOlder_31 m_X0_loseCertificate k_X0_loseCertificate tw_632 rfl rfl rfl wset_s rfl rfl (Nat.le_of_ble_eq_true rfl) ⟨by omega, by omega, by omega, by omega⟩ (c_loseCert hl (by omega) wset_s) (kr_none ?_) kx_no
    refine V_wd (w' := wset w LH (.inr (0, [.ref sa, .int (nI sc), .int (nI dm), .int (nI (min 100 (du + k))), .int (-1), .int (nI 0)]))) wset_wset ?_
    exact V_vret C dX0_growOlder_34 hr ⟨rfl, rfl, by rw [if_neg (by omega), show dy - k = 0 by omega]⟩ (by omega) (by omega)
  · skip
    refine V_aload_n C dX0_growOlder_17 0 rfl ?_
    refine V_dup C dX0_growOlder_18 rfl ?_
    refine V_get (ci := 0) (k := 5) C dX0_growOlder_19 RX0 RX0 TX0 6 fw_X0 rfl (by decide) tw_206 rfl rfl wset_s rfl ?_
    refine V_iload_n C dX0_growOlder_22 1 rfl ?_
    refine V_isubn C dX0_growOlder_23 (by omega) ?_
    refine V_put (ci := 0) (k := 5) C dX0_growOlder_24 RX0 RX0 TX0 6 tyX0 tyX0_ok nmX0 fw_X0 rfl (by decide) tw_206 rfl (Or.inl rfl) rfl rfl rfl wset_s (Nat.le_of_ble_eq_true rfl) ?_
    refine V_wd (w' := wset w LH (.inr (0, [.ref sa, .int (nI sc), .int (nI dm), .int (nI (min 100 (du + k))), .int ce, .int (nI (dy - k))]))) wset_wset ?_
    refine V_goto (tgt := 34) C dX0_growOlder_27 (by decide) ?_
    exact V_vret C dX0_growOlder_34 hr ⟨rfl, rfl, by rw [if_pos (by omega)]⟩ (by omega) (by omega)
set_option maxHeartbeats 4000000 in
theorem c_isFull {l : Launch} {D : va_G} {ba d : Nat} {ad : Adr} {w : Wd} (hl : l.stackTraces = false) (hd : 1 ≤ d) {LH LS : Lab} {sc dm du dy : Nat} {ce : Int32} {fs : Nat → Option Nat} (hH : w LH = some (.inr (0, [.ref (ad LS), .int (nI sc), .int (nI dm), .int (nI du), .int ce, .int (nI dy)]))) (hS : w LS = some (eQ RX4 6 fs)) (hsc : sc ≤ 6) : CT l yX0_isFull (wsO yX0_isFull cX0_isFull 1 (some .boolean)) d 0 0 D ba [.ref (ad LH)] ad w (isR (some (.int (nI (if sc < 6 then 0 else 1)))) ad w) noX := by
  refine CT_of RX0 rfl (by decide +kernel) hl (Nat.le_of_ble_eq_true rfl) ?_
  intro p e s m args below meth c C hr hnm
  refine V_lvE (lv' := [(0, .ref (ad LH))]) rfl ?_
  refine V_aload_n C dX0_isFull_0 0 rfl ?_
  refine V_get (ci := 0) (k := 1) C dX0_isFull_1 RX0 RX0 TX0 6 fw_X0 rfl (by decide) tw_198 rfl rfl hH rfl ?_
  refine V_aload_n C dX0_isFull_4 0 rfl ?_
  refine V_get (ci := 0) (k := 0) C dX0_isFull_5 RX0 RX0 TX0 6 fw_X0 rfl (by decide) tw_196 rfl rfl hH rfl ?_
  refine V_alen (v := nI 6) C dX0_isFull_8 rfl hS rfl ?_
  refine V_icmpn_lt (tgt := 16) C dX0_isFull_9 (by decide) (by omega) (by decide) (fun hb1 => ?_) (fun hb1 => ?_)
  · skip
    refine V_iconst (v := nI 0) C dX0_isFull_16 (by decide) ?_
    exact V_iret C .boolean dX0_isFull_17 hr rfl ⟨by rw [if_pos (by omega)], rfl, rfl⟩ (by omega) (by omega)
  · skip
    refine V_iconst (v := nI 1) C dX0_isFull_12 (by decide) ?_
    refine V_goto (tgt := 17) C dX0_isFull_13 (by decide) ?_
    exact V_iret C .boolean dX0_isFull_17 hr rfl ⟨by rw [if_neg (by omega)], rfl, rfl⟩ (by omega) (by omega)
set_option maxHeartbeats 4000000 in
theorem c_build {l : Launch} {D : va_G} {ba d : Nat} {ad : Adr} {w : Wd} (hl : l.stackTraces = false) (hd : 1 ≤ d) {LH LS : Lab} {sc dm du dy : Nat} {ce : Int32} {fs : Nat → Option Nat} (hH : w LH = some (.inr (0, [.ref (ad LS), .int (nI sc), .int (nI dm), .int (nI du), .int ce, .int (nI dy)]))) (hS : w LS = some (eQ RX4 6 fs)) {Lu : Lab} {us : List Value} (hu : w Lu = some (.inr (3, us))) (hHS : LH ≠ LS) (huS : Lu ≠ LS) (huH : Lu ≠ LH) (hsc : sc < 6) : CT l yX0_build (wsO yX0_build cX0_build 3 (some .int)) d 0 0 D ba [.ref (ad LH), .ref (ad Lu)] ad w (isR (some (.int (nI sc))) ad (wset (wset w LS (eQ RX4 6 (va_up fs sc (some (ad Lu))))) LH (.inr (0, [.ref (ad LS), .int (nI (sc + 1)), .int (nI dm), .int (nI du), .int ce, .int (nI dy)])))) noX := by
  refine CT_of RX0 rfl (by decide +kernel) hl (Nat.le_of_ble_eq_true rfl) ?_
  intro p e s m args below meth c C hr hnm
  refine V_lvE (lv' := [(0, .ref (ad LH)), (1, .ref (ad Lu))]) rfl ?_
  refine V_aload_n C dX0_build_0 0 rfl ?_
  refine V_get (ci := 0) (k := 1) C dX0_build_1 RX0 RX0 TX0 6 fw_X0 rfl (by decide) tw_198 rfl rfl hH rfl ?_
  refine V_istore_n C [(2, .int (nI sc)), (0, .ref (ad LH)), (1, .ref (ad Lu))] dX0_build_4 (by decide) rfl ?_
  refine V_iload_n C dX0_build_5 0 rfl ?_
  refine V_ifn_lt (tgt := 35) C dX0_build_6 (by decide) (by omega) ?_
  refine V_iload_n C dX0_build_9 0 rfl ?_
  refine V_aload_n C dX0_build_10 1 rfl ?_
  refine V_get (ci := 0) (k := 0) C dX0_build_11 RX0 RX0 TX0 6 fw_X0 rfl (by decide) tw_196 rfl rfl hH rfl ?_
  refine V_alen (v := nI 6) C dX0_build_14 rfl hS rfl ?_
  refine V_icmpn_ge (tgt := 35) C dX0_build_15 (by decide) (by omega) (by decide) (fun hb2 => by exfalso; omega) (fun hb2 => ?_)
  refine V_aload_n C dX0_build_18 1 rfl ?_
  refine V_get (ci := 0) (k := 0) C dX0_build_19 RX0 RX0 TX0 6 fw_X0 rfl (by decide) tw_196 rfl rfl hH rfl ?_
  refine V_iload_n C dX0_build_22 0 rfl ?_
  refine V_aload_n C dX0_build_23 2 rfl ?_
  refine V_aastn (r := (RX4, TX4, 2)) C dX0_build_24 rfl hS rfl hu rfl (by omega) (by decide) ?_
  refine V_wd (w' := wset w LS (eQ RX4 6 (va_up fs sc (some (ad Lu))))) rfl ?_
  refine V_aload_n C dX0_build_25 1 rfl ?_
  refine V_dup C dX0_build_26 rfl ?_
  refine V_get (ci := 0) (k := 1) C dX0_build_27 RX0 RX0 TX0 6 fw_X0 rfl (by decide) tw_198 rfl rfl ((wset_n hHS).trans hH) rfl ?_
  refine V_iconst (v := nI 1) C dX0_build_30 (by decide) ?_
  refine V_iaddn C dX0_build_31 ?_
  refine V_put (ci := 0) (k := 1) C dX0_build_32 RX0 RX0 TX0 6 tyX0 tyX0_ok nmX0 fw_X0 rfl (by decide) tw_198 rfl (Or.inl rfl) rfl rfl rfl ((wset_n hHS).trans hH) (Nat.le_of_ble_eq_true rfl) ?_
  refine V_wd (w' := wset (wset w LS (eQ RX4 6 (va_up fs sc (some (ad Lu))))) LH (.inr (0, [.ref (ad LS), .int (nI (sc + 1)), .int (nI dm), .int (nI du), .int ce, .int (nI dy)]))) rfl ?_
  refine V_iload_n C dX0_build_35 0 rfl ?_
  exact V_iret C .int dX0_build_36 hr rfl ⟨rfl, rfl, rfl⟩ (by omega) (by omega)
set_option maxHeartbeats 4000000 in
theorem c_hardUnder {l : Launch} {D : va_G} {ba d : Nat} {ad : Adr} {w : Wd} (hl : l.stackTraces = false) (hd : 1 ≤ d) {LU : Lab} {hb ds : Nat} (hU : w LU = some (.inr (3, [.int (nI hb), .int (nI ds)]))) (du : Nat) (hhb : hb ≤ 99) (hdu : du ≤ 100) : CT l yX4_hardnessUnder (wsO yX4_hardnessUnder cX4_hardnessUnder 2 (some .int)) d 0 0 D ba [.ref (ad LU), .int (nI du)] ad w (isR (some (.int (nI (hb - du / 5)))) ad w) noX := by
  refine CT_of RX4 rfl (by decide +kernel) hl (Nat.le_of_ble_eq_true rfl) ?_
  intro p e s m args below meth c C hr hnm
  refine V_lvE (lv' := [(0, .ref (ad LU)), (1, .int (nI du))]) rfl ?_
  refine V_iconst (v := nI 0) C dX4_hardnessUnder_0 (by decide) ?_
  refine V_aload_n C dX4_hardnessUnder_1 0 rfl ?_
  refine V_get (ci := 3) (k := 0) C dX4_hardnessUnder_2 RX4 RX4 TX4 2 fw_X4 rfl (by decide) tw_266 rfl rfl hU rfl ?_
  refine V_iload_n C dX4_hardnessUnder_5 1 rfl ?_
  refine V_iconst (v := nI 5) C dX4_hardnessUnder_6 (by decide) ?_
  refine V_idivn C dX4_hardnessUnder_7 (by omega) (by omega) (by omega) ?_
  refine V_isub C dX4_hardnessUnder_8 ?_
  refine V_max C dX4_hardnessUnder_9 tw_299 tw_300 tw_15 tw_301 (by omega) (by simp [Value.category]; try omega) (by omega) (by omega) ?_
  rw [show (if (nI 0) < (nI hb - nI (du / 5)) then (nI hb - nI (du / 5)) else (nI 0)) = (nI (hb - du / 5)) from nI_sub0 (by omega) (by omega)]
  exact V_iret C .int dX4_hardnessUnder_12 hr rfl ⟨rfl, rfl, rfl⟩ (by omega) (by omega)
abbrev eT (li co lc fi la : Int32) : Ent := .inr (4, [.int li, .int co, .int lc, .int fi, .int la])
def tLo (l li lc : Int32) : Int32 := if l < li then lc else lc + nI 1
def tFi (m fi : Int32) : Int32 := if fi = -1 then m else if fi ≤ m then fi else m
def tLa (m la : Int32) : Int32 := if m ≤ la then la else m
def okS (ea mo lt : Nat) (co lc fi la : Int32) : Nat := if co = 0 then 1 else if fi < nI ea then 0 else if nI lt < la then 0 else if nI mo < lc then 0 else 1
set_option maxHeartbeats 4000000 in
theorem c_tBegin {l : Launch} {D : va_G} {ba d : Nat} {ad : Adr} {w : Wd} (hl : l.stackTraces = false) (hd : 1 ≤ d) {LT : Lab} {li co lc fi la : Int32} (hT : w LT = some (eT li co lc fi la)) (q : Int32) : CT l yX5_begin (wsO yX5_begin cX5_begin 2 none) d 0 0 D ba [.ref (ad LT), .int q] ad w (isR none ad (wset w LT (eT q (nI 0) (nI 0) (-1) (-1)))) noX := by
  refine CT_of RX5 rfl (by decide +kernel) hl (Nat.le_of_ble_eq_true rfl) ?_
  intro p e s m args below meth c C hr hnm
  refine V_lvE (lv' := [(0, .ref (ad LT)), (1, .int q)]) rfl ?_
  refine V_aload_n C dX5_begin_0 0 rfl ?_
  refine V_iload_n C dX5_begin_1 1 rfl ?_
  refine V_put (ci := 4) (k := 0) C dX5_begin_2 RX5 RX5 TX5 5 tyX5 tyX5_ok nmX5 fw_X5 rfl (by decide) tw_35 rfl (Or.inl rfl) rfl rfl rfl hT (Nat.le_of_ble_eq_true rfl) ?_
  refine V_wd (w' := wset w LT (.inr (4, [.int q, .int co, .int lc, .int fi, .int la]))) rfl ?_
  refine V_aload_n C dX5_begin_5 0 rfl ?_
  refine V_iconst (v := nI 0) C dX5_begin_6 (by decide) ?_
  refine V_put (ci := 4) (k := 1) C dX5_begin_7 RX5 RX5 TX5 5 tyX5 tyX5_ok nmX5 fw_X5 rfl (by decide) tw_37 rfl (Or.inl rfl) rfl rfl rfl wset_s (Nat.le_of_ble_eq_true rfl) ?_
  refine V_wd (w' := wset w LT (.inr (4, [.int q, .int (nI 0), .int lc, .int fi, .int la]))) wset_wset ?_
  refine V_aload_n C dX5_begin_10 0 rfl ?_
  refine V_iconst (v := nI 0) C dX5_begin_11 (by decide) ?_
  refine V_put (ci := 4) (k := 2) C dX5_begin_12 RX5 RX5 TX5 5 tyX5 tyX5_ok nmX5 fw_X5 rfl (by decide) tw_39 rfl (Or.inl rfl) rfl rfl rfl wset_s (Nat.le_of_ble_eq_true rfl) ?_
  refine V_wd (w' := wset w LT (.inr (4, [.int q, .int (nI 0), .int (nI 0), .int fi, .int la]))) wset_wset ?_
  refine V_aload_n C dX5_begin_15 0 rfl ?_
  refine V_iconst (v := -1) C dX5_begin_16 (by decide) ?_
  refine V_put (ci := 4) (k := 3) C dX5_begin_17 RX5 RX5 TX5 5 tyX5 tyX5_ok nmX5 fw_X5 rfl (by decide) tw_43 rfl (Or.inl rfl) rfl rfl rfl wset_s (Nat.le_of_ble_eq_true rfl) ?_
  refine V_wd (w' := wset w LT (.inr (4, [.int q, .int (nI 0), .int (nI 0), .int (-1), .int la]))) wset_wset ?_
  refine V_aload_n C dX5_begin_20 0 rfl ?_
  refine V_iconst (v := -1) C dX5_begin_21 (by decide) ?_
  refine V_put (ci := 4) (k := 4) C dX5_begin_22 RX5 RX5 TX5 5 tyX5 tyX5_ok nmX5 fw_X5 rfl (by decide) tw_46 rfl (Or.inl rfl) rfl rfl rfl wset_s (Nat.le_of_ble_eq_true rfl) ?_
  refine V_wd (w' := wset w LT (.inr (4, [.int q, .int (nI 0), .int (nI 0), .int (-1), .int (-1)]))) wset_wset ?_
  exact V_vret C dX5_begin_25 hr ⟨rfl, rfl, rfl⟩ (by omega) (by omega)
set_option maxHeartbeats 4000000 in
theorem c_tHear {l : Launch} {D : va_G} {ba d : Nat} {ad : Adr} {w : Wd} (hl : l.stackTraces = false) (hd : 1 ≤ d) {LT : Lab} {li co lc fi la : Int32} (hT : w LT = some (eT li co lc fi la)) (m1 l1 : Int32) : CT l yX5_hear (wsO yX5_hear cX5_hear 3 none) d 0 0 D ba [.ref (ad LT), .int m1, .int l1] ad w (isR none ad (wset w LT (eT li (co + nI 1) (tLo l1 li lc) (tFi m1 fi) (tLa m1 la)))) noX := by
  refine CT_of RX5 rfl (by decide +kernel) hl (Nat.le_of_ble_eq_true rfl) ?_
  intro p e s m args below meth c C hr hnm
  refine V_lvE (lv' := [(0, .ref (ad LT)), (1, .int m1), (2, .int l1)]) rfl ?_
  refine V_aload_n C dX5_hear_0 0 rfl ?_
  refine V_dup C dX5_hear_1 rfl ?_
  refine V_get (ci := 4) (k := 1) C dX5_hear_2 RX5 RX5 TX5 5 fw_X5 rfl (by decide) tw_37 rfl rfl hT rfl ?_
  refine V_iconst (v := nI 1) C dX5_hear_5 (by decide) ?_
  refine V_iadd C dX5_hear_6 ?_
  refine V_put (ci := 4) (k := 1) C dX5_hear_7 RX5 RX5 TX5 5 tyX5 tyX5_ok nmX5 fw_X5 rfl (by decide) tw_37 rfl (Or.inl rfl) rfl rfl rfl hT (Nat.le_of_ble_eq_true rfl) ?_
  refine V_wd (w' := wset w LT (.inr (4, [.int li, .int (co + (nI 1)), .int lc, .int fi, .int la]))) rfl ?_
  refine V_iload_n C dX5_hear_10 2 rfl ?_
  refine V_aload_n C dX5_hear_11 0 rfl ?_
  refine V_get (ci := 4) (k := 0) C dX5_hear_12 RX5 RX5 TX5 5 fw_X5 rfl (by decide) tw_35 rfl rfl wset_s rfl ?_
  refine V_icmp_lt (tgt := 28) C dX5_hear_15 (by decide) (fun hb1 => ?_) (fun hb1 => ?_)
  · skip
    refine V_aload_n C dX5_hear_28 0 rfl ?_
    refine V_get (ci := 4) (k := 3) C dX5_hear_29 RX5 RX5 TX5 5 fw_X5 rfl (by decide) tw_43 rfl rfl wset_s rfl ?_
    refine V_iconst (v := -1) C dX5_hear_32 (by decide) ?_
    refine V_icmp_eq (tgt := 44) C dX5_hear_33 (by decide) (fun hb2 => ?_) (fun hb2 => ?_)
    · skip
      refine V_aload_n C dX5_hear_44 0 rfl ?_
      refine V_iload_n C dX5_hear_45 1 rfl ?_
      refine V_put (ci := 4) (k := 3) C dX5_hear_46 RX5 RX5 TX5 5 tyX5 tyX5_ok nmX5 fw_X5 rfl (by decide) tw_43 rfl (Or.inl rfl) rfl rfl rfl wset_s (Nat.le_of_ble_eq_true rfl) ?_
      refine V_wd (w' := wset w LT (.inr (4, [.int li, .int (co + (nI 1)), .int lc, .int m1, .int la]))) wset_wset ?_
      refine V_iload_n C dX5_hear_49 1 rfl ?_
      refine V_aload_n C dX5_hear_50 0 rfl ?_
      refine V_get (ci := 4) (k := 4) C dX5_hear_51 RX5 RX5 TX5 5 fw_X5 rfl (by decide) tw_46 rfl rfl wset_s rfl ?_
      refine V_icmp_le (tgt := 62) C dX5_hear_54 (by decide) (fun hb3 => ?_) (fun hb3 => ?_)
      · skip
        exact V_vret C dX5_hear_62 hr ⟨rfl, rfl, by simp only [tLo, tFi, tLa]; rw [if_pos hb1, if_pos hb2, if_pos hb3]⟩ (by omega) (by omega)
      · skip
        refine V_aload_n C dX5_hear_57 0 rfl ?_
        refine V_iload_n C dX5_hear_58 1 rfl ?_
        refine V_put (ci := 4) (k := 4) C dX5_hear_59 RX5 RX5 TX5 5 tyX5 tyX5_ok nmX5 fw_X5 rfl (by decide) tw_46 rfl (Or.inl rfl) rfl rfl rfl wset_s (Nat.le_of_ble_eq_true rfl) ?_
        refine V_wd (w' := wset w LT (.inr (4, [.int li, .int (co + (nI 1)), .int lc, .int m1, .int m1]))) wset_wset ?_
        exact V_vret C dX5_hear_62 hr ⟨rfl, rfl, by simp only [tLo, tFi, tLa]; rw [if_pos hb1, if_pos hb2, if_neg hb3]⟩ (by omega) (by omega)
    · skip
      refine V_iload_n C dX5_hear_36 1 rfl ?_
      refine V_aload_n C dX5_hear_37 0 rfl ?_
      refine V_get (ci := 4) (k := 3) C dX5_hear_38 RX5 RX5 TX5 5 fw_X5 rfl (by decide) tw_43 rfl rfl wset_s rfl ?_
      refine V_icmp_ge (tgt := 49) C dX5_hear_41 (by decide) (fun hb4 => ?_) (fun hb4 => ?_)
      · skip
        refine V_iload_n C dX5_hear_49 1 rfl ?_
        refine V_aload_n C dX5_hear_50 0 rfl ?_
        refine V_get (ci := 4) (k := 4) C dX5_hear_51 RX5 RX5 TX5 5 fw_X5 rfl (by decide) tw_46 rfl rfl wset_s rfl ?_
        refine V_icmp_le (tgt := 62) C dX5_hear_54 (by decide) (fun hb5 => ?_) (fun hb5 => ?_)
        · skip
          exact V_vret C dX5_hear_62 hr ⟨rfl, rfl, by simp only [tLo, tFi, tLa]; rw [if_pos hb1, if_neg hb2, if_pos hb4, if_pos hb5]⟩ (by omega) (by omega)
        · skip
          refine V_aload_n C dX5_hear_57 0 rfl ?_
          refine V_iload_n C dX5_hear_58 1 rfl ?_
          refine V_put (ci := 4) (k := 4) C dX5_hear_59 RX5 RX5 TX5 5 tyX5 tyX5_ok nmX5 fw_X5 rfl (by decide) tw_46 rfl (Or.inl rfl) rfl rfl rfl wset_s (Nat.le_of_ble_eq_true rfl) ?_
          refine V_wd (w' := wset w LT (.inr (4, [.int li, .int (co + (nI 1)), .int lc, .int fi, .int m1]))) wset_wset ?_
          exact V_vret C dX5_hear_62 hr ⟨rfl, rfl, by simp only [tLo, tFi, tLa]; rw [if_pos hb1, if_neg hb2, if_pos hb4, if_neg hb5]⟩ (by omega) (by omega)
      · skip
        refine V_aload_n C dX5_hear_44 0 rfl ?_
        refine V_iload_n C dX5_hear_45 1 rfl ?_
        refine V_put (ci := 4) (k := 3) C dX5_hear_46 RX5 RX5 TX5 5 tyX5 tyX5_ok nmX5 fw_X5 rfl (by decide) tw_43 rfl (Or.inl rfl) rfl rfl rfl wset_s (Nat.le_of_ble_eq_true rfl) ?_
        refine V_wd (w' := wset w LT (.inr (4, [.int li, .int (co + (nI 1)), .int lc, .int m1, .int la]))) wset_wset ?_
        refine V_iload_n C dX5_hear_49 1 rfl ?_
        refine V_aload_n C dX5_hear_50 0 rfl ?_
        refine V_get (ci := 4) (k := 4) C dX5_hear_51 RX5 RX5 TX5 5 fw_X5 rfl (by decide) tw_46 rfl rfl wset_s rfl ?_
        refine V_icmp_le (tgt := 62) C dX5_hear_54 (by decide) (fun hb6 => ?_) (fun hb6 => ?_)
        · skip
          exact V_vret C dX5_hear_62 hr ⟨rfl, rfl, by simp only [tLo, tFi, tLa]; rw [if_pos hb1, if_neg hb2, if_neg hb4, if_pos hb6]⟩ (by omega) (by omega)
        · skip
          refine V_aload_n C dX5_hear_57 0 rfl ?_
          refine V_iload_n C dX5_hear_58 1 rfl ?_
          refine V_put (ci := 4) (k := 4) C dX5_hear_59 RX5 RX5 TX5 5 tyX5 tyX5_ok nmX5 fw_X5 rfl (by decide) tw_46 rfl (Or.inl rfl) rfl rfl rfl wset_s (Nat.le_of_ble_eq_true rfl) ?_
          refine V_wd (w' := wset w LT (.inr (4, [.int li, .int (co + (nI 1)), .int lc, .int m1, .int m1]))) wset_wset ?_
          exact V_vret C dX5_hear_62 hr ⟨rfl, rfl, by simp only [tLo, tFi, tLa]; rw [if_pos hb1, if_neg hb2, if_neg hb4, if_neg hb6]⟩ (by omega) (by omega)
  · skip
    refine V_aload_n C dX5_hear_18 0 rfl ?_
    refine V_dup C dX5_hear_19 rfl ?_
    refine V_get (ci := 4) (k := 2) C dX5_hear_20 RX5 RX5 TX5 5 fw_X5 rfl (by decide) tw_39 rfl rfl wset_s rfl ?_
    refine V_iconst (v := nI 1) C dX5_hear_23 (by decide) ?_
    refine V_iadd C dX5_hear_24 ?_
    refine V_put (ci := 4) (k := 2) C dX5_hear_25 RX5 RX5 TX5 5 tyX5 tyX5_ok nmX5 fw_X5 rfl (by decide) tw_39 rfl (Or.inl rfl) rfl rfl rfl wset_s (Nat.le_of_ble_eq_true rfl) ?_
    refine V_wd (w' := wset w LT (.inr (4, [.int li, .int (co + (nI 1)), .int (lc + (nI 1)), .int fi, .int la]))) wset_wset ?_
    refine V_aload_n C dX5_hear_28 0 rfl ?_
    refine V_get (ci := 4) (k := 3) C dX5_hear_29 RX5 RX5 TX5 5 fw_X5 rfl (by decide) tw_43 rfl rfl wset_s rfl ?_
    refine V_iconst (v := -1) C dX5_hear_32 (by decide) ?_
    refine V_icmp_eq (tgt := 44) C dX5_hear_33 (by decide) (fun hb7 => ?_) (fun hb7 => ?_)
    · skip
      refine V_aload_n C dX5_hear_44 0 rfl ?_
      refine V_iload_n C dX5_hear_45 1 rfl ?_
      refine V_put (ci := 4) (k := 3) C dX5_hear_46 RX5 RX5 TX5 5 tyX5 tyX5_ok nmX5 fw_X5 rfl (by decide) tw_43 rfl (Or.inl rfl) rfl rfl rfl wset_s (Nat.le_of_ble_eq_true rfl) ?_
      refine V_wd (w' := wset w LT (.inr (4, [.int li, .int (co + (nI 1)), .int (lc + (nI 1)), .int m1, .int la]))) wset_wset ?_
      refine V_iload_n C dX5_hear_49 1 rfl ?_
      refine V_aload_n C dX5_hear_50 0 rfl ?_
      refine V_get (ci := 4) (k := 4) C dX5_hear_51 RX5 RX5 TX5 5 fw_X5 rfl (by decide) tw_46 rfl rfl wset_s rfl ?_
      refine V_icmp_le (tgt := 62) C dX5_hear_54 (by decide) (fun hb8 => ?_) (fun hb8 => ?_)
      · skip
        exact V_vret C dX5_hear_62 hr ⟨rfl, rfl, by simp only [tLo, tFi, tLa]; rw [if_neg hb1, if_pos hb7, if_pos hb8]⟩ (by omega) (by omega)
      · skip
        refine V_aload_n C dX5_hear_57 0 rfl ?_
        refine V_iload_n C dX5_hear_58 1 rfl ?_
        refine V_put (ci := 4) (k := 4) C dX5_hear_59 RX5 RX5 TX5 5 tyX5 tyX5_ok nmX5 fw_X5 rfl (by decide) tw_46 rfl (Or.inl rfl) rfl rfl rfl wset_s (Nat.le_of_ble_eq_true rfl) ?_
        refine V_wd (w' := wset w LT (.inr (4, [.int li, .int (co + (nI 1)), .int (lc + (nI 1)), .int m1, .int m1]))) wset_wset ?_
        exact V_vret C dX5_hear_62 hr ⟨rfl, rfl, by simp only [tLo, tFi, tLa]; rw [if_neg hb1, if_pos hb7, if_neg hb8]⟩ (by omega) (by omega)
    · skip
      refine V_iload_n C dX5_hear_36 1 rfl ?_
      refine V_aload_n C dX5_hear_37 0 rfl ?_
      refine V_get (ci := 4) (k := 3) C dX5_hear_38 RX5 RX5 TX5 5 fw_X5 rfl (by decide) tw_43 rfl rfl wset_s rfl ?_
      refine V_icmp_ge (tgt := 49) C dX5_hear_41 (by decide) (fun hb9 => ?_) (fun hb9 => ?_)
      · skip
        refine V_iload_n C dX5_hear_49 1 rfl ?_
        refine V_aload_n C dX5_hear_50 0 rfl ?_
        refine V_get (ci := 4) (k := 4) C dX5_hear_51 RX5 RX5 TX5 5 fw_X5 rfl (by decide) tw_46 rfl rfl wset_s rfl ?_
        refine V_icmp_le (tgt := 62) C dX5_hear_54 (by decide) (fun hb10 => ?_) (fun hb10 => ?_)
        · skip
          exact V_vret C dX5_hear_62 hr ⟨rfl, rfl, by simp only [tLo, tFi, tLa]; rw [if_neg hb1, if_neg hb7, if_pos hb9, if_pos hb10]⟩ (by omega) (by omega)
        · skip
          refine V_aload_n C dX5_hear_57 0 rfl ?_
          refine V_iload_n C dX5_hear_58 1 rfl ?_
          refine V_put (ci := 4) (k := 4) C dX5_hear_59 RX5 RX5 TX5 5 tyX5 tyX5_ok nmX5 fw_X5 rfl (by decide) tw_46 rfl (Or.inl rfl) rfl rfl rfl wset_s (Nat.le_of_ble_eq_true rfl) ?_
          refine V_wd (w' := wset w LT (.inr (4, [.int li, .int (co + (nI 1)), .int (lc + (nI 1)), .int fi, .int m1]))) wset_wset ?_
          exact V_vret C dX5_hear_62 hr ⟨rfl, rfl, by simp only [tLo, tFi, tLa]; rw [if_neg hb1, if_neg hb7, if_pos hb9, if_neg hb10]⟩ (by omega) (by omega)
      · skip
        refine V_aload_n C dX5_hear_44 0 rfl ?_
        refine V_iload_n C dX5_hear_45 1 rfl ?_
        refine V_put (ci := 4) (k := 3) C dX5_hear_46 RX5 RX5 TX5 5 tyX5 tyX5_ok nmX5 fw_X5 rfl (by decide) tw_43 rfl (Or.inl rfl) rfl rfl rfl wset_s (Nat.le_of_ble_eq_true rfl) ?_
        refine V_wd (w' := wset w LT (.inr (4, [.int li, .int (co + (nI 1)), .int (lc + (nI 1)), .int m1, .int la]))) wset_wset ?_
        refine V_iload_n C dX5_hear_49 1 rfl ?_
        refine V_aload_n C dX5_hear_50 0 rfl ?_
        refine V_get (ci := 4) (k := 4) C dX5_hear_51 RX5 RX5 TX5 5 fw_X5 rfl (by decide) tw_46 rfl rfl wset_s rfl ?_
        refine V_icmp_le (tgt := 62) C dX5_hear_54 (by decide) (fun hb11 => ?_) (fun hb11 => ?_)
        · skip
          exact V_vret C dX5_hear_62 hr ⟨rfl, rfl, by simp only [tLo, tFi, tLa]; rw [if_neg hb1, if_neg hb7, if_neg hb9, if_pos hb11]⟩ (by omega) (by omega)
        · skip
          refine V_aload_n C dX5_hear_57 0 rfl ?_
          refine V_iload_n C dX5_hear_58 1 rfl ?_
          refine V_put (ci := 4) (k := 4) C dX5_hear_59 RX5 RX5 TX5 5 tyX5 tyX5_ok nmX5 fw_X5 rfl (by decide) tw_46 rfl (Or.inl rfl) rfl rfl rfl wset_s (Nat.le_of_ble_eq_true rfl) ?_
          refine V_wd (w' := wset w LT (.inr (4, [.int li, .int (co + (nI 1)), .int (lc + (nI 1)), .int m1, .int m1]))) wset_wset ?_
          exact V_vret C dX5_hear_62 hr ⟨rfl, rfl, by simp only [tLo, tFi, tLa]; rw [if_neg hb1, if_neg hb7, if_neg hb9, if_neg hb11]⟩ (by omega) (by omega)
set_option maxHeartbeats 4000000 in
theorem c_allows {l : Launch} {D : va_G} {ba d : Nat} {ad : Adr} {w : Wd} (hl : l.stackTraces = false) (hd : 1 ≤ d) {LT LD : Lab} {tl co lc fi la : Int32} {ea li mo lt dy : Nat} (hT : w LT = some (eT tl co lc fi la)) (hD : w LD = some (.inr (2, [.int (nI ea), .int (nI li), .int (nI mo), .int (nI lt), .int (nI dy)]))) : CT l yX3_allows (wsO yX3_allows cX3_allows 2 (some .boolean)) d 0 0 D ba [.ref (ad LD), .ref (ad LT)] ad w (isR (some (.int (nI (okS ea mo lt co lc fi la)))) ad w) noX := by
  refine CT_of RX3 rfl (by decide +kernel) hl (Nat.le_of_ble_eq_true rfl) ?_
  intro p e s m args below meth c C hr hnm
  refine V_lvE (lv' := [(0, .ref (ad LD)), (1, .ref (ad LT))]) rfl ?_
  refine V_aload_n C dX3_allows_0 1 rfl ?_
  refine V_getN (ci := 4) (k := 1) C dX3_allows_1 RX5 RX5 RX6 TX5 5 fw_X5 rfl (by decide) tw_36 rfl rfl hT rfl ?_
  refine V_if_ne (tgt := 9) C dX3_allows_4 (by decide) (fun hb1 => ?_) (fun hb1 => ?_)
  · skip
    refine V_aload_n C dX3_allows_9 1 rfl ?_
    refine V_getN (ci := 4) (k := 3) C dX3_allows_10 RX5 RX5 RX6 TX5 5 fw_X5 rfl (by decide) tw_42 rfl rfl hT rfl ?_
    refine V_aload_n C dX3_allows_13 0 rfl ?_
    refine V_get (ci := 2) (k := 0) C dX3_allows_14 RX3 RX3 TX3 5 fw_X3 rfl (by decide) tw_582 rfl rfl hD rfl ?_
    refine V_icmp_lt (tgt := 46) C dX3_allows_17 (by decide) (fun hb2 => ?_) (fun hb2 => ?_)
    · skip
      refine V_iconst (v := nI 0) C dX3_allows_46 (by decide) ?_
      exact V_iret C .boolean dX3_allows_47 hr rfl ⟨by rw [okS, if_neg hb1, if_pos hb2], rfl, rfl⟩ (by omega) (by omega)
    · skip
      refine V_aload_n C dX3_allows_20 1 rfl ?_
      refine V_getN (ci := 4) (k := 4) C dX3_allows_21 RX5 RX5 RX6 TX5 5 fw_X5 rfl (by decide) tw_45 rfl rfl hT rfl ?_
      refine V_aload_n C dX3_allows_24 0 rfl ?_
      refine V_get (ci := 2) (k := 3) C dX3_allows_25 RX3 RX3 TX3 5 fw_X3 rfl (by decide) tw_586 rfl rfl hD rfl ?_
      refine V_icmp_gt (tgt := 46) C dX3_allows_28 (by decide) (fun hb3 => ?_) (fun hb3 => ?_)
      · skip
        refine V_iconst (v := nI 0) C dX3_allows_46 (by decide) ?_
        exact V_iret C .boolean dX3_allows_47 hr rfl ⟨by rw [okS, if_neg hb1, if_neg hb2, if_pos hb3], rfl, rfl⟩ (by omega) (by omega)
      · skip
        refine V_aload_n C dX3_allows_31 1 rfl ?_
        refine V_getN (ci := 4) (k := 2) C dX3_allows_32 RX5 RX5 RX6 TX5 5 fw_X5 rfl (by decide) tw_40 rfl rfl hT rfl ?_
        refine V_aload_n C dX3_allows_35 0 rfl ?_
        refine V_get (ci := 2) (k := 2) C dX3_allows_36 RX3 RX3 TX3 5 fw_X3 rfl (by decide) tw_585 rfl rfl hD rfl ?_
        refine V_icmp_gt (tgt := 46) C dX3_allows_39 (by decide) (fun hb4 => ?_) (fun hb4 => ?_)
        · skip
          refine V_iconst (v := nI 0) C dX3_allows_46 (by decide) ?_
          exact V_iret C .boolean dX3_allows_47 hr rfl ⟨by rw [okS, if_neg hb1, if_neg hb2, if_neg hb3, if_pos hb4], rfl, rfl⟩ (by omega) (by omega)
        · skip
          refine V_iconst (v := nI 1) C dX3_allows_42 (by decide) ?_
          refine V_goto (tgt := 47) C dX3_allows_43 (by decide) ?_
          exact V_iret C .boolean dX3_allows_47 hr rfl ⟨by rw [okS, if_neg hb1, if_neg hb2, if_neg hb3, if_neg hb4], rfl, rfl⟩ (by omega) (by omega)
  · skip
    refine V_iconst (v := nI 1) C dX3_allows_7 (by decide) ?_
    exact V_iret C .boolean dX3_allows_8 hr rfl ⟨by rw [okS, if_pos hb1], rfl, rfl⟩ (by omega) (by omega)
def fillF (x : Int32) (f : Nat → Int32) (k : Nat) : Nat → Int32 := fun j => if j < k then x else f j
theorem fillF_0 {x : Int32} {f : Nat → Int32} : fillF x f 0 = f := by funext j; simp [fillF]
theorem fillF_s {x : Int32} {f : Nat → Int32} {k : Nat} : upd (fillF x f k) k x = fillF x f (k + 1) := by
  funext j
  by_cases h : j = k
  · subst h; simp [upd, fillF]
  · simp only [upd, if_neg h, fillF]
    by_cases h2 : j < k
    · rw [if_pos h2, if_pos (by omega)]
    · rw [if_neg h2, if_neg (by omega)]
theorem wset_id {w : Wd} {L : Lab} {e : Ent} (h : w L = some e) : wset w L e = w := by
  funext L'
  by_cases h' : L' = L
  · subst h'; rw [wset_s, h]
  · rw [wset_n h']
set_option maxHeartbeats 4000000 in
theorem lp_fill {p : Program} {l : Launch} {e : Env} {s : State} {m : MethodId} {args : Array Value} {below : List Frame} {meth : Method} {c : Code} {D : va_G} {ba d mc ms : Nat} {ad : Adr} {w : Wd} {QR : Option Value → Adr → Wd → Prop} {QX : String → Adr → Wd → Prop} (C : Cx p l s m args meth c D ba RJ7 cJ7_fill_53178 4 [] d) (hl : l.stackTraces = false) (hr : meth.sig.returnType = none) (hd : 1 ≤ d) {LF : Lab} {f : Nat → Int32} {x : Int32} {n0 : Nat} (h0 : n0 ≤ 100000) (hq : QR none ad (wset w LF (eI n0 (fillF x f n0)))) : ∀ (n : Nat) (k : Nat), k + n = n0 → V p l e s m args below meth c D ba d mc ms (MO D ba QR QX below args s mc ms) 4 ad (wset w LF (eI n0 (fillF x f k))) 5 [(3, .int (nI n0)), (2, .int (nI k)), (0, .ref (ad LF)), (1, .int x)] [] 0 0 := by
  intro n
  induction n with
  | zero =>
    intro k hk
    refine V_iload_n C dJ7_fill_53178_5 1 rfl ?_
    refine V_iload_n C dJ7_fill_53178_6 0 rfl ?_
    refine V_icmpn_ge (tgt := 20) C dJ7_fill_53178_7 (by decide) (by omega) (by omega) (fun hb1 => ?_) (fun hb1 => by exfalso; omega)
    exact V_vret C dJ7_fill_53178_20 hr (by rw [show k = n0 by omega]; exact hq) (by omega) (by omega)
  | succ n ih =>
    intro k hk
    refine V_iload_n C dJ7_fill_53178_5 1 rfl ?_
    refine V_iload_n C dJ7_fill_53178_6 0 rfl ?_
    refine V_icmpn_ge (tgt := 20) C dJ7_fill_53178_7 (by decide) (by omega) (by omega) (fun hb1 => by exfalso; omega) (fun hb1 => ?_)
    refine V_aload_n C dJ7_fill_53178_10 2 rfl ?_
    refine V_iload_n C dJ7_fill_53178_11 1 rfl ?_
    refine V_iload_n C dJ7_fill_53178_12 3 rfl ?_
    refine V_iastn C dJ7_fill_53178_13 rfl wset_s (by omega) (by omega) ?_
    refine V_wd (w' := wset (wset w LF (eI n0 (fillF x f k))) LF (eI n0 (upd (fillF x f k) k x))) rfl ?_
    refine V_iincn C [(2, .int (nI (k + 1))), (3, .int (nI n0)), (0, .ref (ad LF)), (1, .int x)] dJ7_fill_53178_14 1 rfl (by decide) rfl ?_
    refine V_goto (tgt := 5) C dJ7_fill_53178_17 (by decide) ?_
    refine V_wd (w' := wset w LF (eI n0 (fillF x f (k + 1)))) (by rw [wset_wset, fillF_s]) ?_
    refine V_lv [1, 0, 2, 3] rfl ?_
    exact ih (k + 1) (by omega)
set_option maxHeartbeats 4000000 in
theorem c_fill {l : Launch} {D : va_G} {ba d : Nat} {ad : Adr} {w : Wd} (hl : l.stackTraces = false) (hd : 1 ≤ d) {LF : Lab} {f : Nat → Int32} {n0 : Nat} (hF : w LF = some (eI n0 f)) (h0 : n0 ≤ 100000) (x : Int32) : CT l yJ7_fill_53178 (wsO yJ7_fill_53178 cJ7_fill_53178 4 none) d 0 0 D ba [.ref (ad LF), .int x] ad w (isR none ad (wset w LF (eI n0 (fillF x f n0)))) noX := by
  refine CT_of RJ7 rfl (by decide +kernel) hl (Nat.le_of_ble_eq_true rfl) ?_
  intro p e s m args below meth c C hr hnm
  refine V_lvE (lv' := [(0, .ref (ad LF)), (1, .int x)]) rfl ?_
  refine V_iconst (v := nI 0) C dJ7_fill_53178_0 (by decide) ?_
  refine V_istore_n C [(2, .int (nI 0)), (0, .ref (ad LF)), (1, .int x)] dJ7_fill_53178_1 (by decide) rfl ?_
  refine V_aload_n C dJ7_fill_53178_2 1 rfl ?_
  refine V_alen (v := nI n0) C dJ7_fill_53178_3 rfl hF rfl ?_
  refine V_istore_n C [(3, .int (nI n0)), (2, .int (nI 0)), (0, .ref (ad LF)), (1, .int x)] dJ7_fill_53178_4 (by decide) rfl ?_
  refine V_wd (w' := wset w LF (eI n0 (fillF x f 0))) (by rw [fillF_0, wset_id hF]) ?_
  refine V_lv [0, 1, 2, 3] rfl ?_
  exact lp_fill C hl hr (by omega) h0 ⟨rfl, rfl, rfl⟩ n0 0 (by omega)
set_option maxHeartbeats 4000000 in
theorem c_lBegin {l : Launch} {D : va_G} {ba d : Nat} {ad : Adr} {w : Wd} (hl : l.stackTraces = false) (hd : 2 ≤ d) {LL LA : Lab} {f : Nat → Int32} (hL : w LL = some (.inr (1, [.ref (ad LA)]))) (hA : w LA = some (eI 501 f))  : CT l yX2_begin (wsO yX2_begin cX2_begin 1 none) d 0 0 D ba [.ref (ad LL)] ad w (isR none ad (wset w LA (eI 501 (fillF (nI 0) f 501)))) noX := by
  refine CT_of RX2 rfl (by decide +kernel) hl (Nat.le_of_ble_eq_true rfl) ?_
  intro p e s m args below meth c C hr hnm
  refine V_lvE (lv' := [(0, .ref (ad LL))]) rfl ?_
  refine V_aload_n C dX2_begin_0 0 rfl ?_
  refine V_get (ci := 1) (k := 0) C dX2_begin_1 RX2 RX2 TX2 1 fw_X2 rfl (by decide) tw_65 rfl rfl hL rfl ?_
  refine V_iconst (v := nI 0) C dX2_begin_4 (by decide) ?_
  refine V_callS C [.ref (ad LA), .int (nI 0)] dX2_begin_5 m_J7_fill_53178 k_J7_fill_53178 tw_380 rfl rfl (Nat.le_of_ble_eq_true rfl) ⟨by omega, by omega, by omega, by omega⟩ (c_fill hl (by omega) hA (by decide) (nI 0)) (kr_none ?_) kx_no
  exact V_vret C dX2_begin_8 hr ⟨rfl, rfl, rfl⟩ (by omega) (by omega)
set_option maxHeartbeats 4000000 in
theorem c_lHear {l : Launch} {D : va_G} {ba d : Nat} {ad : Adr} {w : Wd} (hl : l.stackTraces = false) (hd : 1 ≤ d) {LL LA : Lab} {f : Nat → Int32} (hL : w LL = some (.inr (1, [.ref (ad LA)]))) (hA : w LA = some (eI 501 f)) (m1 : Nat) (l1 : Int32) (hm : m1 ≤ 3000) : CT l yX2_hear (wsO yX2_hear cX2_hear 4 none) d 0 0 D ba [.ref (ad LL), .int (nI m1), .int l1] ad w (isR none ad (wset w LA (eI 501 (upd f (m1 / 6) (f (m1 / 6) + l1))))) noX := by
  refine CT_of RX2 rfl (by decide +kernel) hl (Nat.le_of_ble_eq_true rfl) ?_
  intro p e s m args below meth c C hr hnm
  refine V_lvE (lv' := [(0, .ref (ad LL)), (1, .int (nI m1)), (2, .int l1)]) rfl ?_
  refine V_iload_n C dX2_hear_0 1 rfl ?_
  refine V_bipush (v := nI 6) C dX2_hear_1 (by decide) ?_
  refine V_idivn C dX2_hear_3 (by omega) (by omega) (by omega) ?_
  refine V_istore_n C [(3, .int (nI (m1 / 6))), (0, .ref (ad LL)), (1, .int (nI m1)), (2, .int l1)] dX2_hear_4 (by decide) rfl ?_
  refine V_iload_n C dX2_hear_5 0 rfl ?_
  refine V_ifn_lt (tgt := 28) C dX2_hear_6 (by decide) (by omega) ?_
  refine V_iload_n C dX2_hear_9 0 rfl ?_
  refine V_aload_n C dX2_hear_10 1 rfl ?_
  refine V_get (ci := 1) (k := 0) C dX2_hear_11 RX2 RX2 TX2 1 fw_X2 rfl (by decide) tw_65 rfl rfl hL rfl ?_
  refine V_alen (v := nI 501) C dX2_hear_14 rfl hA rfl ?_
  refine V_icmpn_ge (tgt := 28) C dX2_hear_15 (by decide) (by omega) (by decide) (fun hb2 => by exfalso; omega) (fun hb2 => ?_)
  refine V_aload_n C dX2_hear_18 1 rfl ?_
  refine V_get (ci := 1) (k := 0) C dX2_hear_19 RX2 RX2 TX2 1 fw_X2 rfl (by decide) tw_65 rfl rfl hL rfl ?_
  refine V_iload_n C dX2_hear_22 0 rfl ?_
  refine V_dup2 C dX2_hear_23 rfl rfl ?_
  refine V_ialdn (v := (f (m1 / 6))) C dX2_hear_24 rfl hA (by omega) (by decide) rfl ?_
  refine V_iload_n C dX2_hear_25 3 rfl ?_
  refine V_iadd C dX2_hear_26 ?_
  refine V_iastn C dX2_hear_27 rfl hA (by omega) (by decide) ?_
  refine V_wd (w' := wset w LA (eI 501 (upd f (m1 / 6) ((f (m1 / 6)) + l1)))) rfl ?_
  exact V_vret C dX2_hear_28 hr ⟨rfl, rfl, rfl⟩ (by omega) (by omega)
set_option maxHeartbeats 4000000 in
theorem c_addedAt {l : Launch} {D : va_G} {ba d : Nat} {ad : Adr} {w : Wd} (hl : l.stackTraces = false) (hd : 1 ≤ d) {LL LA : Lab} {f : Nat → Int32} (hL : w LL = some (.inr (1, [.ref (ad LA)]))) (hA : w LA = some (eI 501 f)) (m1 : Nat) (hm : m1 ≤ 3000) : CT l yX2_addedAt (wsO yX2_addedAt cX2_addedAt 4 (some .int)) d 0 0 D ba [.ref (ad LL), .int (nI m1)] ad w (isR (some (.int (if m1 % 6 = 0 then f (m1 / 6) else nI 0))) ad w) noX := by
  refine CT_of RX2 rfl (by decide +kernel) hl (Nat.le_of_ble_eq_true rfl) ?_
  intro p e s m args below meth c C hr hnm
  refine V_lvE (lv' := [(0, .ref (ad LL)), (1, .int (nI m1))]) rfl ?_
  refine V_iload_n C dX2_addedAt_0 1 rfl ?_
  refine V_bipush (v := nI 6) C dX2_addedAt_1 (by decide) ?_
  refine V_idivn C dX2_addedAt_3 (by omega) (by omega) (by omega) ?_
  refine V_istore_n C [(2, .int (nI (m1 / 6))), (0, .ref (ad LL)), (1, .int (nI m1))] dX2_addedAt_4 (by decide) rfl ?_
  refine V_iload_n C dX2_addedAt_5 2 rfl ?_
  refine V_bipush (v := nI 6) C dX2_addedAt_6 (by decide) ?_
  refine V_iremn C dX2_addedAt_8 (by omega) (by omega) (by omega) ?_
  refine V_ifn_ne (tgt := 29) C dX2_addedAt_9 (by decide) (by omega) (fun hb1 => ?_) (fun hb1 => ?_)
  · skip
    refine V_iconst (v := nI 0) C dX2_addedAt_29 (by decide) ?_
    refine V_istore_n C [(3, .int (nI 0)), (2, .int (nI (m1 / 6))), (0, .ref (ad LL)), (1, .int (nI m1))] dX2_addedAt_30 (by decide) rfl ?_
    refine V_iload_n C dX2_addedAt_31 0 rfl ?_
    refine V_ifn_eq (tgt := 44) C dX2_addedAt_32 (by decide) (by decide) (fun hb2 => ?_) (fun hb2 => by exfalso; omega)
    refine V_iconst (v := nI 0) C dX2_addedAt_44 (by decide) ?_
    exact V_iret C .int dX2_addedAt_45 hr rfl ⟨by rw [if_neg hb1], rfl, rfl⟩ (by omega) (by omega)
  · skip
    refine V_iload_n C dX2_addedAt_12 0 rfl ?_
    refine V_ifn_lt (tgt := 29) C dX2_addedAt_13 (by decide) (by omega) ?_
    refine V_iload_n C dX2_addedAt_16 0 rfl ?_
    refine V_aload_n C dX2_addedAt_17 1 rfl ?_
    refine V_get (ci := 1) (k := 0) C dX2_addedAt_18 RX2 RX2 TX2 1 fw_X2 rfl (by decide) tw_65 rfl rfl hL rfl ?_
    refine V_alen (v := nI 501) C dX2_addedAt_21 rfl hA rfl ?_
    refine V_icmpn_ge (tgt := 29) C dX2_addedAt_22 (by decide) (by omega) (by decide) (fun hb4 => by exfalso; omega) (fun hb4 => ?_)
    refine V_iconst (v := nI 1) C dX2_addedAt_25 (by decide) ?_
    refine V_goto (tgt := 30) C dX2_addedAt_26 (by decide) ?_
    refine V_istore_n C [(3, .int (nI 1)), (2, .int (nI (m1 / 6))), (0, .ref (ad LL)), (1, .int (nI m1))] dX2_addedAt_30 (by decide) rfl ?_
    refine V_iload_n C dX2_addedAt_31 0 rfl ?_
    refine V_ifn_eq (tgt := 44) C dX2_addedAt_32 (by decide) (by decide) (fun hb5 => by exfalso; omega) (fun hb5 => ?_)
    refine V_aload_n C dX2_addedAt_35 2 rfl ?_
    refine V_get (ci := 1) (k := 0) C dX2_addedAt_36 RX2 RX2 TX2 1 fw_X2 rfl (by decide) tw_65 rfl rfl hL rfl ?_
    refine V_iload_n C dX2_addedAt_39 1 rfl ?_
    refine V_ialdn (v := (f (m1 / 6))) C dX2_addedAt_40 rfl hA (by omega) (by decide) rfl ?_
    refine V_goto (tgt := 45) C dX2_addedAt_41 (by decide) ?_
    exact V_iret C .int dX2_addedAt_45 hr rfl ⟨by rw [if_pos hb1], rfl, rfl⟩ (by omega) (by omega)
def momF (f : Nat → Int32) : Nat → Nat → Int32 → Int32 → Int32
  | 0, _, _, mo => mo
  | n + 1, k, mx, mo => if f k ≤ mx then momF f n (k + 1) mx mo else momF f n (k + 1) (f k) (nI (k * 6))
def nx (hd dm l : Nat) : Nat := l * hd / 100 * (100 - dm) / 100
theorem nx_b {hd dm l : Nat} (h1 : hd ≤ 99) (h2 : l ≤ 1000) : l * hd ≤ 99000 ∧ l * hd / 100 * (100 - dm) ≤ 99000 ∧ nx hd dm l ≤ 990 := by
  have a1 : l * hd ≤ 1000 * 99 := Nat.mul_le_mul h2 h1
  have a2 : l * hd / 100 ≤ 990 := by omega
  have a3 : l * hd / 100 * (100 - dm) ≤ 990 * 100 := Nat.mul_le_mul a2 (by omega)
  refine ⟨by omega, by omega, ?_⟩
  unfold nx
  omega
def rowE (hd dm ds : Nat) : Nat → Nat → Nat → List (Nat × Nat)
  | 0, _, _ => []
  | n + 1, k, l => if nx hd dm l = 0 then [] else if k * 6 * ds ≤ 3000 then (k * 6 * ds, nx hd dm l) :: rowE hd dm ds n (k + 1) (nx hd dm l) else []
abbrev TT : Type := Int32 × Int32 × Int32 × Int32
abbrev ET (li : Int32) (t : TT) : Ent := eT li t.1 t.2.1 t.2.2.1 t.2.2.2
def hearT (li : Int32) (t : TT) (q : Nat × Nat) : TT := (t.1 + nI 1, tLo (nI q.2) li t.2.1, tFi (nI q.1) t.2.2.1, tLa (nI q.1) t.2.2.2)
def hearL (f : Nat → Int32) (q : Nat × Nat) : Nat → Int32 := upd f (q.1 / 6) (f (q.1 / 6) + nI q.2)
set_option maxHeartbeats 4000000 in
theorem lp_rowT {p : Program} {l : Launch} {e : Env} {s : State} {m : MethodId} {args : Array Value} {below : List Frame} {meth : Method} {c : Code} {D : va_G} {ba d mc ms : Nat} {ad : Adr} {w : Wd} {QR : Option Value → Adr → Wd → Prop} {QX : String → Adr → Wd → Prop} (C : Cx p l s m args meth c D ba RX4 cX4_throwRow 9 [] d) (hl : l.stackTraces = false) (hr : meth.sig.returnType = none) (hd : 3 ≤ d) {LU : Lab} {hb ds : Nat} (hU : w LU = some (.inr (3, [.int (nI hb), .int (nI ds)]))) {LT : Lab} {li : Int32} (hne : LU ≠ LT) {hd0 dm : Nat} (hd9 : hd0 ≤ 99) (hds1 : 1 ≤ ds) (hds : ds ≤ 60) (hdm : dm ≤ 90) : ∀ (n : Nat) (k l1 : Nat) (t : TT), k + n = 501 → 1 ≤ k → l1 ≤ 1000 → QR none ad (wset w LT (ET li (List.foldl (hearT li) t (rowE hd0 dm ds n k l1)))) → V p l e s m args below meth c D ba d mc ms (MO D ba QR QX below args s mc ms) 9 ad (wset w LT (ET li t)) 13 [(7, .int (nI k)), (6, .int (nI l1)), (5, .int (nI hd0)), (0, .ref (ad LU)), (2, .int (nI dm)), (4, .ref (ad LT))] [] 0 0 := by
  intro n
  induction n with
  | zero =>
    intro k l1 t hk hk1 hl1 hq
    refine V_iload C dX4_throwRow_13 0 rfl ?_
    refine V_sipush (v := nI 500) C dX4_throwRow_15 (by decide) ?_
    refine V_icmpn_gt (tgt := 82) C dX4_throwRow_18 (by decide) (by omega) (by decide) (fun hb1 => ?_) (fun hb1 => by exfalso; omega)
    exact V_vret C dX4_throwRow_82 hr hq (by omega) (by omega)
  | succ n ih =>
    intro k l1 t hk hk1 hl1 hq
    have hmul : k * 6 * ds ≤ 3000 * 60 := Nat.mul_le_mul (by omega) hds
    have hnx := nx_b (dm := dm) hd9 hl1
    refine V_iload C dX4_throwRow_13 0 rfl ?_
    refine V_sipush (v := nI 500) C dX4_throwRow_15 (by decide) ?_
    refine V_icmpn_gt (tgt := 82) C dX4_throwRow_18 (by decide) (by omega) (by decide) (fun hb1 => by exfalso; omega) (fun hb1 => ?_)
    refine V_iload C dX4_throwRow_21 0 rfl ?_
    refine V_bipush (v := nI 6) C dX4_throwRow_23 (by decide) ?_
    refine V_imuln C dX4_throwRow_25 ?_
    refine V_aload_n C dX4_throwRow_26 3 rfl ?_
    refine V_get (ci := 3) (k := 1) C dX4_throwRow_27 RX4 RX4 TX4 2 fw_X4 rfl (by decide) tw_267 rfl rfl ((wset_n hne).trans hU) rfl ?_
    refine V_imuln C dX4_throwRow_30 ?_
    refine V_istore C [(8, .int (nI ((k * 6) * ds))), (7, .int (nI k)), (6, .int (nI l1)), (5, .int (nI hd0)), (0, .ref (ad LU)), (2, .int (nI dm)), (4, .ref (ad LT))] dX4_throwRow_31 (by decide) rfl ?_
    refine V_iload C dX4_throwRow_33 2 rfl ?_
    refine V_iload C dX4_throwRow_35 3 rfl ?_
    refine V_imuln C dX4_throwRow_37 ?_
    refine V_bipush (v := nI 100) C dX4_throwRow_38 (by decide) ?_
    refine V_idivn C dX4_throwRow_40 (by have := nx_b (dm := dm) hd9 hl1; omega) (by decide) (by decide) ?_
    refine V_bipush (v := nI 100) C dX4_throwRow_41 (by decide) ?_
    refine V_iload_n C dX4_throwRow_43 5 rfl ?_
    refine V_isubn C dX4_throwRow_44 (by omega) ?_
    refine V_imuln C dX4_throwRow_45 ?_
    refine V_bipush (v := nI 100) C dX4_throwRow_46 (by decide) ?_
    refine V_idivn C dX4_throwRow_48 (by have := nx_b (dm := dm) hd9 hl1; omega) (by decide) (by decide) ?_
    rw [show l1 * hd0 / 100 * (100 - dm) / 100 = nx hd0 dm l1 from rfl]
    refine V_istore C [(6, .int (nI (nx hd0 dm l1))), (8, .int (nI ((k * 6) * ds))), (7, .int (nI k)), (5, .int (nI hd0)), (0, .ref (ad LU)), (2, .int (nI dm)), (4, .ref (ad LT))] dX4_throwRow_49 (by decide) rfl ?_
    refine V_iload C dX4_throwRow_51 0 rfl ?_
    refine V_ifn_le (tgt := 64) C dX4_throwRow_53 (by decide) (by omega) (fun hb2 => ?_) (fun hb2 => ?_)
    · skip
      exact V_vret C dX4_throwRow_64 hr (by rw [rowE, if_pos (by omega)] at hq; exact hq) (by omega) (by omega)
    · skip
      refine V_iload C dX4_throwRow_56 1 rfl ?_
      refine V_sipush (v := nI 3000) C dX4_throwRow_58 (by decide) ?_
      refine V_icmpn_le (tgt := 65) C dX4_throwRow_61 (by decide) (by omega) (by decide) (fun hb3 => ?_) (fun hb3 => ?_)
      · skip
        refine V_aload C dX4_throwRow_65 6 rfl ?_
        refine V_iload C dX4_throwRow_67 1 rfl ?_
        refine V_iload C dX4_throwRow_69 0 rfl ?_
        refine V_callF (r := (RX5, TX5, 5)) C [.int (nI ((k * 6) * ds)), .int (nI (nx hd0 dm l1))] dX4_throwRow_71 m_X5_hear k_X5_hear tw_340 (by decide +kernel) (by decide +kernel) rfl rfl rfl wset_s rfl rfl (Nat.le_of_ble_eq_true rfl) ⟨by omega, by omega, by omega, by omega⟩ (c_tHear hl (by omega) wset_s (nI (k * 6 * ds)) (nI (nx hd0 dm l1))) (kr_none ?_) kx_no
        refine V_wd (w' := wset w LT (ET li (hearT li t (k * 6 * ds, nx hd0 dm l1)))) wset_wset ?_
        refine V_iincn C [(7, .int (nI (k + 1))), (6, .int (nI (nx hd0 dm l1))), (8, .int (nI ((k * 6) * ds))), (5, .int (nI hd0)), (0, .ref (ad LU)), (2, .int (nI dm)), (4, .ref (ad LT))] dX4_throwRow_76 2 rfl (by decide) rfl ?_
        refine V_goto (tgt := 13) C dX4_throwRow_79 (by decide) ?_
        refine V_lv [0, 1, 3, 4, 5, 6] rfl ?_
        exact ih (k + 1) (nx hd0 dm l1) (hearT li t (k * 6 * ds, nx hd0 dm l1)) (by omega) (by omega) (by have := nx_b (dm := dm) hd9 hl1; omega) (by rw [rowE, if_neg (by omega), if_pos (by omega)] at hq; exact hq)
      · skip
        exact V_vret C dX4_throwRow_64 hr (by rw [rowE, if_neg (by omega), if_neg (by omega)] at hq; exact hq) (by omega) (by omega)
set_option maxHeartbeats 4000000 in
theorem c_rowT {l : Launch} {D : va_G} {ba d : Nat} {ad : Adr} {w : Wd} (hl : l.stackTraces = false) (hd : 4 ≤ d) {LU : Lab} {hb ds : Nat} (hU : w LU = some (.inr (3, [.int (nI hb), .int (nI ds)]))) {LT : Lab} {li : Int32} (hne : LU ≠ LT) {t : TT} {click dm du : Nat} (hT : w LT = some (ET li t)) (hhb : hb ≤ 99) (hds1 : 1 ≤ ds) (hds : ds ≤ 60) (hdm : dm ≤ 90) (hdu : du ≤ 100) (hcl : click ≤ 1000) : CT l yX4_throwRow (wsO yX4_throwRow cX4_throwRow 9 none) d 0 0 D ba [.ref (ad LU), .int (nI click), .int (nI dm), .int (nI du), .ref (ad LT)] ad w (isR none ad (wset w LT (ET li (List.foldl (hearT li) t (rowE (hb - du / 5) dm ds 500 1 click))))) noX := by
  refine CT_of RX4 rfl (by decide +kernel) hl (Nat.le_of_ble_eq_true rfl) ?_
  intro p e s m args below meth c C hr hnm
  refine V_lvE (lv' := [(0, .ref (ad LU)), (1, .int (nI click)), (2, .int (nI dm)), (3, .int (nI du)), (4, .ref (ad LT))]) rfl ?_
  refine V_aload_n C dX4_throwRow_0 0 rfl ?_
  refine V_iload_n C dX4_throwRow_1 3 rfl ?_
  refine V_callV (r := (RX4, TX4, 2)) C [.int (nI du)] dX4_throwRow_2 m_X4_hardnessUnder k_X4_hardnessUnder tw_338 rfl rfl rfl hU rfl rfl (Nat.le_of_ble_eq_true rfl) ⟨by omega, by omega, by omega, by omega⟩ (c_hardUnder hl (by omega) hU du hhb hdu) (kr_some (x := .int (nI (hb - du / 5))) ?_) kx_no
  refine V_istore C [(5, .int (nI (hb - du / 5))), (0, .ref (ad LU)), (1, .int (nI click)), (2, .int (nI dm)), (3, .int (nI du)), (4, .ref (ad LT))] dX4_throwRow_5 (by decide) rfl ?_
  refine V_iload_n C dX4_throwRow_7 2 rfl ?_
  refine V_istore C [(6, .int (nI click)), (5, .int (nI (hb - du / 5))), (0, .ref (ad LU)), (1, .int (nI click)), (2, .int (nI dm)), (3, .int (nI du)), (4, .ref (ad LT))] dX4_throwRow_8 (by decide) rfl ?_
  refine V_iconst (v := nI 1) C dX4_throwRow_10 (by decide) ?_
  refine V_istore C [(7, .int (nI 1)), (6, .int (nI click)), (5, .int (nI (hb - du / 5))), (0, .ref (ad LU)), (1, .int (nI click)), (2, .int (nI dm)), (3, .int (nI du)), (4, .ref (ad LT))] dX4_throwRow_11 (by decide) rfl ?_
  refine V_wd (w' := wset w LT (ET li t)) (wset_id hT).symm ?_
  refine V_lv [0, 1, 2, 3, 5, 7] rfl ?_
  exact lp_rowT C hl hr (by omega) hU hne (hd0 := hb - du / 5) (by omega) hds1 hds hdm 500 1 click _ (by omega) (by omega) hcl ⟨rfl, rfl, rfl⟩
set_option maxHeartbeats 4000000 in
theorem lp_rowL {p : Program} {l : Launch} {e : Env} {s : State} {m : MethodId} {args : Array Value} {below : List Frame} {meth : Method} {c : Code} {D : va_G} {ba d mc ms : Nat} {ad : Adr} {w : Wd} {QR : Option Value → Adr → Wd → Prop} {QX : String → Adr → Wd → Prop} (C : Cx p l s m args meth c D ba RX4 cX4_throwRow 9 [] d) (hl : l.stackTraces = false) (hr : meth.sig.returnType = none) (hd : 3 ≤ d) {LU : Lab} {hb ds : Nat} (hU : w LU = some (.inr (3, [.int (nI hb), .int (nI ds)]))) {LL LA : Lab} (hL : w LL = some (.inr (1, [.ref (ad LA)]))) (hne2 : LL ≠ LA) (hne : LU ≠ LA) {hd0 dm : Nat} (hd9 : hd0 ≤ 99) (hds1 : 1 ≤ ds) (hds : ds ≤ 60) (hdm : dm ≤ 90) : ∀ (n : Nat) (k l1 : Nat) (f : Nat → Int32), k + n = 501 → 1 ≤ k → l1 ≤ 1000 → QR none ad (wset w LA (eI 501 (List.foldl hearL f (rowE hd0 dm ds n k l1)))) → V p l e s m args below meth c D ba d mc ms (MO D ba QR QX below args s mc ms) 9 ad (wset w LA (eI 501 f)) 13 [(7, .int (nI k)), (6, .int (nI l1)), (5, .int (nI hd0)), (0, .ref (ad LU)), (2, .int (nI dm)), (4, .ref (ad LL))] [] 0 0 := by
  intro n
  induction n with
  | zero =>
    intro k l1 f hk hk1 hl1 hq
    refine V_iload C dX4_throwRow_13 0 rfl ?_
    refine V_sipush (v := nI 500) C dX4_throwRow_15 (by decide) ?_
    refine V_icmpn_gt (tgt := 82) C dX4_throwRow_18 (by decide) (by omega) (by decide) (fun hb1 => ?_) (fun hb1 => by exfalso; omega)
    exact V_vret C dX4_throwRow_82 hr hq (by omega) (by omega)
  | succ n ih =>
    intro k l1 f hk hk1 hl1 hq
    have hmul : k * 6 * ds ≤ 3000 * 60 := Nat.mul_le_mul (by omega) hds
    have hnx := nx_b (dm := dm) hd9 hl1
    refine V_iload C dX4_throwRow_13 0 rfl ?_
    refine V_sipush (v := nI 500) C dX4_throwRow_15 (by decide) ?_
    refine V_icmpn_gt (tgt := 82) C dX4_throwRow_18 (by decide) (by omega) (by decide) (fun hb1 => by exfalso; omega) (fun hb1 => ?_)
    refine V_iload C dX4_throwRow_21 0 rfl ?_
    refine V_bipush (v := nI 6) C dX4_throwRow_23 (by decide) ?_
    refine V_imuln C dX4_throwRow_25 ?_
    refine V_aload_n C dX4_throwRow_26 3 rfl ?_
    refine V_get (ci := 3) (k := 1) C dX4_throwRow_27 RX4 RX4 TX4 2 fw_X4 rfl (by decide) tw_267 rfl rfl ((wset_n hne).trans hU) rfl ?_
    refine V_imuln C dX4_throwRow_30 ?_
    refine V_istore C [(8, .int (nI ((k * 6) * ds))), (7, .int (nI k)), (6, .int (nI l1)), (5, .int (nI hd0)), (0, .ref (ad LU)), (2, .int (nI dm)), (4, .ref (ad LL))] dX4_throwRow_31 (by decide) rfl ?_
    refine V_iload C dX4_throwRow_33 2 rfl ?_
    refine V_iload C dX4_throwRow_35 3 rfl ?_
    refine V_imuln C dX4_throwRow_37 ?_
    refine V_bipush (v := nI 100) C dX4_throwRow_38 (by decide) ?_
    refine V_idivn C dX4_throwRow_40 (by have := nx_b (dm := dm) hd9 hl1; omega) (by decide) (by decide) ?_
    refine V_bipush (v := nI 100) C dX4_throwRow_41 (by decide) ?_
    refine V_iload_n C dX4_throwRow_43 5 rfl ?_
    refine V_isubn C dX4_throwRow_44 (by omega) ?_
    refine V_imuln C dX4_throwRow_45 ?_
    refine V_bipush (v := nI 100) C dX4_throwRow_46 (by decide) ?_
    refine V_idivn C dX4_throwRow_48 (by have := nx_b (dm := dm) hd9 hl1; omega) (by decide) (by decide) ?_
    rw [show l1 * hd0 / 100 * (100 - dm) / 100 = nx hd0 dm l1 from rfl]
    refine V_istore C [(6, .int (nI (nx hd0 dm l1))), (8, .int (nI ((k * 6) * ds))), (7, .int (nI k)), (5, .int (nI hd0)), (0, .ref (ad LU)), (2, .int (nI dm)), (4, .ref (ad LL))] dX4_throwRow_49 (by decide) rfl ?_
    refine V_iload C dX4_throwRow_51 0 rfl ?_
    refine V_ifn_le (tgt := 64) C dX4_throwRow_53 (by decide) (by omega) (fun hb2 => ?_) (fun hb2 => ?_)
    · skip
      exact V_vret C dX4_throwRow_64 hr (by rw [rowE, if_pos (by omega)] at hq; exact hq) (by omega) (by omega)
    · skip
      refine V_iload C dX4_throwRow_56 1 rfl ?_
      refine V_sipush (v := nI 3000) C dX4_throwRow_58 (by decide) ?_
      refine V_icmpn_le (tgt := 65) C dX4_throwRow_61 (by decide) (by omega) (by decide) (fun hb3 => ?_) (fun hb3 => ?_)
      · skip
        refine V_aload C dX4_throwRow_65 6 rfl ?_
        refine V_iload C dX4_throwRow_67 1 rfl ?_
        refine V_iload C dX4_throwRow_69 0 rfl ?_
        refine V_callF (r := (RX2, TX2, 1)) C [.int (nI ((k * 6) * ds)), .int (nI (nx hd0 dm l1))] dX4_throwRow_71 m_X2_hear k_X2_hear tw_340 (by decide +kernel) (by decide +kernel) rfl rfl rfl ((wset_n hne2).trans hL) rfl rfl (Nat.le_of_ble_eq_true rfl) ⟨by omega, by omega, by omega, by omega⟩ (c_lHear hl (by omega) ((wset_n hne2).trans hL) wset_s (k * 6 * ds) (nI (nx hd0 dm l1)) (by omega)) (kr_none ?_) kx_no
        refine V_wd (w' := wset w LA (eI 501 (hearL f (k * 6 * ds, nx hd0 dm l1)))) wset_wset ?_
        refine V_iincn C [(7, .int (nI (k + 1))), (6, .int (nI (nx hd0 dm l1))), (8, .int (nI ((k * 6) * ds))), (5, .int (nI hd0)), (0, .ref (ad LU)), (2, .int (nI dm)), (4, .ref (ad LL))] dX4_throwRow_76 2 rfl (by decide) rfl ?_
        refine V_goto (tgt := 13) C dX4_throwRow_79 (by decide) ?_
        refine V_lv [0, 1, 3, 4, 5, 6] rfl ?_
        exact ih (k + 1) (nx hd0 dm l1) (hearL f (k * 6 * ds, nx hd0 dm l1)) (by omega) (by omega) (by have := nx_b (dm := dm) hd9 hl1; omega) (by rw [rowE, if_neg (by omega), if_pos (by omega)] at hq; exact hq)
      · skip
        exact V_vret C dX4_throwRow_64 hr (by rw [rowE, if_neg (by omega), if_neg (by omega)] at hq; exact hq) (by omega) (by omega)
set_option maxHeartbeats 4000000 in
theorem c_rowL {l : Launch} {D : va_G} {ba d : Nat} {ad : Adr} {w : Wd} (hl : l.stackTraces = false) (hd : 4 ≤ d) {LU : Lab} {hb ds : Nat} (hU : w LU = some (.inr (3, [.int (nI hb), .int (nI ds)]))) {LL LA : Lab} (hL : w LL = some (.inr (1, [.ref (ad LA)]))) (hne2 : LL ≠ LA) (hne : LU ≠ LA) {f : Nat → Int32} {click dm du : Nat} (hT : w LA = some (eI 501 f)) (hhb : hb ≤ 99) (hds1 : 1 ≤ ds) (hds : ds ≤ 60) (hdm : dm ≤ 90) (hdu : du ≤ 100) (hcl : click ≤ 1000) : CT l yX4_throwRow (wsO yX4_throwRow cX4_throwRow 9 none) d 0 0 D ba [.ref (ad LU), .int (nI click), .int (nI dm), .int (nI du), .ref (ad LL)] ad w (isR none ad (wset w LA (eI 501 (List.foldl hearL f (rowE (hb - du / 5) dm ds 500 1 click))))) noX := by
  refine CT_of RX4 rfl (by decide +kernel) hl (Nat.le_of_ble_eq_true rfl) ?_
  intro p e s m args below meth c C hr hnm
  refine V_lvE (lv' := [(0, .ref (ad LU)), (1, .int (nI click)), (2, .int (nI dm)), (3, .int (nI du)), (4, .ref (ad LL))]) rfl ?_
  refine V_aload_n C dX4_throwRow_0 0 rfl ?_
  refine V_iload_n C dX4_throwRow_1 3 rfl ?_
  refine V_callV (r := (RX4, TX4, 2)) C [.int (nI du)] dX4_throwRow_2 m_X4_hardnessUnder k_X4_hardnessUnder tw_338 rfl rfl rfl hU rfl rfl (Nat.le_of_ble_eq_true rfl) ⟨by omega, by omega, by omega, by omega⟩ (c_hardUnder hl (by omega) hU du hhb hdu) (kr_some (x := .int (nI (hb - du / 5))) ?_) kx_no
  refine V_istore C [(5, .int (nI (hb - du / 5))), (0, .ref (ad LU)), (1, .int (nI click)), (2, .int (nI dm)), (3, .int (nI du)), (4, .ref (ad LL))] dX4_throwRow_5 (by decide) rfl ?_
  refine V_iload_n C dX4_throwRow_7 2 rfl ?_
  refine V_istore C [(6, .int (nI click)), (5, .int (nI (hb - du / 5))), (0, .ref (ad LU)), (1, .int (nI click)), (2, .int (nI dm)), (3, .int (nI du)), (4, .ref (ad LL))] dX4_throwRow_8 (by decide) rfl ?_
  refine V_iconst (v := nI 1) C dX4_throwRow_10 (by decide) ?_
  refine V_istore C [(7, .int (nI 1)), (6, .int (nI click)), (5, .int (nI (hb - du / 5))), (0, .ref (ad LU)), (1, .int (nI click)), (2, .int (nI dm)), (3, .int (nI du)), (4, .ref (ad LL))] dX4_throwRow_11 (by decide) rfl ?_
  refine V_wd (w' := wset w LA (eI 501 f)) (wset_id hT).symm ?_
  refine V_lv [0, 1, 2, 3, 5, 7] rfl ?_
  exact lp_rowL C hl hr (by omega) hU hL hne2 hne (hd0 := hb - du / 5) (by omega) hds1 hds hdm 500 1 click _ (by omega) (by omega) hcl ⟨rfl, rfl, rfl⟩
