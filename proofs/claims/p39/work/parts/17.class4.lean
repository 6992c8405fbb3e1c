
theorem olderH_e {v k m : Nat} {H : Nat → HallS} (h : m ≤ k) : olderH v H (min (k + 1) m) = olderH v H (min k m) := by
  rw [Nat.min_eq_right h, Nat.min_eq_right (by omega)]
theorem PW_old {i : Nat} {ad : Adr} {σ : CS} {tl : Int32} {t : TT} {lo : Nat → Int32} {o : Wd} {k v : Nat} (h : k < cN σ) : PW i ad (setH (cN σ, cK σ, cDay σ, cIns σ, olderH v (cH σ) (min k (cN σ)), cS σ) k (oldH v (olderH v (cH σ) (min k (cN σ)) k))) tl t lo o = PW i ad (cN σ, cK σ, cDay σ, cIns σ, olderH v (cH σ) (min (k + 1) (cN σ)), cS σ) tl t lo o := by
  rw [Nat.min_eq_left h, Nat.min_eq_left (Nat.le_of_lt h)]
  simp only [setH, cN, cK, cDay, cIns, cH, cS]
  rw [olderH_s]
theorem older_ok {v : Nat} {σ : CS} {day : Int32} {m : Nat} (hσ : cOK σ) : cOK (cN σ, cK σ, day, cIns σ, olderH v (cH σ) m, cS σ) := olderH_ok (σ := (cN σ, cK σ, day, cIns σ, cH σ, cS σ)) hσ
set_option maxHeartbeats 4000000 in
theorem lp_pass {p : Program} {l : Launch} {e : Env} {s : State} {m : MethodId} {args : Array Value} {below : List Frame} {meth : Method} {c : Code} {D : va_G} {ba d mc ms : Nat} {ad : Adr} {QR : Option Value → Adr → Wd → Prop} {QX : String → Adr → Wd → Prop} (C : Cx p l s m args meth c D ba RX6 cX6_passDays 6 [] d) (hl : l.stackTraces = false) (hr : meth.sig.returnType = (some .int)) (hd : 8 ≤ d) {i : Nat} {σ : CS} {tl : Int32} {t : TT} {lo : Nat → Int32} {o : Wd} (hσ : cOK σ) {v : Nat} (hv : v ≤ 100) (hq : ∀ w9, w9 = PW i ad (cN σ, cK σ, cDay σ + nI v, cIns σ, olderH v (cH σ) (cN σ), cS σ) tl t lo o → QR (some (.int (nI (certs (olderH v (cH σ) (cN σ)) (cN σ))))) ad w9) : ∀ (n : Nat) (k : Nat), k + n = 8 → V p l e s m args below meth c D ba d mc ms (MO D ba QR QX below args s mc ms) 6 ad (PW i ad (cN σ, cK σ, cDay σ, cIns σ, olderH v (cH σ) (min k (cN σ)), cS σ) tl t lo o) 31 [(4, .int (nI k)), (3, .int (nI 8)), (2, .ref (ad [i, 1])), (0, .ref (ad [i])), (1, .int (nI v))] [] 0 0 := by
  intro n
  induction n with
  | zero =>
    intro k hk
    have hσ1 := hσ.1
    have hH := older_ok (v := v) (day := cDay σ) (m := min k (cN σ)) hσ
    refine V_iload C dX6_passDays_31 0 rfl ?_
    refine V_iload_n C dX6_passDays_33 1 rfl ?_
    refine V_icmpn_ge (tgt := 60) C dX6_passDays_34 (by decide) (by omega) (by decide) (fun hb1 => ?_) (fun hb1 => by exfalso; omega)
    refine V_wd (w' := PW i ad (cN σ, cK σ, cDay σ, cIns σ, olderH v (cH σ) (cN σ), cS σ) tl t lo o) (by rw [Nat.min_eq_right (show cN σ ≤ k by omega)]) ?_
    refine V_aload_n C dX6_passDays_60 3 rfl ?_
    refine V_dup C dX6_passDays_61 rfl ?_
    refine V_get (ci := 5) (k := 4) C dX6_passDays_62 RX6 RX6 TX6 8 fw_X6 rfl (by decide) tw_74 rfl rfl (PW_b (σ := (cN σ, cK σ, cDay σ, cIns σ, olderH v (cH σ) (cN σ), cS σ))) rfl ?_
    refine V_iload_n C dX6_passDays_65 4 rfl ?_
    refine V_iadd C dX6_passDays_66 ?_
    refine V_put (ci := 5) (k := 4) C dX6_passDays_67 RX6 RX6 TX6 8 tyX6 tyX6_ok nmX6 fw_X6 rfl (by decide) tw_74 rfl (Or.inl rfl) rfl rfl rfl (PW_b (σ := (cN σ, cK σ, cDay σ, cIns σ, olderH v (cH σ) (cN σ), cS σ))) (Nat.le_of_ble_eq_true rfl) ?_
    refine V_wd (w' := wset (PW i ad (cN σ, cK σ, cDay σ, cIns σ, olderH v (cH σ) (cN σ), cS σ) tl t lo o) ([i]) (.inr (5, [.ref (ad [i, 1]), .ref (ad [i, 2]), .int (nI (cN (cN σ, cK σ, cDay σ, cIns σ, olderH v (cH σ) (cN σ), cS σ))), .int (nI (cK (cN σ, cK σ, cDay σ, cIns σ, olderH v (cH σ) (cN σ), cS σ))), .int ((cDay (cN σ, cK σ, cDay σ, cIns σ, olderH v (cH σ) (cN σ), cS σ)) + (nI v)), .int (cIns (cN σ, cK σ, cDay σ, cIns σ, olderH v (cH σ) (cN σ), cS σ)), .ref (ad [i, 3]), .ref (ad [i, 4])]))) rfl ?_
    refine V_wd (w' := PW i ad (cN σ, cK σ, cDay σ + nI v, cIns σ, olderH v (cH σ) (cN σ), cS σ) tl t lo o) (PW_b' (σ := (cN σ, cK σ, cDay σ, cIns σ, olderH v (cH σ) (cN σ), cS σ))) ?_
    refine V_aload_n C dX6_passDays_70 3 rfl ?_
    refine V_callV (r := (RX6, TX6, 8)) C [] dX6_passDays_71 m_X6_countCertified k_X6_countCertified tw_438 rfl rfl rfl (PW_b (σ := (cN σ, cK σ, cDay σ + nI v, cIns σ, olderH v (cH σ) (cN σ), cS σ))) rfl rfl (Nat.le_of_ble_eq_true rfl) ⟨by omega, by omega, by omega, by omega⟩ (c_count (σ := (cN σ, cK σ, cDay σ + nI v, cIns σ, olderH v (cH σ) (cN σ), cS σ)) hl (by omega) (older_ok hσ)) (kr_some (x := .int (nI (certs (olderH v (cH σ) (cN σ)) (cN σ)))) ?_) kx_no
    exact V_iret C .int dX6_passDays_74 hr rfl (hq _ rfl) (by omega) (by omega)
  | succ n ih =>
    intro k hk
    have hσ1 := hσ.1
    have hH := older_ok (v := v) (day := cDay σ) (m := min k (cN σ)) hσ
    refine V_iload C dX6_passDays_31 0 rfl ?_
    refine V_iload_n C dX6_passDays_33 1 rfl ?_
    refine V_icmpn_ge (tgt := 60) C dX6_passDays_34 (by decide) (by omega) (by decide) (fun hb1 => by exfalso; omega) (fun hb1 => ?_)
    refine V_aload_n C dX6_passDays_37 2 rfl ?_
    refine V_iload C dX6_passDays_38 0 rfl ?_
    rcases Nat.lt_or_ge k (cN σ) with hks | hks
    · skip
      refine V_aaldn (v := .ref (ad [i, 6, k])) C dX6_passDays_40 rfl (PW_hr (σ := (cN σ, cK σ, cDay σ, cIns σ, olderH v (cH σ) (min k (cN σ)), cS σ))) (by omega) (by decide) (by rw [adN_lt hks]; rfl) ?_
      refine V_astore C [(5, .ref (ad [i, 6, k])), (4, .int (nI k)), (3, .int (nI 8)), (2, .ref (ad [i, 1])), (0, .ref (ad [i])), (1, .int (nI v))] dX6_passDays_41 (by decide) rfl ?_
      refine V_aload C dX6_passDays_43 0 rfl ?_
      refine V_ifnull C dX6_passDays_45 ?_
      refine V_aload C dX6_passDays_48 0 rfl ?_
      refine V_iload_n C dX6_passDays_50 5 rfl ?_
      have hok := hH.2.2.1 k hks
      refine V_callVN (r := (RX0, TX0, 6)) C RX6 [.int (nI v)] dX6_passDays_51 m_X0_growOlder k_X0_growOlder tw_623 rfl rfl rfl (PW_h (σ := (cN σ, cK σ, cDay σ, cIns σ, olderH v (cH σ) (min k (cN σ)), cS σ)) hks) rfl rfl (Nat.le_of_ble_eq_true rfl) ⟨by omega, by omega, by omega, by omega⟩ (c_growOlder hl (by omega) (PW_h (σ := (cN σ, cK σ, cDay σ, cIns σ, olderH v (cH σ) (min k (cN σ)), cS σ)) hks) v hok.2.2.1 (by omega) hok.2.2.2.1) (kr_none ?_) kx_no
      refine V_wd (w' := PW i ad (cN σ, cK σ, cDay σ, cIns σ, olderH v (cH σ) (min (k + 1) (cN σ)), cS σ) tl t lo o) ((PW_h' (σ := (cN σ, cK σ, cDay σ, cIns σ, olderH v (cH σ) (min k (cN σ)), cS σ)) hks).trans (PW_old hks)) ?_
      refine V_iincn C [(4, .int (nI (k + 1))), (5, .ref (ad [i, 6, k])), (3, .int (nI 8)), (2, .ref (ad [i, 1])), (0, .ref (ad [i])), (1, .int (nI v))] dX6_passDays_54 1 rfl (by decide) rfl ?_
      refine V_goto (tgt := 31) C dX6_passDays_57 (by decide) ?_
      refine V_lv [0, 2, 3, 4, 5] rfl ?_
      exact ih (k + 1) (by omega)
    · skip
      refine V_aaldn (v := .null) C dX6_passDays_40 rfl (PW_hr (σ := (cN σ, cK σ, cDay σ, cIns σ, olderH v (cH σ) (min k (cN σ)), cS σ))) (by omega) (by decide) (by rw [adN_ge (Nat.not_lt.mpr hks)]; rfl) ?_
      refine V_astoreN C [(5, .null), (4, .int (nI k)), (3, .int (nI 8)), (2, .ref (ad [i, 1])), (0, .ref (ad [i])), (1, .int (nI v))] dX6_passDays_41 (by decide) rfl ?_
      refine V_aloadN C dX6_passDays_43 0 rfl ?_
      refine V_ifnullN (tgt := 54) C dX6_passDays_45 (by decide) ?_
      refine V_iincn C [(4, .int (nI (k + 1))), (5, .null), (3, .int (nI 8)), (2, .ref (ad [i, 1])), (0, .ref (ad [i])), (1, .int (nI v))] dX6_passDays_54 1 rfl (by decide) rfl ?_
      refine V_goto (tgt := 31) C dX6_passDays_57 (by decide) ?_
      refine V_wd (w' := PW i ad (cN σ, cK σ, cDay σ, cIns σ, olderH v (cH σ) (min (k + 1) (cN σ)), cS σ) tl t lo o) (by rw [olderH_e hks]) ?_
      refine V_lv [0, 2, 3, 4, 5] rfl ?_
      exact ih (k + 1) (by omega)
set_option maxHeartbeats 4000000 in
theorem p_pass {l : Launch} {D : va_G} {ba d : Nat} {ad : Adr} (hl : l.stackTraces = false) (hd : 9 ≤ d) {i : Nat} {σ : CS} {tl : Int32} {t : TT} {lo : Nat → Int32} {o : Wd} (hσ : cOK σ) {v : Nat} (hv : v ≤ 100) (hin : ¬ inR (nI v) (nI 1) (nI 100) = 0)  : CT l yX6_passDays (wsO yX6_passDays cX6_passDays 6 (some .int)) d 8 64 D ba [.ref (ad [i]), .int (nI v)] ad (PW i ad σ tl t lo o) (RP i ad (cN σ, cK σ, cDay σ + nI v, cIns σ, olderH v (cH σ) (cN σ), cS σ) o (some (.int (nI (certs (olderH v (cH σ) (cN σ)) (cN σ)))))) noX := by
  refine CT_of RX6 rfl (by decide +kernel) hl (Nat.le_of_ble_eq_true rfl) ?_
  intro p e s m args below meth c C hr hnm
  refine V_lvE (lv' := [(0, .ref (ad [i])), (1, .int (nI v))]) rfl ?_
  have hσ1 := hσ.1
  have hσ2 := hσ.2.1
  refine V_iload_n C dX6_passDays_0 1 rfl ?_
  refine V_iconst (v := nI 1) C dX6_passDays_1 (by decide) ?_
  refine V_bipush (v := nI 100) C dX6_passDays_2 (by decide) ?_
  have hin4 := inR_le (nI v) (nI 1) (nI 100)
  refine V_callS C [.int (nI v), .int (nI 1), .int (nI 100)] dX6_passDays_4 m_X6_isWithin k_X6_isWithin tw_102 rfl rfl (Nat.le_of_ble_eq_true rfl) ⟨by omega, by omega, by omega, by omega⟩ (c_isWithin hl (by omega) (nI v) (nI 1) (nI 100)) (kr_some (x := .int (nI (inR (nI v) (nI 1) (nI 100)))) ?_) kx_no
  refine V_ifn_ne (tgt := 20) C dX6_passDays_7 (by decide) (by omega) (fun hb1 => ?_) (fun hb1 => by exfalso; exact hin hb1)
  refine V_aload_n C dX6_passDays_20 0 rfl ?_
  refine V_get (ci := 5) (k := 0) C dX6_passDays_21 RX6 RX6 TX6 8 fw_X6 rfl (by decide) tw_70 rfl rfl PW_b rfl ?_
  refine V_astore_n C [(2, .ref (ad [i, 1])), (0, .ref (ad [i])), (1, .int (nI v))] dX6_passDays_24 (by decide) rfl ?_
  refine V_aload_n C dX6_passDays_25 0 rfl ?_
  refine V_alen (v := nI 8) C dX6_passDays_26 rfl PW_hr rfl ?_
  refine V_istore_n C [(3, .int (nI 8)), (2, .ref (ad [i, 1])), (0, .ref (ad [i])), (1, .int (nI v))] dX6_passDays_27 (by decide) rfl ?_
  refine V_iconst (v := nI 0) C dX6_passDays_28 (by decide) ?_
  refine V_istore C [(4, .int (nI 0)), (3, .int (nI 8)), (2, .ref (ad [i, 1])), (0, .ref (ad [i])), (1, .int (nI v))] dX6_passDays_29 (by decide) rfl ?_
  refine V_wd (w' := PW i ad (cN σ, cK σ, cDay σ, cIns σ, olderH v (cH σ) (min 0 (cN σ)), cS σ) tl t lo o) (by rw [Nat.zero_min, olderH_0]) ?_
  refine V_lv [0, 1, 2, 3, 4] rfl ?_
  exact lp_pass C hl hr (by omega) hσ hv (fun _ z => ⟨rfl, rfl, _, _, _, z⟩) 8 0 (by omega)
set_option maxHeartbeats 4000000 in
theorem c_clk {l : Launch} {D : va_G} {ba d : Nat} {ad : Adr} (hl : l.stackTraces = false) (hd : 8 ≤ d) {i : Nat} {σ : CS} {tl : Int32} {t : TT} {lo : Nat → Int32} {o : Wd} (hσ : cOK σ) {j : Nat} (hj : j < cN σ) {v : Nat} (hv : v ≤ 1000) (hin : ¬ inR (nI v) (nI 1) (nI 1000) = 0)  : CT l yX6_tallyOfClick (wsO yX6_tallyOfClick cX6_tallyOfClick 4 (some (.object "EchoBureau$Tally"))) d 8 64 D ba [.ref (ad [i]), .int (nI j), .int (nI v)] ad (PW i ad σ tl t lo o) (isR (some (.ref (ad [i, 3]))) ad (PW i ad σ (nI 1) (tly (cH σ j) (nI 1) v) lo o)) noX := by
  refine CT_of RX6 rfl (by decide +kernel) hl (Nat.le_of_ble_eq_true rfl) ?_
  intro p e s m args below meth c C hr hnm
  refine V_lvE (lv' := [(0, .ref (ad [i])), (1, .int (nI j)), (2, .int (nI v))]) rfl ?_
  have hσ1 := hσ.1
  have hσ2 := hσ.2.1
  have hu := hσ.2.2.1 j hj
  have hu1 := hu.1
  have hu2 := hu.2.1
  have hu3 := hu.2.2.1
  have hu4 := hu.2.2.2.1
  refine V_aload_n C dX6_tallyOfClick_0 0 rfl ?_
  refine V_iload_n C dX6_tallyOfClick_1 1 rfl ?_
  refine V_callV (r := (RX6, TX6, 8)) C [.int (nI j)] dX6_tallyOfClick_2 m_X6_findHall k_X6_findHall tw_225 rfl rfl rfl PW_b rfl rfl (Nat.le_of_ble_eq_true rfl) ⟨by omega, by omega, by omega, by omega⟩ (c_findHall hl (by omega) hσ hj) (kr_some (x := .ref (ad [i, 6, j])) ?_) kx_no
  refine V_astore_n C [(3, .ref (ad [i, 6, j])), (0, .ref (ad [i])), (1, .int (nI j)), (2, .int (nI v))] dX6_tallyOfClick_5 (by decide) rfl ?_
  refine V_iload_n C dX6_tallyOfClick_6 3 rfl ?_
  refine V_callS C [.int (nI v)] dX6_tallyOfClick_7 m_X6_checkLoudness k_X6_checkLoudness tw_318 rfl rfl (Nat.le_of_ble_eq_true rfl) ⟨by omega, by omega, by omega, by omega⟩ (c_ckLoud_ok hl (by omega) _ hin) (kr_none ?_) kx_no
  refine V_aload_n C dX6_tallyOfClick_10 1 rfl ?_
  refine V_aload_n C dX6_tallyOfClick_11 0 rfl ?_
  refine V_iload_n C dX6_tallyOfClick_12 3 rfl ?_
  refine V_iconst (v := nI 1) C dX6_tallyOfClick_13 (by decide) ?_
  refine V_callV (r := (RX6, TX6, 8)) C [.ref (ad [i, 6, j]), .int (nI v), .int (nI 1)] dX6_tallyOfClick_14 m_X6_tallyOf k_X6_tallyOf tw_322 rfl rfl rfl PW_b rfl rfl (Nat.le_of_ble_eq_true rfl) ⟨by omega, by omega, by omega, by omega⟩ (c_tallyOf hl (by omega) hσ hj hv (nI 1)) (kr_some (x := .ref (ad [i, 3])) ?_) kx_no
  exact V_aret C "EchoBureau$Tally" dX6_tallyOfClick_17 hr ⟨rfl, rfl, rfl⟩ (by omega) (by omega)
set_option maxHeartbeats 4000000 in
theorem p_echoes {l : Launch} {D : va_G} {ba d : Nat} {ad : Adr} (hl : l.stackTraces = false) (hd : 9 ≤ d) {i : Nat} {σ : CS} {tl : Int32} {t : TT} {lo : Nat → Int32} {o : Wd} (hσ : cOK σ) {j : Nat} (hj : j < cN σ) {v : Nat} (hv : v ≤ 1000) (hin : ¬ inR (nI v) (nI 1) (nI 1000) = 0)  : CT l yX6_echoes (wsO yX6_echoes cX6_echoes 3 (some .int)) d 8 64 D ba [.ref (ad [i]), .int (nI j), .int (nI v)] ad (PW i ad σ tl t lo o) (RP i ad σ o (some (.int ((tly (cH σ j) (nI 1) v).1)))) noX := by
  refine CT_of RX6 rfl (by decide +kernel) hl (Nat.le_of_ble_eq_true rfl) ?_
  intro p e s m args below meth c C hr hnm
  refine V_lvE (lv' := [(0, .ref (ad [i])), (1, .int (nI j)), (2, .int (nI v))]) rfl ?_
  have hσ1 := hσ.1
  have hσ2 := hσ.2.1
  refine V_aload_n C dX6_echoes_0 0 rfl ?_
  refine V_iload_n C dX6_echoes_1 1 rfl ?_
  refine V_iload_n C dX6_echoes_2 2 rfl ?_
  refine V_callV (r := (RX6, TX6, 8)) C [.int (nI j), .int (nI v)] dX6_echoes_3 m_X6_tallyOfClick k_X6_tallyOfClick tw_314 rfl rfl rfl PW_b rfl rfl (Nat.le_of_ble_eq_true rfl) ⟨by omega, by omega, by omega, by omega⟩ (c_clk hl (by omega) hσ hj hv hin) (kr_some (x := .ref (ad [i, 3])) ?_) kx_no
  refine V_getN (ci := 4) (k := 1) C dX6_echoes_6 RX5 RX5 RX6 TX5 5 fw_X5 rfl (by decide) tw_38 rfl rfl PW_t rfl ?_
  exact V_iret C .int dX6_echoes_9 hr rfl ⟨rfl, rfl, _, _, _, rfl⟩ (by omega) (by omega)
set_option maxHeartbeats 4000000 in
theorem p_firstEcho {l : Launch} {D : va_G} {ba d : Nat} {ad : Adr} (hl : l.stackTraces = false) (hd : 9 ≤ d) {i : Nat} {σ : CS} {tl : Int32} {t : TT} {lo : Nat → Int32} {o : Wd} (hσ : cOK σ) {j : Nat} (hj : j < cN σ) {v : Nat} (hv : v ≤ 1000) (hin : ¬ inR (nI v) (nI 1) (nI 1000) = 0)  : CT l yX6_firstEcho (wsO yX6_firstEcho cX6_firstEcho 3 (some .int)) d 8 64 D ba [.ref (ad [i]), .int (nI j), .int (nI v)] ad (PW i ad σ tl t lo o) (RP i ad σ o (some (.int ((tly (cH σ j) (nI 1) v).2.2.1)))) noX := by
  refine CT_of RX6 rfl (by decide +kernel) hl (Nat.le_of_ble_eq_true rfl) ?_
  intro p e s m args below meth c C hr hnm
  refine V_lvE (lv' := [(0, .ref (ad [i])), (1, .int (nI j)), (2, .int (nI v))]) rfl ?_
  have hσ1 := hσ.1
  have hσ2 := hσ.2.1
  refine V_aload_n C dX6_firstEcho_0 0 rfl ?_
  refine V_iload_n C dX6_firstEcho_1 1 rfl ?_
  refine V_iload_n C dX6_firstEcho_2 2 rfl ?_
  refine V_callV (r := (RX6, TX6, 8)) C [.int (nI j), .int (nI v)] dX6_firstEcho_3 m_X6_tallyOfClick k_X6_tallyOfClick tw_314 rfl rfl rfl PW_b rfl rfl (Nat.le_of_ble_eq_true rfl) ⟨by omega, by omega, by omega, by omega⟩ (c_clk hl (by omega) hσ hj hv hin) (kr_some (x := .ref (ad [i, 3])) ?_) kx_no
  refine V_getN (ci := 4) (k := 3) C dX6_firstEcho_6 RX5 RX5 RX6 TX5 5 fw_X5 rfl (by decide) tw_44 rfl rfl PW_t rfl ?_
  exact V_iret C .int dX6_firstEcho_9 hr rfl ⟨rfl, rfl, _, _, _, rfl⟩ (by omega) (by omega)
set_option maxHeartbeats 4000000 in
theorem p_lastEcho {l : Launch} {D : va_G} {ba d : Nat} {ad : Adr} (hl : l.stackTraces = false) (hd : 9 ≤ d) {i : Nat} {σ : CS} {tl : Int32} {t : TT} {lo : Nat → Int32} {o : Wd} (hσ : cOK σ) {j : Nat} (hj : j < cN σ) {v : Nat} (hv : v ≤ 1000) (hin : ¬ inR (nI v) (nI 1) (nI 1000) = 0)  : CT l yX6_lastEcho (wsO yX6_lastEcho cX6_lastEcho 3 (some .int)) d 8 64 D ba [.ref (ad [i]), .int (nI j), .int (nI v)] ad (PW i ad σ tl t lo o) (RP i ad σ o (some (.int ((tly (cH σ j) (nI 1) v).2.2.2)))) noX := by
  refine CT_of RX6 rfl (by decide +kernel) hl (Nat.le_of_ble_eq_true rfl) ?_
  intro p e s m args below meth c C hr hnm
  refine V_lvE (lv' := [(0, .ref (ad [i])), (1, .int (nI j)), (2, .int (nI v))]) rfl ?_
  have hσ1 := hσ.1
  have hσ2 := hσ.2.1
  refine V_aload_n C dX6_lastEcho_0 0 rfl ?_
  refine V_iload_n C dX6_lastEcho_1 1 rfl ?_
  refine V_iload_n C dX6_lastEcho_2 2 rfl ?_
  refine V_callV (r := (RX6, TX6, 8)) C [.int (nI j), .int (nI v)] dX6_lastEcho_3 m_X6_tallyOfClick k_X6_tallyOfClick tw_314 rfl rfl rfl PW_b rfl rfl (Nat.le_of_ble_eq_true rfl) ⟨by omega, by omega, by omega, by omega⟩ (c_clk hl (by omega) hσ hj hv hin) (kr_some (x := .ref (ad [i, 3])) ?_) kx_no
  refine V_getN (ci := 4) (k := 4) C dX6_lastEcho_6 RX5 RX5 RX6 TX5 5 fw_X5 rfl (by decide) tw_47 rfl rfl PW_t rfl ?_
  exact V_iret C .int dX6_lastEcho_9 hr rfl ⟨rfl, rfl, _, _, _, rfl⟩ (by omega) (by omega)
set_option maxHeartbeats 4000000 in
theorem p_loudEchoes {l : Launch} {D : va_G} {ba d : Nat} {ad : Adr} (hl : l.stackTraces = false) (hd : 9 ≤ d) {i : Nat} {σ : CS} {tl : Int32} {t : TT} {lo : Nat → Int32} {o : Wd} (hσ : cOK σ) {j : Nat} (hj : j < cN σ) {v : Nat} (hv : v ≤ 1000) (hin : ¬ inR (nI v) (nI 1) (nI 1000) = 0) {z : Int32} (hin2 : ¬ inR z (nI 1) (nI 1000) = 0)  : CT l yX6_loudEchoes (wsO yX6_loudEchoes cX6_loudEchoes 5 (some .int)) d 8 64 D ba [.ref (ad [i]), .int (nI j), .int (nI v), .int z] ad (PW i ad σ tl t lo o) (RP i ad σ o (some (.int ((tly (cH σ j) z v).2.1)))) noX := by
  refine CT_of RX6 rfl (by decide +kernel) hl (Nat.le_of_ble_eq_true rfl) ?_
  intro p e s m args below meth c C hr hnm
  refine V_lvE (lv' := [(0, .ref (ad [i])), (1, .int (nI j)), (2, .int (nI v)), (3, .int z)]) rfl ?_
  have hσ1 := hσ.1
  have hσ2 := hσ.2.1
  have hu := hσ.2.2.1 j hj
  have hu1 := hu.1
  have hu2 := hu.2.1
  have hu3 := hu.2.2.1
  have hu4 := hu.2.2.2.1
  refine V_aload_n C dX6_loudEchoes_0 0 rfl ?_
  refine V_iload_n C dX6_loudEchoes_1 1 rfl ?_
  refine V_callV (r := (RX6, TX6, 8)) C [.int (nI j)] dX6_loudEchoes_2 m_X6_findHall k_X6_findHall tw_225 rfl rfl rfl PW_b rfl rfl (Nat.le_of_ble_eq_true rfl) ⟨by omega, by omega, by omega, by omega⟩ (c_findHall hl (by omega) hσ hj) (kr_some (x := .ref (ad [i, 6, j])) ?_) kx_no
  refine V_astore C [(4, .ref (ad [i, 6, j])), (0, .ref (ad [i])), (1, .int (nI j)), (2, .int (nI v)), (3, .int z)] dX6_loudEchoes_5 (by decide) rfl ?_
  refine V_iload_n C dX6_loudEchoes_7 3 rfl ?_
  refine V_callS C [.int (nI v)] dX6_loudEchoes_8 m_X6_checkLoudness k_X6_checkLoudness tw_318 rfl rfl (Nat.le_of_ble_eq_true rfl) ⟨by omega, by omega, by omega, by omega⟩ (c_ckLoud_ok hl (by omega) _ hin) (kr_none ?_) kx_no
  refine V_iload_n C dX6_loudEchoes_11 4 rfl ?_
  refine V_callS C [.int z] dX6_loudEchoes_12 m_X6_checkLoudness k_X6_checkLoudness tw_318 rfl rfl (Nat.le_of_ble_eq_true rfl) ⟨by omega, by omega, by omega, by omega⟩ (c_ckLoud_ok hl (by omega) _ hin2) (kr_none ?_) kx_no
  refine V_aload_n C dX6_loudEchoes_15 1 rfl ?_
  refine V_aload C dX6_loudEchoes_16 0 rfl ?_
  refine V_iload_n C dX6_loudEchoes_18 3 rfl ?_
  refine V_iload_n C dX6_loudEchoes_19 4 rfl ?_
  refine V_callV (r := (RX6, TX6, 8)) C [.ref (ad [i, 6, j]), .int (nI v), .int z] dX6_loudEchoes_20 m_X6_tallyOf k_X6_tallyOf tw_322 rfl rfl rfl PW_b rfl rfl (Nat.le_of_ble_eq_true rfl) ⟨by omega, by omega, by omega, by omega⟩ (c_tallyOf hl (by omega) hσ hj hv z) (kr_some (x := .ref (ad [i, 3])) ?_) kx_no
  refine V_getN (ci := 4) (k := 2) C dX6_loudEchoes_23 RX5 RX5 RX6 TX5 5 fw_X5 rfl (by decide) tw_41 rfl rfl PW_t rfl ?_
  exact V_iret C .int dX6_loudEchoes_26 hr rfl ⟨rfl, rfl, _, _, _, rfl⟩ (by omega) (by omega)
def ldz (h : HallS) (click : Nat) : Nat → Int32 := upF (rowsL (hDm h) (hDu h) click (hSu h)) (hSc h) (fun _ => nI 0)
theorem hearL_z {f g : Nat → Int32} (h : ∀ j, j < 501 → f j = g j) (q : Nat × Nat) (j : Nat) (hj : j < 501) : hearL f q j = hearL g q j := by
  unfold hearL
  simp only [upd]
  by_cases h2 : j = q.1 / 6
  · rw [if_pos h2, if_pos h2, ← h2, h j hj]
  · rw [if_neg h2, if_neg h2, h j hj]
theorem foldL_z : ∀ (E : List (Nat × Nat)) {f g : Nat → Int32}, (∀ j, j < 501 → f j = g j) → ∀ j, j < 501 → List.foldl hearL f E j = List.foldl hearL g E j
  | [], _, _, h => h
  | q :: E, _, _, h => foldL_z E (hearL_z h q)
theorem rowsL_z {dm du click : Nat} {su : Nat → Nat × Nat} {f g : Nat → Int32} (h : ∀ j, j < 501 → f j = g j) : ∀ m j, j < 501 → upF (rowsL dm du click su) m f j = upF (rowsL dm du click su) m g j
  | 0 => h
  | m + 1 => foldL_z _ (rowsL_z h m)
theorem lds_z {lo : Nat → Int32} {h : HallS} {click j : Nat} (hj : j < 501) : lds lo h click j = ldz h click j := rowsL_z (fun a ha => by simp [fillF, ha]) _ j hj
theorem momF_z {f g : Nat → Int32} (h : ∀ j, j < 501 → f j = g j) : ∀ n k mx mo, k + n = 501 → momF f n k mx mo = momF g n k mx mo
  | 0, _, _, _, _ => rfl
  | n + 1, k, mx, mo, hk => by
    rw [momF, momF, h k (by omega), momF_z h n (k + 1) mx mo (by omega), momF_z h n (k + 1) _ _ (by omega)]
theorem mom_z {lo : Nat → Int32} {h : HallS} {click : Nat} : momF (lds lo h click) 501 0 (nI 0) (-1) = momF (ldz h click) 501 0 (nI 0) (-1) := momF_z (fun _ hj => lds_z hj) 501 0 _ _ rfl
set_option maxHeartbeats 4000000 in
theorem p_loudnessAt {l : Launch} {D : va_G} {ba d : Nat} {ad : Adr} (hl : l.stackTraces = false) (hd : 9 ≤ d) {i : Nat} {σ : CS} {tl : Int32} {t : TT} {lo : Nat → Int32} {o : Wd} (hσ : cOK σ) {j : Nat} (hj : j < cN σ) {v : Nat} (hv : v ≤ 1000) (hin : ¬ inR (nI v) (nI 1) (nI 1000) = 0) {m1 : Nat} (hm : m1 ≤ 3000) (hin2 : ¬ inR (nI m1) (nI 0) (nI 3000) = 0)  : CT l yX6_loudnessAt (wsO yX6_loudnessAt cX6_loudnessAt 5 (some .int)) d 8 64 D ba [.ref (ad [i]), .int (nI j), .int (nI v), .int (nI m1)] ad (PW i ad σ tl t lo o) (RP i ad σ o (some (.int (if m1 % 6 = 0 then ldz (cH σ j) v (m1 / 6) else nI 0)))) noX := by
  refine CT_of RX6 rfl (by decide +kernel) hl (Nat.le_of_ble_eq_true rfl) ?_
  intro p e s m args below meth c C hr hnm
  refine V_lvE (lv' := [(0, .ref (ad [i])), (1, .int (nI j)), (2, .int (nI v)), (3, .int (nI m1))]) rfl ?_
  have hσ1 := hσ.1
  have hσ2 := hσ.2.1
  have hu := hσ.2.2.1 j hj
  have hu1 := hu.1
  have hu2 := hu.2.1
  have hu3 := hu.2.2.1
  have hu4 := hu.2.2.2.1
  refine V_aload_n C dX6_loudnessAt_0 0 rfl ?_
  refine V_iload_n C dX6_loudnessAt_1 1 rfl ?_
  refine V_callV (r := (RX6, TX6, 8)) C [.int (nI j)] dX6_loudnessAt_2 m_X6_findHall k_X6_findHall tw_225 rfl rfl rfl PW_b rfl rfl (Nat.le_of_ble_eq_true rfl) ⟨by omega, by omega, by omega, by omega⟩ (c_findHall hl (by omega) hσ hj) (kr_some (x := .ref (ad [i, 6, j])) ?_) kx_no
  refine V_astore C [(4, .ref (ad [i, 6, j])), (0, .ref (ad [i])), (1, .int (nI j)), (2, .int (nI v)), (3, .int (nI m1))] dX6_loudnessAt_5 (by decide) rfl ?_
  refine V_iload_n C dX6_loudnessAt_7 3 rfl ?_
  refine V_callS C [.int (nI v)] dX6_loudnessAt_8 m_X6_checkLoudness k_X6_checkLoudness tw_318 rfl rfl (Nat.le_of_ble_eq_true rfl) ⟨by omega, by omega, by omega, by omega⟩ (c_ckLoud_ok hl (by omega) _ hin) (kr_none ?_) kx_no
  refine V_iload_n C dX6_loudnessAt_11 4 rfl ?_
  refine V_iconst (v := nI 0) C dX6_loudnessAt_12 (by decide) ?_
  refine V_sipush (v := nI 3000) C dX6_loudnessAt_13 (by decide) ?_
  have hin16 := inR_le (nI m1) (nI 0) (nI 3000)
  refine V_callS C [.int (nI m1), .int (nI 0), .int (nI 3000)] dX6_loudnessAt_16 m_X6_isWithin k_X6_isWithin tw_102 rfl rfl (Nat.le_of_ble_eq_true rfl) ⟨by omega, by omega, by omega, by omega⟩ (c_isWithin hl (by omega) (nI m1) (nI 0) (nI 3000)) (kr_some (x := .int (nI (inR (nI m1) (nI 0) (nI 3000)))) ?_) kx_no
  refine V_ifn_ne (tgt := 32) C dX6_loudnessAt_19 (by decide) (by omega) (fun hb1 => ?_) (fun hb1 => by exfalso; exact hin2 hb1)
  refine V_aload_n C dX6_loudnessAt_32 1 rfl ?_
  refine V_aload C dX6_loudnessAt_33 0 rfl ?_
  refine V_iload_n C dX6_loudnessAt_35 3 rfl ?_
  refine V_callV (r := (RX6, TX6, 8)) C [.ref (ad [i, 6, j]), .int (nI v)] dX6_loudnessAt_36 m_X6_loudnessesOf k_X6_loudnessesOf tw_372 rfl rfl rfl PW_b rfl rfl (Nat.le_of_ble_eq_true rfl) ⟨by omega, by omega, by omega, by omega⟩ (c_loudOf hl (by omega) hσ hj hv) (kr_some (x := .ref (ad [i, 4])) ?_) kx_no
  refine V_iload_n C dX6_loudnessAt_39 4 rfl ?_
  refine V_callVN (r := (RX2, TX2, 1)) C RX6 [.int (nI m1)] dX6_loudnessAt_40 m_X2_addedAt k_X2_addedAt tw_383 rfl rfl rfl PW_l rfl rfl (Nat.le_of_ble_eq_true rfl) ⟨by omega, by omega, by omega, by omega⟩ (c_addedAt hl (by omega) PW_l PW_a m1 hm) (kr_some (x := .int (if m1 % 6 = 0 then (lds lo (cH σ j) v) (m1 / 6) else nI 0)) ?_) kx_no
  exact V_iret C .int dX6_loudnessAt_43 hr rfl ⟨by rw [lds_z (by omega)], rfl, _, _, _, rfl⟩ (by omega) (by omega)
def metN (s : StdS) (H : Nat → HallS) : Nat → Nat → Nat := fun j x => if metW (H j) s (hDm (H j)) (hDu (H j)) = 0 then x else x + 1
def metC (s : StdS) (H : Nat → HallS) (m : Nat) : Nat := upF (metN s H) m 0
theorem metC_le (s : StdS) (H : Nat → HallS) : ∀ m, metC s H m ≤ m
  | 0 => Nat.le_refl 0
  | m + 1 => by
    have := metC_le s H m
    show metN s H m (metC s H m) ≤ m + 1
    unfold metN
    split <;> omega
set_option maxHeartbeats 4000000 in
theorem lp_hm {p : Program} {l : Launch} {e : Env} {s : State} {m : MethodId} {args : Array Value} {below : List Frame} {meth : Method} {c : Code} {D : va_G} {ba d mc ms : Nat} {ad : Adr} {QR : Option Value → Adr → Wd → Prop} {QX : String → Adr → Wd → Prop} (C : Cx p l s m args meth c D ba RX6 cX6_hallsMeeting 8 [] d) (hl : l.stackTraces = false) (hr : meth.sig.returnType = (some .int)) (hd : 8 ≤ d) {i : Nat} {σ : CS} {lo : Nat → Int32} {o : Wd} (hσ : cOK σ) {q : Nat} (hq : q < cK σ) (hmc : 1 ≤ mc) (hms : 6 ≤ ms) (hq1 : ∀ tl t, QR (some (.int (nI (metC (cS σ q) (cH σ) (cN σ))))) ad (PW i ad σ tl t lo o)) : ∀ (n : Nat) (k : Nat) (tl : Int32) (t : TT), k + n = 8 → V p l e s m args below meth c D ba d mc ms (MO D ba QR QX below args s mc ms) 8 ad (PW i ad σ tl t lo o) 22 [(6, .int (nI k)), (5, .int (nI 8)), (4, .ref (ad [i, 1])), (3, .int (nI (upF (metN (cS σ q) (cH σ)) (min k (cN σ)) 0))), (2, .ref (ad [i, 9, q])), (0, .ref (ad [i]))] [] (0 + 1) (0 + 6) := by
  intro n
  induction n with
  | zero =>
    intro k tl t hk
    have hσ1 := hσ.1
    refine V_iload C dX6_hallsMeeting_22 0 rfl ?_
    refine V_iload C dX6_hallsMeeting_24 1 rfl ?_
    refine V_icmpn_ge (tgt := 60) C dX6_hallsMeeting_26 (by decide) (by omega) (by decide) (fun hb1 => ?_) (fun hb1 => by exfalso; omega)
    refine V_iload_n C dX6_hallsMeeting_60 3 rfl ?_
    exact V_iret C .int dX6_hallsMeeting_61 hr rfl (by rw [upF_x (by omega)]; exact hq1 _ _) (by omega) (by omega)
  | succ n ih =>
    intro k tl t hk
    have hσ1 := hσ.1
    refine V_iload C dX6_hallsMeeting_22 0 rfl ?_
    refine V_iload C dX6_hallsMeeting_24 1 rfl ?_
    refine V_icmpn_ge (tgt := 60) C dX6_hallsMeeting_26 (by decide) (by omega) (by decide) (fun hb1 => by exfalso; omega) (fun hb1 => ?_)
    refine V_aload C dX6_hallsMeeting_29 2 rfl ?_
    refine V_iload C dX6_hallsMeeting_31 0 rfl ?_
    rcases Nat.lt_or_ge k (cN σ) with hks | hks
    · skip
      refine V_aaldn (v := .ref (ad [i, 6, k])) C dX6_hallsMeeting_33 rfl PW_hr (by omega) (by decide) (by rw [adN_lt hks]; rfl) ?_
      refine V_astore C [(7, .ref (ad [i, 6, k])), (6, .int (nI k)), (5, .int (nI 8)), (4, .ref (ad [i, 1])), (3, .int (nI (upF (metN (cS σ q) (cH σ)) (min k (cN σ)) 0))), (2, .ref (ad [i, 9, q])), (0, .ref (ad [i]))] dX6_hallsMeeting_34 (by decide) rfl ?_
      refine V_aload C dX6_hallsMeeting_36 0 rfl ?_
      refine V_ifnull C dX6_hallsMeeting_38 ?_
      refine V_aload_n C dX6_hallsMeeting_41 6 rfl ?_
      refine V_aload C dX6_hallsMeeting_42 0 rfl ?_
      refine V_aload_n C dX6_hallsMeeting_44 5 rfl ?_
      have hmle := metW_le (cH σ k) (cS σ q) (hDm (cH σ k)) (hDu (cH σ k))
      refine V_callV (r := (RX6, TX6, 8)) C [.ref (ad [i, 6, k]), .ref (ad [i, 9, q])] dX6_hallsMeeting_45 m_X6_meetsNow k_X6_meetsNow tw_397 rfl rfl rfl PW_b rfl rfl (Nat.le_of_ble_eq_true rfl) ⟨by omega, by omega, by omega, by omega⟩ (c_meetsNow hl (by omega) hσ hks hq) (kr_some (x := .int (nI (metW (cH σ k) (cS σ q) (hDm (cH σ k)) (hDu (cH σ k))))) ?_) kx_no
      refine V_ifn_eq (tgt := 54) C dX6_hallsMeeting_48 (by decide) (by omega) (fun hb2 => ?_) (fun hb2 => ?_)
      · skip
        refine V_iincn C [(6, .int (nI (k + 1))), (7, .ref (ad [i, 6, k])), (5, .int (nI 8)), (4, .ref (ad [i, 1])), (3, .int (nI (upF (metN (cS σ q) (cH σ)) (min k (cN σ)) 0))), (2, .ref (ad [i, 9, q])), (0, .ref (ad [i]))] dX6_hallsMeeting_54 1 rfl (by decide) rfl ?_
        refine V_goto (tgt := 22) C dX6_hallsMeeting_57 (by decide) ?_
        rw [show upF (metN (cS σ q) (cH σ)) (min k (cN σ)) 0 = upF (metN (cS σ q) (cH σ)) (min (k + 1) (cN σ)) 0 from by rw [upF_s hks]; show _ = metN _ _ _ _; unfold metN; rw [if_pos hb2]]
        refine V_lv [0, 2, 3, 4, 5, 6] rfl ?_
        exact ih (k + 1) _ _ (by omega)
      · skip
        refine V_iincn C [(3, .int (nI (upF (metN (cS σ q) (cH σ)) (min k (cN σ)) 0 + 1))), (7, .ref (ad [i, 6, k])), (6, .int (nI k)), (5, .int (nI 8)), (4, .ref (ad [i, 1])), (2, .ref (ad [i, 9, q])), (0, .ref (ad [i]))] dX6_hallsMeeting_51 4 rfl (by decide) rfl ?_
        refine V_iincn C [(6, .int (nI (k + 1))), (3, .int (nI (upF (metN (cS σ q) (cH σ)) (min k (cN σ)) 0 + 1))), (7, .ref (ad [i, 6, k])), (5, .int (nI 8)), (4, .ref (ad [i, 1])), (2, .ref (ad [i, 9, q])), (0, .ref (ad [i]))] dX6_hallsMeeting_54 2 rfl (by decide) rfl ?_
        refine V_goto (tgt := 22) C dX6_hallsMeeting_57 (by decide) ?_
        rw [show upF (metN (cS σ q) (cH σ)) (min k (cN σ)) 0 + 1 = upF (metN (cS σ q) (cH σ)) (min (k + 1) (cN σ)) 0 from by rw [upF_s hks]; show _ = metN _ _ _ _; unfold metN; rw [if_neg hb2]]
        refine V_lv [0, 3, 4, 1, 5, 6] rfl ?_
        exact ih (k + 1) _ _ (by omega)
    · skip
      refine V_aaldn (v := .null) C dX6_hallsMeeting_33 rfl PW_hr (by omega) (by decide) (by rw [adN_ge (Nat.not_lt.mpr hks)]; rfl) ?_
      refine V_astoreN C [(7, .null), (6, .int (nI k)), (5, .int (nI 8)), (4, .ref (ad [i, 1])), (3, .int (nI (upF (metN (cS σ q) (cH σ)) (min k (cN σ)) 0))), (2, .ref (ad [i, 9, q])), (0, .ref (ad [i]))] dX6_hallsMeeting_34 (by decide) rfl ?_
      refine V_aloadN C dX6_hallsMeeting_36 0 rfl ?_
      refine V_ifnullN (tgt := 54) C dX6_hallsMeeting_38 (by decide) ?_
      refine V_iincn C [(6, .int (nI (k + 1))), (7, .null), (5, .int (nI 8)), (4, .ref (ad [i, 1])), (3, .int (nI (upF (metN (cS σ q) (cH σ)) (min k (cN σ)) 0))), (2, .ref (ad [i, 9, q])), (0, .ref (ad [i]))] dX6_hallsMeeting_54 1 rfl (by decide) rfl ?_
      refine V_goto (tgt := 22) C dX6_hallsMeeting_57 (by decide) ?_
      rw [show upF (metN (cS σ q) (cH σ)) (min k (cN σ)) 0 = upF (metN (cS σ q) (cH σ)) (min (k + 1) (cN σ)) 0 from by rw [upF_e hks]]
      refine V_lv [0, 2, 3, 4, 5, 6] rfl ?_
      exact ih (k + 1) _ _ (by omega)
set_option maxHeartbeats 4000000 in
theorem p_hallsMeeting {l : Launch} {D : va_G} {ba d : Nat} {ad : Adr} (hl : l.stackTraces = false) (hd : 9 ≤ d) {i : Nat} {σ : CS} {tl : Int32} {t : TT} {lo : Nat → Int32} {o : Wd} (hσ : cOK σ) {q : Nat} (hq : q < cK σ)  : CT l yX6_hallsMeeting (wsO yX6_hallsMeeting cX6_hallsMeeting 8 (some .int)) d 8 64 D ba [.ref (ad [i]), .int (nI q)] ad (PW i ad σ tl t lo o) (RP i ad σ o (some (.int (nI (metC (cS σ q) (cH σ) (cN σ)))))) noX := by
  refine CT_of RX6 rfl (by decide +kernel) hl (Nat.le_of_ble_eq_true rfl) ?_
  intro p e s m args below meth c C hr hnm
  refine V_lvE (lv' := [(0, .ref (ad [i])), (1, .int (nI q))]) rfl ?_
  have hσ1 := hσ.1
  have hσ2 := hσ.2.1
  refine V_aload_n C dX6_hallsMeeting_0 0 rfl ?_
  refine V_iload_n C dX6_hallsMeeting_1 1 rfl ?_
  refine V_callV (r := (RX6, TX6, 8)) C [.int (nI q)] dX6_hallsMeeting_2 m_X6_findStandard k_X6_findStandard tw_391 rfl rfl rfl PW_b rfl rfl (Nat.le_of_ble_eq_true rfl) ⟨by omega, by omega, by omega, by omega⟩ (c_findStd hl (by omega) hσ hq) (kr_some (x := .ref (ad [i, 9, q])) ?_) kx_no
  refine V_astore_n C [(2, .ref (ad [i, 9, q])), (0, .ref (ad [i])), (1, .int (nI q))] dX6_hallsMeeting_5 (by decide) rfl ?_
  refine V_iconst (v := nI 0) C dX6_hallsMeeting_6 (by decide) ?_
  refine V_istore_n C [(3, .int (nI 0)), (2, .ref (ad [i, 9, q])), (0, .ref (ad [i])), (1, .int (nI q))] dX6_hallsMeeting_7 (by decide) rfl ?_
  refine V_aload_n C dX6_hallsMeeting_8 2 rfl ?_
  refine V_get (ci := 5) (k := 0) C dX6_hallsMeeting_9 RX6 RX6 TX6 8 fw_X6 rfl (by decide) tw_70 rfl rfl PW_b rfl ?_
  refine V_astore C [(4, .ref (ad [i, 1])), (3, .int (nI 0)), (2, .ref (ad [i, 9, q])), (0, .ref (ad [i])), (1, .int (nI q))] dX6_hallsMeeting_12 (by decide) rfl ?_
  refine V_aload C dX6_hallsMeeting_14 0 rfl ?_
  refine V_alen (v := nI 8) C dX6_hallsMeeting_16 rfl PW_hr rfl ?_
  refine V_istore C [(5, .int (nI 8)), (4, .ref (ad [i, 1])), (3, .int (nI 0)), (2, .ref (ad [i, 9, q])), (0, .ref (ad [i])), (1, .int (nI q))] dX6_hallsMeeting_17 (by decide) rfl ?_
  refine V_iconst (v := nI 0) C dX6_hallsMeeting_19 (by decide) ?_
  refine V_istore C [(6, .int (nI 0)), (5, .int (nI 8)), (4, .ref (ad [i, 1])), (3, .int (nI 0)), (2, .ref (ad [i, 9, q])), (0, .ref (ad [i])), (1, .int (nI q))] dX6_hallsMeeting_20 (by decide) rfl ?_
  refine V_lv [0, 1, 2, 3, 4, 5] rfl ?_
  have K := lp_hm (QR := (RP i ad σ o (some (.int (nI (metC (cS σ q) (cH σ) (cN σ))))))) (QX := noX) (mc := 8) (ms := 64) (e := e) (below := below) C hl hr (by omega) hσ hq (by omega) (by omega) (fun _ _ => ⟨rfl, rfl, _, _, _, rfl⟩) 8 0 tl t (by omega) (lo := lo)
  rw [Nat.zero_min] at K
  exact K
def eaH (s : StdS) (H : Nat → HallS) (m : Nat) : Nat → Nat → Option Nat
  | 0, _ => none
  | n + 1, k => if metW (H k) s m (hDu (H k)) = 0 then eaH s H m n (k + 1) else some k
def eaD (s : StdS) (H : Nat → HallS) (N : Nat) : Nat → Nat → Int32
  | 0, _ => -1
  | n + 1, m => match eaH s H m N 0 with
    | some j => nI j
    | none => eaD s H N n (m + 1)
def sumN (H : Nat → HallS) : Nat → Nat → Nat := fun j x => x + hDm (H j)
def sumD (H : Nat → HallS) (m : Nat) : Nat := upF (sumN H) m 0
theorem sumD_le {σ : CS} (hσ : cOK σ) : ∀ m, m ≤ cN σ → sumD (cH σ) m ≤ 90 * m
  | 0, _ => Nat.le_refl 0
  | m + 1, h => by
    have h1 := sumD_le hσ m (by omega)
    have h2 := (hσ.2.2.1 m (by omega)).2.1
    show sumD (cH σ) m + hDm (cH σ m) ≤ 90 * (m + 1)
    omega
theorem mean_ok0 : ∀ y < 9, ∀ x < 721, 1 ≤ y → FP.ddiv (FP.i2d (nI x)) (FP.i2d (nI y)) &&& 0x7fffffffffffffff ≤ 0x7ff0000000000000 := by decide +kernel
theorem mean_ok {x y : Nat} (h1 : x ≤ 720) (h2 : 1 ≤ y) (h3 : y ≤ 8) : vf_n64 (FP.ddiv (FP.i2d (nI x)) (FP.i2d (nI y))) := mean_ok0 y (by omega) x (by omega) h2
set_option maxHeartbeats 4000000 in
theorem lp_mean {p : Program} {l : Launch} {e : Env} {s : State} {m : MethodId} {args : Array Value} {below : List Frame} {meth : Method} {c : Code} {D : va_G} {ba d mc ms : Nat} {ad : Adr} {QR : Option Value → Adr → Wd → Prop} {QX : String → Adr → Wd → Prop} (C : Cx p l s m args meth c D ba RX6 cX6_meanDamping 6 [] d) (hl : l.stackTraces = false) (hr : meth.sig.returnType = (some .double)) (hd : 2 ≤ d) {i : Nat} {σ : CS} {tl : Int32} {t : TT} {lo : Nat → Int32} {o : Wd} (hσ : cOK σ) (h1 : 0 < cN σ) (hq : QR (some (.double (FP.ddiv (FP.i2d (nI (sumD (cH σ) (cN σ)))) (FP.i2d (nI (cN σ)))))) ad (PW i ad σ tl t lo o)) : ∀ (n : Nat) (k : Nat), k + n = 8 → V p l e s m args below meth c D ba d mc ms (MO D ba QR QX below args s mc ms) 6 ad (PW i ad σ tl t lo o) 22 [(4, .int (nI k)), (3, .int (nI 8)), (2, .ref (ad [i, 1])), (1, .int (nI (upF (sumN (cH σ)) (min k (cN σ)) 0))), (0, .ref (ad [i]))] [] 0 0 := by
  intro n
  induction n with
  | zero =>
    intro k hk
    have hσ1 := hσ.1
    refine V_iload C dX6_meanDamping_22 0 rfl ?_
    refine V_iload_n C dX6_meanDamping_24 1 rfl ?_
    refine V_icmpn_ge (tgt := 53) C dX6_meanDamping_25 (by decide) (by omega) (by decide) (fun hb1 => ?_) (fun hb1 => by exfalso; omega)
    rw [upF_x (show cN σ ≤ k by omega)]
    have hsd := sumD_le hσ (cN σ) (Nat.le_refl _)
    rw [show upF (sumN (cH σ)) (cN σ) 0 = sumD (cH σ) (cN σ) from rfl]
    refine V_iload_n C dX6_meanDamping_53 3 rfl ?_
    refine V_i2d C dX6_meanDamping_54 ?_
    refine V_aload_n C dX6_meanDamping_55 4 rfl ?_
    refine V_get (ci := 5) (k := 2) C dX6_meanDamping_56 RX6 RX6 TX6 8 fw_X6 rfl (by decide) tw_72 rfl rfl PW_b rfl ?_
    refine V_i2d C dX6_meanDamping_59 ?_
    refine V_ddiv C dX6_meanDamping_60 (by exact mean_ok (by omega) h1 hσ1) ?_
    exact V_dret C dX6_meanDamping_61 hr hq (by omega) (by omega)
  | succ n ih =>
    intro k hk
    have hσ1 := hσ.1
    refine V_iload C dX6_meanDamping_22 0 rfl ?_
    refine V_iload_n C dX6_meanDamping_24 1 rfl ?_
    refine V_icmpn_ge (tgt := 53) C dX6_meanDamping_25 (by decide) (by omega) (by decide) (fun hb1 => by exfalso; omega) (fun hb1 => ?_)
    refine V_aload_n C dX6_meanDamping_28 2 rfl ?_
    refine V_iload C dX6_meanDamping_29 0 rfl ?_
    rcases Nat.lt_or_ge k (cN σ) with hks | hks
    · skip
      refine V_aaldn (v := .ref (ad [i, 6, k])) C dX6_meanDamping_31 rfl PW_hr (by omega) (by decide) (by rw [adN_lt hks]; rfl) ?_
      refine V_astore C [(5, .ref (ad [i, 6, k])), (4, .int (nI k)), (3, .int (nI 8)), (2, .ref (ad [i, 1])), (1, .int (nI (upF (sumN (cH σ)) (min k (cN σ)) 0))), (0, .ref (ad [i]))] dX6_meanDamping_32 (by decide) rfl ?_
      refine V_aload C dX6_meanDamping_34 0 rfl ?_
      refine V_ifnull C dX6_meanDamping_36 ?_
      refine V_iload_n C dX6_meanDamping_39 4 rfl ?_
      refine V_aload C dX6_meanDamping_40 0 rfl ?_
      refine V_getN (ci := 0) (k := 2) C dX6_meanDamping_42 RX0 RX0 RX6 TX0 6 fw_X0 rfl (by decide) tw_201 rfl rfl (PW_h hks) rfl ?_
      refine V_iaddn C dX6_meanDamping_45 ?_
      refine V_istore_n C [(1, .int (nI ((upF (sumN (cH σ)) (min k (cN σ)) 0) + (hDm (cH σ k))))), (5, .ref (ad [i, 6, k])), (4, .int (nI k)), (3, .int (nI 8)), (2, .ref (ad [i, 1])), (0, .ref (ad [i]))] dX6_meanDamping_46 (by decide) rfl ?_
      refine V_iincn C [(4, .int (nI (k + 1))), (1, .int (nI ((upF (sumN (cH σ)) (min k (cN σ)) 0) + (hDm (cH σ k))))), (5, .ref (ad [i, 6, k])), (3, .int (nI 8)), (2, .ref (ad [i, 1])), (0, .ref (ad [i]))] dX6_meanDamping_47 2 rfl (by decide) rfl ?_
      refine V_goto (tgt := 22) C dX6_meanDamping_50 (by decide) ?_
      rw [show (upF (sumN (cH σ)) (min k (cN σ)) 0) + (hDm (cH σ k)) = upF (sumN (cH σ)) (min (k + 1) (cN σ)) 0 from by rw [upF_s hks]; rfl]
      refine V_lv [0, 3, 4, 1, 5] rfl ?_
      exact ih (k + 1) (by omega)
    · skip
      refine V_aaldn (v := .null) C dX6_meanDamping_31 rfl PW_hr (by omega) (by decide) (by rw [adN_ge (Nat.not_lt.mpr hks)]; rfl) ?_
      refine V_astoreN C [(5, .null), (4, .int (nI k)), (3, .int (nI 8)), (2, .ref (ad [i, 1])), (1, .int (nI (upF (sumN (cH σ)) (min k (cN σ)) 0))), (0, .ref (ad [i]))] dX6_meanDamping_32 (by decide) rfl ?_
      refine V_aloadN C dX6_meanDamping_34 0 rfl ?_
      refine V_ifnullN (tgt := 47) C dX6_meanDamping_36 (by decide) ?_
      refine V_iincn C [(4, .int (nI (k + 1))), (5, .null), (3, .int (nI 8)), (2, .ref (ad [i, 1])), (1, .int (nI (upF (sumN (cH σ)) (min k (cN σ)) 0))), (0, .ref (ad [i]))] dX6_meanDamping_47 1 rfl (by decide) rfl ?_
      refine V_goto (tgt := 22) C dX6_meanDamping_50 (by decide) ?_
      rw [show upF (sumN (cH σ)) (min k (cN σ)) 0 = upF (sumN (cH σ)) (min (k + 1) (cN σ)) 0 from by rw [upF_e hks]]
      refine V_lv [0, 2, 3, 4, 5] rfl ?_
      exact ih (k + 1) (by omega)
set_option maxHeartbeats 4000000 in
theorem p_mean {l : Launch} {D : va_G} {ba d : Nat} {ad : Adr} (hl : l.stackTraces = false) (hd : 8 ≤ d) {i : Nat} {σ : CS} {tl : Int32} {t : TT} {lo : Nat → Int32} {o : Wd} (hσ : cOK σ) (h1 : 0 < cN σ)  : CT l yX6_meanDamping (wsO yX6_meanDamping cX6_meanDamping 6 (some .double)) d 8 64 D ba [.ref (ad [i])] ad (PW i ad σ tl t lo o) (RP i ad σ o (some (.double (FP.ddiv (FP.i2d (nI (sumD (cH σ) (cN σ)))) (FP.i2d (nI (cN σ))))))) noX := by
  refine CT_of RX6 rfl (by decide +kernel) hl (Nat.le_of_ble_eq_true rfl) ?_
  intro p e s m args below meth c C hr hnm
  refine V_lvE (lv' := [(0, .ref (ad [i]))]) rfl ?_
  have hσ1 := hσ.1
  have hσ2 := hσ.2.1
  refine V_aload_n C dX6_meanDamping_0 0 rfl ?_
  refine V_get (ci := 5) (k := 2) C dX6_meanDamping_1 RX6 RX6 TX6 8 fw_X6 rfl (by decide) tw_72 rfl rfl PW_b rfl ?_
  refine V_ifn_gt (tgt := 9) C dX6_meanDamping_4 (by decide) (by omega) (fun hb1 => ?_) (fun hb1 => by exfalso; omega)
  refine V_iconst (v := nI 0) C dX6_meanDamping_9 (by decide) ?_
  refine V_istore_n C [(1, .int (nI 0)), (0, .ref (ad [i]))] dX6_meanDamping_10 (by decide) rfl ?_
  refine V_aload_n C dX6_meanDamping_11 1 rfl ?_
  refine V_get (ci := 5) (k := 0) C dX6_meanDamping_12 RX6 RX6 TX6 8 fw_X6 rfl (by decide) tw_70 rfl rfl PW_b rfl ?_
  refine V_astore_n C [(2, .ref (ad [i, 1])), (1, .int (nI 0)), (0, .ref (ad [i]))] dX6_meanDamping_15 (by decide) rfl ?_
  refine V_aload_n C dX6_meanDamping_16 0 rfl ?_
  refine V_alen (v := nI 8) C dX6_meanDamping_17 rfl PW_hr rfl ?_
  refine V_istore_n C [(3, .int (nI 8)), (2, .ref (ad [i, 1])), (1, .int (nI 0)), (0, .ref (ad [i]))] dX6_meanDamping_18 (by decide) rfl ?_
  refine V_iconst (v := nI 0) C dX6_meanDamping_19 (by decide) ?_
  refine V_istore C [(4, .int (nI 0)), (3, .int (nI 8)), (2, .ref (ad [i, 1])), (1, .int (nI 0)), (0, .ref (ad [i]))] dX6_meanDamping_20 (by decide) rfl ?_
  refine V_lv [0, 1, 2, 3, 4] rfl ?_
  have K := lp_mean (QR := (RP i ad σ o (some (.double (FP.ddiv (FP.i2d (nI (sumD (cH σ) (cN σ)))) (FP.i2d (nI (cN σ)))))))) (QX := noX) (mc := 8) (ms := 64) (e := e) (below := below) C hl hr (by omega) hσ h1 ⟨rfl, rfl, tl, t, lo, rfl⟩ 8 0 (by omega)
  rw [Nat.zero_min] at K
  exact K
set_option maxHeartbeats 4000000 in
theorem p_mean0 {l : Launch} {D : va_G} {ba d : Nat} {ad : Adr} (hl : l.stackTraces = false) (hd : 8 ≤ d) {i : Nat} {σ : CS} {tl : Int32} {t : TT} {lo : Nat → Int32} {o : Wd} (hσ : cOK σ) (h1 : cN σ = 0)  : CT l yX6_meanDamping (wsO yX6_meanDamping cX6_meanDamping 6 (some .double)) d 8 64 D ba [.ref (ad [i])] ad (PW i ad σ tl t lo o) (RP i ad σ o (some (.double FP.dconst0))) noX := by
  refine CT_of RX6 rfl (by decide +kernel) hl (Nat.le_of_ble_eq_true rfl) ?_
  intro p e s m args below meth c C hr hnm
  refine V_lvE (lv' := [(0, .ref (ad [i]))]) rfl ?_
  have hσ1 := hσ.1
  have hσ2 := hσ.2.1
  refine V_aload_n C dX6_meanDamping_0 0 rfl ?_
  refine V_get (ci := 5) (k := 2) C dX6_meanDamping_1 RX6 RX6 TX6 8 fw_X6 rfl (by decide) tw_72 rfl rfl PW_b rfl ?_
  refine V_ifn_gt (tgt := 9) C dX6_meanDamping_4 (by decide) (by omega) (fun hb1 => by exfalso; omega) (fun hb1 => ?_)
  refine V_dconst0 C dX6_meanDamping_7 ?_
  exact V_dret C dX6_meanDamping_8 hr ⟨rfl, rfl, _, _, _, rfl⟩ (by omega) (by omega)
