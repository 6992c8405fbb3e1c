section KQ
variable {p : Program} {l : Launch} {e : Env} {s : State} {m : MethodId} {args : Array Value} {below : List Frame} {meth : Method} {c : Code} {D : va_G} {ba d mc ms nL npc cells slots : Nat} {ad : Adr} {Q : State → Prop} {lv : List (Nat × Value)} {rest : List Value} {i : Nat} {σ : CS} {o : Wd} {th : Int32}
theorem kr_RQ {x : Value} (k : ∀ ro lo ma ap, V p l e s m args below meth c D ba d mc ms Q nL ad (QW i ad σ th ro lo ma ap o) npc lv (x :: rest) cells slots) : ∀ (v : Option Value) (ad' : Adr) (w' : Wd), RQ i ad σ o th (some x) v ad' w' → V p l e s m args below meth c D ba d mc ms Q nL ad' w' npc lv (v.toList ++ rest) cells slots := by
  rintro v ad' w' ⟨rfl, rfl, ro, lo, ma, ap, rfl⟩
  exact k ro lo ma ap
end KQ
theorem at_rows {h : HallS} {cl m1 : Nat} (hh : hOK h) : nI (atR (RQh h (hDm h) (hDu h) cl) (DQh h) m1 (hSc h)) = if m1 % 6 = 0 then ldz h cl (m1 / 6) else nI 0 := by
  by_cases h6 : m1 % 6 = 0
  · rw [if_pos h6]
    have e : m1 = 6 * (m1 / 6) := by omega
    rw [show ldz h cl (m1 / 6) = _ from loud_rows hh (m1 / 6) (hSc h) (Nat.le_refl _), ← e]
  · rw [if_neg h6, atR_odd h6]
theorem tly_rows {h : HallS} {cl : Nat} {li : Int32} (hh : hOK h) (hcl : cl ≤ 1000) : tly h li cl = (nI (sumR (RQh h (hDm h) (hDu h) cl) (hSc h)), nI (louR li (RQh h (hDm h) (hDu h) cl) (hSc h)), fiR (RQh h (hDm h) (hDu h) cl) (DQh h) (hSc h), laR (RQh h (hDm h) (hDu h) cl) (DQh h) (hSc h)) := tally_rows hh hcl (hSc h) (Nat.le_refl _)
set_option maxHeartbeats 4000000 in
theorem m_meets {l : Launch} {D : va_G} {ba d : Nat} {ad : Adr} (hl : l.stackTraces = false) (hd : 5 ≤ d) {i : Nat} {σ : CS} {th ro : Int32} {lo ma ap : Nat → Int32} {o : Wd} (hσ : cOK σ) {j q dm du : Nat} (hj : j < cN σ) (hq : q < cK σ) (hdm : dm ≤ 90) (hdu : du ≤ 100)  : CT l yX7_meets (wsO yX7_meets cX7_meets 5 (some .boolean)) d 0 0 D ba [.ref (ad [i]), .int (nI j), .int (nI q), .int (nI dm), .int (nI du)] ad (QW i ad σ th ro lo ma ap o) (RQ i ad σ o th (some (.int (nI (metW (cH σ j) (cS σ q) dm du))))) noX := by
  refine CT_of RX7 rfl (by decide +kernel) hl (Nat.le_of_ble_eq_true rfl) ?_
  intro p e s m args below meth c C hr hnm
  refine V_lvE (lv' := [(0, .ref (ad [i])), (1, .int (nI j)), (2, .int (nI q)), (3, .int (nI dm)), (4, .int (nI du))]) rfl ?_
  have hσ1 := hσ.1
  have hσ2 := hσ.2.1
  have hu := hσ.2.2.1 j hj
  have hu1 := hu.1
  have hu2 := hu.2.1
  have hu3 := hu.2.2.1
  have hu4 := hu.2.2.2.1
  have hs := hσ.2.2.2 q hq
  have hs3 := hs.2.2.2.1
  have hL := laid (dm := dm) (du := du) (lo := lo) (ma := ma) (ap := ap) hu (show 1000 ≤ 1000 by decide)
  have hsm := sumR_le hL (hSc (cH σ j)) (Nat.le_refl _)
  have hlo := louR_le hL (t := nI (cS σ q).2.1) (hSc (cH σ j)) (Nat.le_refl _)
  refine V_aload_n C dX7_meets_0 0 rfl ?_
  refine V_iload_n C dX7_meets_1 1 rfl ?_
  refine V_sipush (v := nI 1000) C dX7_meets_2 (by decide) ?_
  refine V_iload_n C dX7_meets_5 3 rfl ?_
  refine V_iload C dX7_meets_6 4 rfl ?_
  refine V_callV (r := (RX7, TX7, 17)) C [.int (nI j), .int (nI 1000), .int (nI dm), .int (nI du)] dX7_meets_8 m_X7_click k_X7_click tw_790 rfl rfl rfl QW_o rfl rfl (Nat.le_of_ble_eq_true rfl) ⟨by omega, by omega, by omega, by omega⟩ (m_click hl (by omega) hσ hj hdm hdu (by decide)) (kr_none ?_) kx_no
  refine V_aload_n C dX7_meets_11 0 rfl ?_
  refine V_callV (r := (RX7, TX7, 17)) C [] dX7_meets_12 m_X7_all k_X7_all tw_799 rfl rfl rfl QW_o rfl rfl (Nat.le_of_ble_eq_true rfl) ⟨by omega, by omega, by omega, by omega⟩ (m_all hl (by omega) hL) (kr_some (x := .int (nI (sumR (RQh (cH σ j) dm du 1000) (hSc (cH σ j))))) ?_) kx_no
  refine V_ifn_eq (tgt := 44) C dX7_meets_15 (by decide) (by omega) (fun hb1 => ?_) (fun hb1 => ?_)
  · skip
    refine V_aload_n C dX7_meets_44 0 rfl ?_
    refine V_aload_n C dX7_meets_45 0 rfl ?_
    refine V_iload_n C dX7_meets_46 2 rfl ?_
    refine V_iconst (v := nI 1) C dX7_meets_47 (by decide) ?_
    refine V_callV (r := (RX7, TX7, 17)) C [.int (nI q), .int (nI 1)] dX7_meets_48 m_X7_rule k_X7_rule tw_807 rfl rfl rfl QW_o rfl rfl (Nat.le_of_ble_eq_true rfl) ⟨by omega, by omega, by omega, by omega⟩ (m_rule hl (by omega) hσ hq (by decide)) (kr_some (x := .int (nI ((cS σ q).2.1))) ?_) kx_no
    refine V_callV (r := (RX7, TX7, 17)) C [.int (nI ((cS σ q).2.1))] dX7_meets_51 m_X7_louder k_X7_louder tw_815 rfl rfl rfl QW_o rfl rfl (Nat.le_of_ble_eq_true rfl) ⟨by omega, by omega, by omega, by omega⟩ (m_louder hl (by omega) hL) (kr_some (x := .int (nI (louR (nI (cS σ q).2.1) (RQh (cH σ j) dm du 1000) (hSc (cH σ j))))) ?_) kx_no
    refine V_aload_n C dX7_meets_54 0 rfl ?_
    refine V_iload_n C dX7_meets_55 2 rfl ?_
    refine V_iconst (v := nI 2) C dX7_meets_56 (by decide) ?_
    refine V_callV (r := (RX7, TX7, 17)) C [.int (nI q), .int (nI 2)] dX7_meets_57 m_X7_rule k_X7_rule tw_807 rfl rfl rfl QW_o rfl rfl (Nat.le_of_ble_eq_true rfl) ⟨by omega, by omega, by omega, by omega⟩ (m_rule hl (by omega) hσ hq (by decide)) (kr_some (x := .int (nI ((cS σ q).2.2.1))) ?_) kx_no
    refine V_icmpn_gt (tgt := 67) C dX7_meets_60 (by decide) (by omega) (by omega) (fun hb2 => ?_) (fun hb2 => ?_)
    · skip
      refine V_iconst (v := nI 0) C dX7_meets_67 (by decide) ?_
      exact V_iret C .boolean dX7_meets_68 hr rfl ⟨by rw [met_rows hu hs, okR, if_pos hb1, if_neg (by omega)], rfl, _, _, _, _, rfl⟩ (by omega) (by omega)
    · skip
      refine V_iconst (v := nI 1) C dX7_meets_63 (by decide) ?_
      refine V_goto (tgt := 68) C dX7_meets_64 (by decide) ?_
      exact V_iret C .boolean dX7_meets_68 hr rfl ⟨by rw [met_rows hu hs, okR, if_pos hb1, if_pos (by omega)], rfl, _, _, _, _, rfl⟩ (by omega) (by omega)
  · skip
    refine V_aload_n C dX7_meets_18 0 rfl ?_
    refine V_callV (r := (RX7, TX7, 17)) C [] dX7_meets_19 m_X7_first k_X7_first tw_803 rfl rfl rfl QW_o rfl rfl (Nat.le_of_ble_eq_true rfl) ⟨by omega, by omega, by omega, by omega⟩ (m_first hl (by omega) hL) (kr_some (x := .int (fiR (RQh (cH σ j) dm du 1000) (DQh (cH σ j)) (hSc (cH σ j)))) ?_) kx_no
    refine V_aload_n C dX7_meets_22 0 rfl ?_
    refine V_iload_n C dX7_meets_23 2 rfl ?_
    refine V_iconst (v := nI 0) C dX7_meets_24 (by decide) ?_
    refine V_callV (r := (RX7, TX7, 17)) C [.int (nI q), .int (nI 0)] dX7_meets_25 m_X7_rule k_X7_rule tw_807 rfl rfl rfl QW_o rfl rfl (Nat.le_of_ble_eq_true rfl) ⟨by omega, by omega, by omega, by omega⟩ (m_rule hl (by omega) hσ hq (by decide)) (kr_some (x := .int (nI ((cS σ q).1))) ?_) kx_no
    refine V_icmp_lt (tgt := 67) C dX7_meets_28 (by decide) (fun hb3 => ?_) (fun hb3 => ?_)
    · skip
      refine V_iconst (v := nI 0) C dX7_meets_67 (by decide) ?_
      exact V_iret C .boolean dX7_meets_68 hr rfl ⟨by rw [met_rows hu hs, okR, if_neg hb1, if_pos hb3], rfl, _, _, _, _, rfl⟩ (by omega) (by omega)
    · skip
      refine V_aload_n C dX7_meets_31 0 rfl ?_
      refine V_callV (r := (RX7, TX7, 17)) C [] dX7_meets_32 m_X7_last k_X7_last tw_811 rfl rfl rfl QW_o rfl rfl (Nat.le_of_ble_eq_true rfl) ⟨by omega, by omega, by omega, by omega⟩ (m_last hl (by omega) hL) (kr_some (x := .int (laR (RQh (cH σ j) dm du 1000) (DQh (cH σ j)) (hSc (cH σ j)))) ?_) kx_no
      refine V_aload_n C dX7_meets_35 0 rfl ?_
      refine V_iload_n C dX7_meets_36 2 rfl ?_
      refine V_iconst (v := nI 3) C dX7_meets_37 (by decide) ?_
      refine V_callV (r := (RX7, TX7, 17)) C [.int (nI q), .int (nI 3)] dX7_meets_38 m_X7_rule k_X7_rule tw_807 rfl rfl rfl QW_o rfl rfl (Nat.le_of_ble_eq_true rfl) ⟨by omega, by omega, by omega, by omega⟩ (m_rule hl (by omega) hσ hq (by decide)) (kr_some (x := .int (nI ((cS σ q).2.2.2.1))) ?_) kx_no
      refine V_icmp_gt (tgt := 67) C dX7_meets_41 (by decide) (fun hb4 => ?_) (fun hb4 => ?_)
      · skip
        refine V_iconst (v := nI 0) C dX7_meets_67 (by decide) ?_
        exact V_iret C .boolean dX7_meets_68 hr rfl ⟨by rw [met_rows hu hs, okR, if_neg hb1, if_neg hb3, if_pos hb4], rfl, _, _, _, _, rfl⟩ (by omega) (by omega)
      · skip
        refine V_aload_n C dX7_meets_44 0 rfl ?_
        refine V_aload_n C dX7_meets_45 0 rfl ?_
        refine V_iload_n C dX7_meets_46 2 rfl ?_
        refine V_iconst (v := nI 1) C dX7_meets_47 (by decide) ?_
        refine V_callV (r := (RX7, TX7, 17)) C [.int (nI q), .int (nI 1)] dX7_meets_48 m_X7_rule k_X7_rule tw_807 rfl rfl rfl QW_o rfl rfl (Nat.le_of_ble_eq_true rfl) ⟨by omega, by omega, by omega, by omega⟩ (m_rule hl (by omega) hσ hq (by decide)) (kr_some (x := .int (nI ((cS σ q).2.1))) ?_) kx_no
        refine V_callV (r := (RX7, TX7, 17)) C [.int (nI ((cS σ q).2.1))] dX7_meets_51 m_X7_louder k_X7_louder tw_815 rfl rfl rfl QW_o rfl rfl (Nat.le_of_ble_eq_true rfl) ⟨by omega, by omega, by omega, by omega⟩ (m_louder hl (by omega) hL) (kr_some (x := .int (nI (louR (nI (cS σ q).2.1) (RQh (cH σ j) dm du 1000) (hSc (cH σ j))))) ?_) kx_no
        refine V_aload_n C dX7_meets_54 0 rfl ?_
        refine V_iload_n C dX7_meets_55 2 rfl ?_
        refine V_iconst (v := nI 2) C dX7_meets_56 (by decide) ?_
        refine V_callV (r := (RX7, TX7, 17)) C [.int (nI q), .int (nI 2)] dX7_meets_57 m_X7_rule k_X7_rule tw_807 rfl rfl rfl QW_o rfl rfl (Nat.le_of_ble_eq_true rfl) ⟨by omega, by omega, by omega, by omega⟩ (m_rule hl (by omega) hσ hq (by decide)) (kr_some (x := .int (nI ((cS σ q).2.2.1))) ?_) kx_no
        refine V_icmpn_gt (tgt := 67) C dX7_meets_60 (by decide) (by omega) (by omega) (fun hb5 => ?_) (fun hb5 => ?_)
        · skip
          refine V_iconst (v := nI 0) C dX7_meets_67 (by decide) ?_
          exact V_iret C .boolean dX7_meets_68 hr rfl ⟨by rw [met_rows hu hs, okR, if_neg hb1, if_neg hb3, if_neg hb4, if_neg (by omega)], rfl, _, _, _, _, rfl⟩ (by omega) (by omega)
        · skip
          refine V_iconst (v := nI 1) C dX7_meets_63 (by decide) ?_
          refine V_goto (tgt := 68) C dX7_meets_64 (by decide) ?_
          exact V_iret C .boolean dX7_meets_68 hr rfl ⟨by rw [met_rows hu hs, okR, if_neg hb1, if_neg hb3, if_neg hb4, if_pos (by omega)], rfl, _, _, _, _, rfl⟩ (by omega) (by omega)
set_option maxHeartbeats 4000000 in
theorem m_meetsNow {l : Launch} {D : va_G} {ba d : Nat} {ad : Adr} (hl : l.stackTraces = false) (hd : 6 ≤ d) {i : Nat} {σ : CS} {th ro : Int32} {lo ma ap : Nat → Int32} {o : Wd} (hσ : cOK σ) {j : Nat} (hj : j < cN σ) {q : Nat} (hq : q < cK σ)  : CT l yX7_meetsNow (wsO yX7_meetsNow cX7_meetsNow 3 (some .boolean)) d 0 0 D ba [.ref (ad [i]), .int (nI j), .int (nI q)] ad (QW i ad σ th ro lo ma ap o) (RQ i ad σ o th (some (.int (nI (metW (cH σ j) (cS σ q) (hDm (cH σ j)) (hDu (cH σ j))))))) noX := by
  refine CT_of RX7 rfl (by decide +kernel) hl (Nat.le_of_ble_eq_true rfl) ?_
  intro p e s m args below meth c C hr hnm
  refine V_lvE (lv' := [(0, .ref (ad [i])), (1, .int (nI j)), (2, .int (nI q))]) rfl ?_
  have hσ1 := hσ.1
  have hσ2 := hσ.2.1
  have hu := hσ.2.2.1 j hj
  have hu1 := hu.1
  have hu2 := hu.2.1
  have hu3 := hu.2.2.1
  have hu4 := hu.2.2.2.1
  refine V_aload_n C dX7_meetsNow_0 0 rfl ?_
  refine V_iload_n C dX7_meetsNow_1 1 rfl ?_
  refine V_iload_n C dX7_meetsNow_2 2 rfl ?_
  refine V_aload_n C dX7_meetsNow_3 0 rfl ?_
  refine V_get (ci := 6) (k := 6) C dX7_meetsNow_4 RX7 RX7 TX7 17 fw_X7 rfl (by decide) tw_674 rfl rfl QW_o rfl ?_
  refine V_iload_n C dX7_meetsNow_7 1 rfl ?_
  refine V_ialdn (v := (nI (hDm (cH σ j)))) C dX7_meetsNow_8 rfl QW_2 (by omega) (by decide) (row0_in hj) ?_
  refine V_aload_n C dX7_meetsNow_9 0 rfl ?_
  refine V_get (ci := 6) (k := 7) C dX7_meetsNow_10 RX7 RX7 TX7 17 fw_X7 rfl (by decide) tw_675 rfl rfl QW_o rfl ?_
  refine V_iload_n C dX7_meetsNow_13 1 rfl ?_
  refine V_ialdn (v := (nI (hDu (cH σ j)))) C dX7_meetsNow_14 rfl QW_3 (by omega) (by decide) (row0_in hj) ?_
  have hle15 := metW_le (cH σ j) (cS σ q) (hDm (cH σ j)) (hDu (cH σ j))
  refine V_callV (r := (RX7, TX7, 17)) C [.int (nI j), .int (nI q), .int (nI (hDm (cH σ j))), .int (nI (hDu (cH σ j)))] dX7_meetsNow_15 m_X7_meets k_X7_meets tw_786 rfl rfl rfl QW_o rfl rfl (Nat.le_of_ble_eq_true rfl) ⟨by omega, by omega, by omega, by omega⟩ (m_meets hl (by omega) hσ hj hq hu2 hu3) (kr_RQ (x := .int (nI (metW (cH σ j) (cS σ q) (hDm (cH σ j)) (hDu (cH σ j))))) (fun ro lo ma ap => ?_)) kx_no
  exact V_iret C .boolean dX7_meetsNow_18 hr (by rcases (show metW (cH σ j) (cS σ q) (hDm (cH σ j)) (hDu (cH σ j)) = 0 ∨ metW (cH σ j) (cS σ q) (hDm (cH σ j)) (hDu (cH σ j)) = 1 by have := metW_le (cH σ j) (cS σ q) (hDm (cH σ j)) (hDu (cH σ j)); omega) with z | z <;> rw [z] <;> rfl) ⟨rfl, rfl, _, _, _, _, rfl⟩ (by omega) (by omega)
set_option maxHeartbeats 4000000 in
theorem m_meets2 {l : Launch} {D : va_G} {ba d : Nat} {ad : Adr} (hl : l.stackTraces = false) (hd : 8 ≤ d) {i : Nat} {σ : CS} {th ro : Int32} {lo ma ap : Nat → Int32} {o : Wd} (hσ : cOK σ) {j : Nat} (hj : j < cN σ) {q : Nat} (hq : q < cK σ)  : CT l yX7_meets_ (wsO yX7_meets_ cX7_meets_ 3 (some .boolean)) d 8 64 D ba [.ref (ad [i]), .int (nI j), .int (nI q)] ad (QW i ad σ th ro lo ma ap o) (RQ i ad σ o (nI 0) (some (.int (nI (metW (cH σ j) (cS σ q) (hDm (cH σ j)) (hDu (cH σ j))))))) noX := by
  refine CT_of RX7 rfl (by decide +kernel) hl (Nat.le_of_ble_eq_true rfl) ?_
  intro p e s m args below meth c C hr hnm
  refine V_lvE (lv' := [(0, .ref (ad [i])), (1, .int (nI j)), (2, .int (nI q))]) rfl ?_
  have hσ1 := hσ.1
  have hσ2 := hσ.2.1
  have hu := hσ.2.2.1 j hj
  have hu1 := hu.1
  have hu2 := hu.2.1
  have hu3 := hu.2.2.1
  have hu4 := hu.2.2.2.1
  refine V_aload_n C dX7_meets__0 0 rfl ?_
  refine V_iload_n C dX7_meets__1 1 rfl ?_
  refine V_iload_n C dX7_meets__2 2 rfl ?_
  refine V_callV (r := (RX7, TX7, 17)) C [.int (nI j), .int (nI q)] dX7_meets__3 m_X7_isPair k_X7_isPair tw_774 rfl rfl rfl QW_o rfl rfl (Nat.le_of_ble_eq_true rfl) ⟨by omega, by omega, by omega, by omega⟩ (m_isPair hl (by omega) hσ hj hq) (kr_some (x := .int (nI 1)) ?_) kx_no
  refine V_ifn_eq (tgt := 22) C dX7_meets__6 (by decide) (by decide) (fun hb1 => by exfalso; omega) (fun hb1 => ?_)
  refine V_aload_n C dX7_meets__9 0 rfl ?_
  refine V_iload_n C dX7_meets__10 1 rfl ?_
  refine V_iload_n C dX7_meets__11 2 rfl ?_
  have hle12 := metW_le (cH σ j) (cS σ q) (hDm (cH σ j)) (hDu (cH σ j))
  refine V_callV (r := (RX7, TX7, 17)) C [.int (nI j), .int (nI q)] dX7_meets__12 m_X7_meetsNow k_X7_meetsNow tw_782 rfl rfl rfl QW_o rfl rfl (Nat.le_of_ble_eq_true rfl) ⟨by omega, by omega, by omega, by omega⟩ (m_meetsNow hl (by omega) hσ hj hq) (kr_RQ (x := .int (nI (metW (cH σ j) (cS σ q) (hDm (cH σ j)) (hDu (cH σ j))))) (fun ro lo ma ap => ?_)) kx_no
  refine V_ifn_eq (tgt := 22) C dX7_meets__15 (by decide) (by omega) (fun hb2 => ?_) (fun hb2 => ?_)
  · skip
    refine V_iconst (v := nI 0) C dX7_meets__22 (by decide) ?_
    exact V_iret C .boolean dX7_meets__23 hr rfl ⟨by rw [show metW (cH σ j) (cS σ q) (hDm (cH σ j)) (hDu (cH σ j)) = 0 by omega], rfl, _, _, _, _, rfl⟩ (by omega) (by omega)
  · skip
    refine V_iconst (v := nI 1) C dX7_meets__18 (by decide) ?_
    refine V_goto (tgt := 23) C dX7_meets__19 (by decide) ?_
    exact V_iret C .boolean dX7_meets__23 hr rfl ⟨by rw [show metW (cH σ j) (cS σ q) (hDm (cH σ j)) (hDu (cH σ j)) = 1 by omega], rfl, _, _, _, _, rfl⟩ (by omega) (by omega)
set_option maxHeartbeats 4000000 in
theorem m_meets2_no {l : Launch} {D : va_G} {ba d : Nat} {ad : Adr} (hl : l.stackTraces = false) (hd : 8 ≤ d) {i : Nat} {σ : CS} {th ro : Int32} {lo ma ap : Nat → Int32} {o : Wd} (hσ : cOK σ) {x : Int32} (hx : ∀ j, j < cN σ → x ≠ nI j) (y : Int32)  : CT l yX7_meets_ (wsO yX7_meets_ cX7_meets_ 3 (some .boolean)) d 8 64 D ba [.ref (ad [i]), .int x, .int y] ad (QW i ad σ th ro lo ma ap o) (RQ i ad σ o (nI 1) (some (.int (nI 0)))) noX := by
  refine CT_of RX7 rfl (by decide +kernel) hl (Nat.le_of_ble_eq_true rfl) ?_
  intro p e s m args below meth c C hr hnm
  refine V_lvE (lv' := [(0, .ref (ad [i])), (1, .int x), (2, .int y)]) rfl ?_
  have hσ1 := hσ.1
  have hσ2 := hσ.2.1
  refine V_aload_n C dX7_meets__0 0 rfl ?_
  refine V_iload_n C dX7_meets__1 1 rfl ?_
  refine V_iload_n C dX7_meets__2 2 rfl ?_
  refine V_callV (r := (RX7, TX7, 17)) C [.int x, .int y] dX7_meets__3 m_X7_isPair k_X7_isPair tw_774 rfl rfl rfl QW_o rfl rfl (Nat.le_of_ble_eq_true rfl) ⟨by omega, by omega, by omega, by omega⟩ (m_isPair_no hl (by omega) hσ hx y) (kr_some (x := .int (nI 0)) ?_) kx_no
  refine V_ifn_eq (tgt := 22) C dX7_meets__6 (by decide) (by decide) (fun hb1 => ?_) (fun hb1 => by exfalso; omega)
  refine V_iconst (v := nI 0) C dX7_meets__22 (by decide) ?_
  exact V_iret C .boolean dX7_meets__23 hr rfl ⟨rfl, rfl, _, _, _, _, rfl⟩ (by omega) (by omega)
set_option maxHeartbeats 4000000 in
theorem m_meets2_no2 {l : Launch} {D : va_G} {ba d : Nat} {ad : Adr} (hl : l.stackTraces = false) (hd : 8 ≤ d) {i : Nat} {σ : CS} {th ro : Int32} {lo ma ap : Nat → Int32} {o : Wd} (hσ : cOK σ) {j : Nat} (hj : j < cN σ) {x2 : Int32} (hx2 : ∀ j, j < cK σ → x2 ≠ nI j)  : CT l yX7_meets_ (wsO yX7_meets_ cX7_meets_ 3 (some .boolean)) d 8 64 D ba [.ref (ad [i]), .int (nI j), .int x2] ad (QW i ad σ th ro lo ma ap o) (RQ i ad σ o (nI 1) (some (.int (nI 0)))) noX := by
  refine CT_of RX7 rfl (by decide +kernel) hl (Nat.le_of_ble_eq_true rfl) ?_
  intro p e s m args below meth c C hr hnm
  refine V_lvE (lv' := [(0, .ref (ad [i])), (1, .int (nI j)), (2, .int x2)]) rfl ?_
  have hσ1 := hσ.1
  have hσ2 := hσ.2.1
  refine V_aload_n C dX7_meets__0 0 rfl ?_
  refine V_iload_n C dX7_meets__1 1 rfl ?_
  refine V_iload_n C dX7_meets__2 2 rfl ?_
  refine V_callV (r := (RX7, TX7, 17)) C [.int (nI j), .int x2] dX7_meets__3 m_X7_isPair k_X7_isPair tw_774 rfl rfl rfl QW_o rfl rfl (Nat.le_of_ble_eq_true rfl) ⟨by omega, by omega, by omega, by omega⟩ (m_isPair_no2 hl (by omega) hσ hj hx2) (kr_some (x := .int (nI 0)) ?_) kx_no
  refine V_ifn_eq (tgt := 22) C dX7_meets__6 (by decide) (by decide) (fun hb1 => ?_) (fun hb1 => by exfalso; omega)
  refine V_iconst (v := nI 0) C dX7_meets__22 (by decide) ?_
  exact V_iret C .boolean dX7_meets__23 hr rfl ⟨rfl, rfl, _, _, _, _, rfl⟩ (by omega) (by omega)
set_option maxHeartbeats 4000000 in
theorem m_withDamp {l : Launch} {D : va_G} {ba d : Nat} {ad : Adr} (hl : l.stackTraces = false) (hd : 8 ≤ d) {i : Nat} {σ : CS} {th ro : Int32} {lo ma ap : Nat → Int32} {o : Wd} (hσ : cOK σ) {j : Nat} (hj : j < cN σ) {q : Nat} (hq : q < cK σ) {v : Nat} (hv : v ≤ 90) (hin : ¬ inR (nI v) (nI 0) (nI 90) = 0)  : CT l yX7_meetsWithDamping (wsO yX7_meetsWithDamping cX7_meetsWithDamping 4 (some .boolean)) d 8 64 D ba [.ref (ad [i]), .int (nI j), .int (nI q), .int (nI v)] ad (QW i ad σ th ro lo ma ap o) (RQ i ad σ o (nI 0) (some (.int (nI (metW (cH σ j) (cS σ q) v (hDu (cH σ j))))))) noX := by
  refine CT_of RX7 rfl (by decide +kernel) hl (Nat.le_of_ble_eq_true rfl) ?_
  intro p e s m args below meth c C hr hnm
  refine V_lvE (lv' := [(0, .ref (ad [i])), (1, .int (nI j)), (2, .int (nI q)), (3, .int (nI v))]) rfl ?_
  have hσ1 := hσ.1
  have hσ2 := hσ.2.1
  have hu := hσ.2.2.1 j hj
  have hu1 := hu.1
  have hu2 := hu.2.1
  have hu3 := hu.2.2.1
  have hu4 := hu.2.2.2.1
  refine V_aload_n C dX7_meetsWithDamping_0 0 rfl ?_
  refine V_iload_n C dX7_meetsWithDamping_1 1 rfl ?_
  refine V_iload_n C dX7_meetsWithDamping_2 2 rfl ?_
  refine V_callV (r := (RX7, TX7, 17)) C [.int (nI j), .int (nI q)] dX7_meetsWithDamping_3 m_X7_isPair k_X7_isPair tw_774 rfl rfl rfl QW_o rfl rfl (Nat.le_of_ble_eq_true rfl) ⟨by omega, by omega, by omega, by omega⟩ (m_isPair hl (by omega) hσ hj hq) (kr_some (x := .int (nI 1)) ?_) kx_no
  refine V_ifn_ne (tgt := 11) C dX7_meetsWithDamping_6 (by decide) (by decide) (fun hb1 => ?_) (fun hb1 => by exfalso; omega)
  refine V_iload_n C dX7_meetsWithDamping_11 3 rfl ?_
  refine V_iconst (v := nI 0) C dX7_meetsWithDamping_12 (by decide) ?_
  refine V_bipush (v := nI 90) C dX7_meetsWithDamping_13 (by decide) ?_
  have hin15 := inR_le (nI v) (nI 0) (nI 90)
  refine V_callS C [.int (nI v), .int (nI 0), .int (nI 90)] dX7_meetsWithDamping_15 m_X7_isIn k_X7_isIn tw_728 rfl rfl (Nat.le_of_ble_eq_true rfl) ⟨by omega, by omega, by omega, by omega⟩ (m_isIn hl (by omega) (nI v) (nI 0) (nI 90)) (kr_some (x := .int (nI (inR (nI v) (nI 0) (nI 90)))) ?_) kx_no
  refine V_ifn_eq (tgt := 37) C dX7_meetsWithDamping_18 (by decide) (by omega) (fun hb2 => by exfalso; exact hin hb2) (fun hb2 => ?_)
  refine V_aload_n C dX7_meetsWithDamping_21 0 rfl ?_
  refine V_iload_n C dX7_meetsWithDamping_22 1 rfl ?_
  refine V_iload_n C dX7_meetsWithDamping_23 2 rfl ?_
  refine V_iload_n C dX7_meetsWithDamping_24 3 rfl ?_
  refine V_aload_n C dX7_meetsWithDamping_25 0 rfl ?_
  refine V_get (ci := 6) (k := 7) C dX7_meetsWithDamping_26 RX7 RX7 TX7 17 fw_X7 rfl (by decide) tw_675 rfl rfl QW_o rfl ?_
  refine V_iload_n C dX7_meetsWithDamping_29 1 rfl ?_
  refine V_ialdn (v := (nI (hDu (cH σ j)))) C dX7_meetsWithDamping_30 rfl QW_3 (by omega) (by decide) (row0_in hj) ?_
  have hle31 := metW_le (cH σ j) (cS σ q) v (hDu (cH σ j))
  refine V_callV (r := (RX7, TX7, 17)) C [.int (nI j), .int (nI q), .int (nI v), .int (nI (hDu (cH σ j)))] dX7_meetsWithDamping_31 m_X7_meets k_X7_meets tw_786 rfl rfl rfl QW_o rfl rfl (Nat.le_of_ble_eq_true rfl) ⟨by omega, by omega, by omega, by omega⟩ (m_meets hl (by omega) hσ hj hq hv hu3) (kr_RQ (x := .int (nI (metW (cH σ j) (cS σ q) v (hDu (cH σ j))))) (fun ro lo ma ap => ?_)) kx_no
  refine V_goto (tgt := 42) C dX7_meetsWithDamping_34 (by decide) ?_
  exact V_iret C .boolean dX7_meetsWithDamping_42 hr (by rcases (show metW (cH σ j) (cS σ q) v (hDu (cH σ j)) = 0 ∨ metW (cH σ j) (cS σ q) v (hDu (cH σ j)) = 1 by have := metW_le (cH σ j) (cS σ q) v (hDu (cH σ j)); omega) with z | z <;> rw [z] <;> rfl) ⟨rfl, rfl, _, _, _, _, rfl⟩ (by omega) (by omega)
set_option maxHeartbeats 4000000 in
theorem m_withDamp_no {l : Launch} {D : va_G} {ba d : Nat} {ad : Adr} (hl : l.stackTraces = false) (hd : 8 ≤ d) {i : Nat} {σ : CS} {th ro : Int32} {lo ma ap : Nat → Int32} {o : Wd} (hσ : cOK σ) {x : Int32} (hx : ∀ j, j < cN σ → x ≠ nI j) (y : Int32) (z : Int32)  : CT l yX7_meetsWithDamping (wsO yX7_meetsWithDamping cX7_meetsWithDamping 4 (some .boolean)) d 8 64 D ba [.ref (ad [i]), .int x, .int y, .int z] ad (QW i ad σ th ro lo ma ap o) (RQ i ad σ o (nI 1) (some (.int (nI 0)))) noX := by
  refine CT_of RX7 rfl (by decide +kernel) hl (Nat.le_of_ble_eq_true rfl) ?_
  intro p e s m args below meth c C hr hnm
  refine V_lvE (lv' := [(0, .ref (ad [i])), (1, .int x), (2, .int y), (3, .int z)]) rfl ?_
  have hσ1 := hσ.1
  have hσ2 := hσ.2.1
  refine V_aload_n C dX7_meetsWithDamping_0 0 rfl ?_
  refine V_iload_n C dX7_meetsWithDamping_1 1 rfl ?_
  refine V_iload_n C dX7_meetsWithDamping_2 2 rfl ?_
  refine V_callV (r := (RX7, TX7, 17)) C [.int x, .int y] dX7_meetsWithDamping_3 m_X7_isPair k_X7_isPair tw_774 rfl rfl rfl QW_o rfl rfl (Nat.le_of_ble_eq_true rfl) ⟨by omega, by omega, by omega, by omega⟩ (m_isPair_no hl (by omega) hσ hx y) (kr_some (x := .int (nI 0)) ?_) kx_no
  refine V_ifn_ne (tgt := 11) C dX7_meetsWithDamping_6 (by decide) (by decide) (fun hb1 => by exfalso; omega) (fun hb1 => ?_)
  refine V_iconst (v := nI 0) C dX7_meetsWithDamping_9 (by decide) ?_
  exact V_iret C .boolean dX7_meetsWithDamping_10 hr rfl ⟨rfl, rfl, _, _, _, _, rfl⟩ (by omega) (by omega)
set_option maxHeartbeats 4000000 in
theorem m_withDamp_no2 {l : Launch} {D : va_G} {ba d : Nat} {ad : Adr} (hl : l.stackTraces = false) (hd : 8 ≤ d) {i : Nat} {σ : CS} {th ro : Int32} {lo ma ap : Nat → Int32} {o : Wd} (hσ : cOK σ) {j : Nat} (hj : j < cN σ) {x2 : Int32} (hx2 : ∀ j, j < cK σ → x2 ≠ nI j) (z : Int32)  : CT l yX7_meetsWithDamping (wsO yX7_meetsWithDamping cX7_meetsWithDamping 4 (some .boolean)) d 8 64 D ba [.ref (ad [i]), .int (nI j), .int x2, .int z] ad (QW i ad σ th ro lo ma ap o) (RQ i ad σ o (nI 1) (some (.int (nI 0)))) noX := by
  refine CT_of RX7 rfl (by decide +kernel) hl (Nat.le_of_ble_eq_true rfl) ?_
  intro p e s m args below meth c C hr hnm
  refine V_lvE (lv' := [(0, .ref (ad [i])), (1, .int (nI j)), (2, .int x2), (3, .int z)]) rfl ?_
  have hσ1 := hσ.1
  have hσ2 := hσ.2.1
  refine V_aload_n C dX7_meetsWithDamping_0 0 rfl ?_
  refine V_iload_n C dX7_meetsWithDamping_1 1 rfl ?_
  refine V_iload_n C dX7_meetsWithDamping_2 2 rfl ?_
  refine V_callV (r := (RX7, TX7, 17)) C [.int (nI j), .int x2] dX7_meetsWithDamping_3 m_X7_isPair k_X7_isPair tw_774 rfl rfl rfl QW_o rfl rfl (Nat.le_of_ble_eq_true rfl) ⟨by omega, by omega, by omega, by omega⟩ (m_isPair_no2 hl (by omega) hσ hj hx2) (kr_some (x := .int (nI 0)) ?_) kx_no
  refine V_ifn_ne (tgt := 11) C dX7_meetsWithDamping_6 (by decide) (by decide) (fun hb1 => by exfalso; omega) (fun hb1 => ?_)
  refine V_iconst (v := nI 0) C dX7_meetsWithDamping_9 (by decide) ?_
  exact V_iret C .boolean dX7_meetsWithDamping_10 hr rfl ⟨rfl, rfl, _, _, _, _, rfl⟩ (by omega) (by omega)
set_option maxHeartbeats 4000000 in
theorem m_withDamp_bad {l : Launch} {D : va_G} {ba d : Nat} {ad : Adr} (hl : l.stackTraces = false) (hd : 8 ≤ d) {i : Nat} {σ : CS} {th ro : Int32} {lo ma ap : Nat → Int32} {o : Wd} (hσ : cOK σ) {j : Nat} (hj : j < cN σ) {q : Nat} (hq : q < cK σ) {y : Int32} (hin : inR y (nI 0) (nI 90) = 0)  : CT l yX7_meetsWithDamping (wsO yX7_meetsWithDamping cX7_meetsWithDamping 4 (some .boolean)) d 8 64 D ba [.ref (ad [i]), .int (nI j), .int (nI q), .int y] ad (QW i ad σ th ro lo ma ap o) (RQ i ad σ o (nI 2) (some (.int (nI 0)))) noX := by
  refine CT_of RX7 rfl (by decide +kernel) hl (Nat.le_of_ble_eq_true rfl) ?_
  intro p e s m args below meth c C hr hnm
  refine V_lvE (lv' := [(0, .ref (ad [i])), (1, .int (nI j)), (2, .int (nI q)), (3, .int y)]) rfl ?_
  have hσ1 := hσ.1
  have hσ2 := hσ.2.1
  refine V_aload_n C dX7_meetsWithDamping_0 0 rfl ?_
  refine V_iload_n C dX7_meetsWithDamping_1 1 rfl ?_
  refine V_iload_n C dX7_meetsWithDamping_2 2 rfl ?_
  refine V_callV (r := (RX7, TX7, 17)) C [.int (nI j), .int (nI q)] dX7_meetsWithDamping_3 m_X7_isPair k_X7_isPair tw_774 rfl rfl rfl QW_o rfl rfl (Nat.le_of_ble_eq_true rfl) ⟨by omega, by omega, by omega, by omega⟩ (m_isPair hl (by omega) hσ hj hq) (kr_some (x := .int (nI 1)) ?_) kx_no
  refine V_ifn_ne (tgt := 11) C dX7_meetsWithDamping_6 (by decide) (by decide) (fun hb1 => ?_) (fun hb1 => by exfalso; omega)
  refine V_iload_n C dX7_meetsWithDamping_11 3 rfl ?_
  refine V_iconst (v := nI 0) C dX7_meetsWithDamping_12 (by decide) ?_
  refine V_bipush (v := nI 90) C dX7_meetsWithDamping_13 (by decide) ?_
  have hin15 := inR_le y (nI 0) (nI 90)
  refine V_callS C [.int y, .int (nI 0), .int (nI 90)] dX7_meetsWithDamping_15 m_X7_isIn k_X7_isIn tw_728 rfl rfl (Nat.le_of_ble_eq_true rfl) ⟨by omega, by omega, by omega, by omega⟩ (m_isIn hl (by omega) y (nI 0) (nI 90)) (kr_some (x := .int (nI (inR y (nI 0) (nI 90)))) ?_) kx_no
  rw [show inR y (nI 0) (nI 90) = 0 from hin]
  refine V_ifn_eq (tgt := 37) C dX7_meetsWithDamping_18 (by decide) (by decide) (fun hb2 => ?_) (fun hb2 => by exfalso; omega)
  refine V_aload_n C dX7_meetsWithDamping_37 0 rfl ?_
  refine V_iconst (v := nI 2) C dX7_meetsWithDamping_38 (by decide) ?_
  refine V_callV (r := (RX7, TX7, 17)) C [.int (nI 2)] dX7_meetsWithDamping_39 m_X7_failed k_X7_failed tw_904 rfl rfl rfl QW_o rfl rfl (Nat.le_of_ble_eq_true rfl) ⟨by omega, by omega, by omega, by omega⟩ (m_failed hl (by omega) (nI 2)) (kr_some (x := .int (nI 0)) ?_) kx_no
  exact V_iret C .boolean dX7_meetsWithDamping_42 hr rfl ⟨rfl, rfl, _, _, _, _, rfl⟩ (by omega) (by omega)
set_option maxHeartbeats 4000000 in
theorem lp_mleast {p : Program} {l : Launch} {e : Env} {s : State} {m : MethodId} {args : Array Value} {below : List Frame} {meth : Method} {c : Code} {D : va_G} {ba d mc ms : Nat} {ad : Adr} {QR : Option Value → Adr → Wd → Prop} {QX : String → Adr → Wd → Prop} (C : Cx p l s m args meth c D ba RX7 cX7_least 4 [] d) (hl : l.stackTraces = false) (hr : meth.sig.returnType = (some .int)) (hd : 6 ≤ d) {i : Nat} {σ : CS} {th : Int32} {o : Wd} (hσ : cOK σ) {j : Nat} (hj : j < cN σ) {q : Nat} (hq : q < cK σ)  : ∀ (n : Nat) (k : Nat) (ro : Int32) (lo ma ap : Nat → Int32), k + n = 91 → (∀ ro lo ma ap, QR (some (.int (fstF (fun v => metW (cH σ j) (cS σ q) v (hDu (cH σ j))) n k))) ad (QW i ad σ th ro lo ma ap o)) → V p l e s m args below meth c D ba d mc ms (MO D ba QR QX below args s mc ms) 4 ad (QW i ad σ th ro lo ma ap o) 2 [(3, .int (nI k)), (0, .ref (ad [i])), (1, .int (nI j)), (2, .int (nI q))] [] 0 0 := by
  intro n
  induction n with
  | zero =>
    intro k ro lo ma ap hk hq1
    have hσ1 := hσ.1
    have hu := hσ.2.2.1 j hj
    have hu1 := hu.1
    have hu2 := hu.2.1
    have hu3 := hu.2.2.1
    have hu4 := hu.2.2.2.1
    refine V_iload_n C dX7_least_2 0 rfl ?_
    refine V_bipush (v := nI 90) C dX7_least_3 (by decide) ?_
    refine V_icmpn_gt (tgt := 32) C dX7_least_5 (by decide) (by omega) (by decide) (fun hb1 => ?_) (fun hb1 => by exfalso; omega)
    refine V_iconst (v := -1) C dX7_least_32 (by decide) ?_
    exact V_iret C .int dX7_least_33 hr rfl (hq1 _ _ _ _) (by omega) (by omega)
  | succ n ih =>
    intro k ro lo ma ap hk hq1
    have hσ1 := hσ.1
    have hu := hσ.2.2.1 j hj
    have hu1 := hu.1
    have hu2 := hu.2.1
    have hu3 := hu.2.2.1
    have hu4 := hu.2.2.2.1
    refine V_iload_n C dX7_least_2 0 rfl ?_
    refine V_bipush (v := nI 90) C dX7_least_3 (by decide) ?_
    refine V_icmpn_gt (tgt := 32) C dX7_least_5 (by decide) (by omega) (by decide) (fun hb1 => by exfalso; omega) (fun hb1 => ?_)
    refine V_aload_n C dX7_least_8 1 rfl ?_
    refine V_iload_n C dX7_least_9 2 rfl ?_
    refine V_iload_n C dX7_least_10 3 rfl ?_
    refine V_iload_n C dX7_least_11 0 rfl ?_
    refine V_aload_n C dX7_least_12 1 rfl ?_
    refine V_get (ci := 6) (k := 7) C dX7_least_13 RX7 RX7 TX7 17 fw_X7 rfl (by decide) tw_675 rfl rfl QW_o rfl ?_
    refine V_iload_n C dX7_least_16 2 rfl ?_
    refine V_ialdn (v := (nI (hDu (cH σ j)))) C dX7_least_17 rfl QW_3 (by omega) (by decide) (row0_in hj) ?_
    have hle18 := metW_le (cH σ j) (cS σ q) k (hDu (cH σ j))
    refine V_callV (r := (RX7, TX7, 17)) C [.int (nI j), .int (nI q), .int (nI k), .int (nI (hDu (cH σ j)))] dX7_least_18 m_X7_meets k_X7_meets tw_786 rfl rfl rfl QW_o rfl rfl (Nat.le_of_ble_eq_true rfl) ⟨by omega, by omega, by omega, by omega⟩ (m_meets hl (by omega) hσ hj hq (by omega) hu3) (kr_RQ (x := .int (nI (metW (cH σ j) (cS σ q) k (hDu (cH σ j))))) (fun ro lo ma ap => ?_)) kx_no
    refine V_ifn_eq (tgt := 26) C dX7_least_21 (by decide) (by omega) (fun hb2 => ?_) (fun hb2 => ?_)
    · skip
      refine V_iincn C [(3, .int (nI (k + 1))), (0, .ref (ad [i])), (1, .int (nI j)), (2, .int (nI q))] dX7_least_26 0 rfl (by decide) rfl ?_
      refine V_goto (tgt := 2) C dX7_least_29 (by decide) ?_
      refine V_lv [0, 1, 2, 3] rfl ?_
      exact ih (k + 1) _ _ _ _ (by omega) (by rw [fstF, if_pos hb2] at hq1; exact hq1)
    · skip
      refine V_iload_n C dX7_least_24 0 rfl ?_
      exact V_iret C .int dX7_least_25 hr rfl (by rw [fstF, if_neg hb2] at hq1; exact hq1 _ _ _ _) (by omega) (by omega)
set_option maxHeartbeats 4000000 in
theorem m_least {l : Launch} {D : va_G} {ba d : Nat} {ad : Adr} (hl : l.stackTraces = false) (hd : 6 ≤ d) {i : Nat} {σ : CS} {th ro : Int32} {lo ma ap : Nat → Int32} {o : Wd} (hσ : cOK σ) {j : Nat} (hj : j < cN σ) {q : Nat} (hq : q < cK σ)  : CT l yX7_least (wsO yX7_least cX7_least 4 (some .int)) d 0 0 D ba [.ref (ad [i]), .int (nI j), .int (nI q)] ad (QW i ad σ th ro lo ma ap o) (RQ i ad σ o th (some (.int (fstF (fun v => metW (cH σ j) (cS σ q) v (hDu (cH σ j))) 91 0)))) noX := by
  refine CT_of RX7 rfl (by decide +kernel) hl (Nat.le_of_ble_eq_true rfl) ?_
  intro p e s m args below meth c C hr hnm
  refine V_lvE (lv' := [(0, .ref (ad [i])), (1, .int (nI j)), (2, .int (nI q))]) rfl ?_
  have hσ1 := hσ.1
  have hσ2 := hσ.2.1
  refine V_iconst (v := nI 0) C dX7_least_0 (by decide) ?_
  refine V_istore_n C [(3, .int (nI 0)), (0, .ref (ad [i])), (1, .int (nI j)), (2, .int (nI q))] dX7_least_1 (by decide) rfl ?_
  refine V_lv [0, 1, 2, 3] rfl ?_
  exact lp_mleast C hl hr (by omega) hσ hj hq 91 0 _ _ _ _ (by omega) (fun _ _ _ _ => ⟨rfl, rfl, _, _, _, _, rfl⟩)
set_option maxHeartbeats 4000000 in
theorem m_leastDamping {l : Launch} {D : va_G} {ba d : Nat} {ad : Adr} (hl : l.stackTraces = false) (hd : 8 ≤ d) {i : Nat} {σ : CS} {th ro : Int32} {lo ma ap : Nat → Int32} {o : Wd} (hσ : cOK σ) {j : Nat} (hj : j < cN σ) {q : Nat} (hq : q < cK σ)  : CT l yX7_leastDamping (wsO yX7_leastDamping cX7_leastDamping 3 (some .int)) d 8 64 D ba [.ref (ad [i]), .int (nI j), .int (nI q)] ad (QW i ad σ th ro lo ma ap o) (RQ i ad σ o (nI 0) (some (.int (fstF (fun v => metW (cH σ j) (cS σ q) v (hDu (cH σ j))) 91 0)))) noX := by
  refine CT_of RX7 rfl (by decide +kernel) hl (Nat.le_of_ble_eq_true rfl) ?_
  intro p e s m args below meth c C hr hnm
  refine V_lvE (lv' := [(0, .ref (ad [i])), (1, .int (nI j)), (2, .int (nI q))]) rfl ?_
  have hσ1 := hσ.1
  have hσ2 := hσ.2.1
  refine V_aload_n C dX7_leastDamping_0 0 rfl ?_
  refine V_iload_n C dX7_leastDamping_1 1 rfl ?_
  refine V_iload_n C dX7_leastDamping_2 2 rfl ?_
  refine V_callV (r := (RX7, TX7, 17)) C [.int (nI j), .int (nI q)] dX7_leastDamping_3 m_X7_isPair k_X7_isPair tw_774 rfl rfl rfl QW_o rfl rfl (Nat.le_of_ble_eq_true rfl) ⟨by omega, by omega, by omega, by omega⟩ (m_isPair hl (by omega) hσ hj hq) (kr_some (x := .int (nI 1)) ?_) kx_no
  refine V_ifn_eq (tgt := 18) C dX7_leastDamping_6 (by decide) (by decide) (fun hb1 => by exfalso; omega) (fun hb1 => ?_)
  refine V_aload_n C dX7_leastDamping_9 0 rfl ?_
  refine V_iload_n C dX7_leastDamping_10 1 rfl ?_
  refine V_iload_n C dX7_leastDamping_11 2 rfl ?_
  refine V_callV (r := (RX7, TX7, 17)) C [.int (nI j), .int (nI q)] dX7_leastDamping_12 m_X7_least k_X7_least tw_944 rfl rfl rfl QW_o rfl rfl (Nat.le_of_ble_eq_true rfl) ⟨by omega, by omega, by omega, by omega⟩ (m_least hl (by omega) hσ hj hq) (kr_RQ (x := .int (fstF (fun v => metW (cH σ j) (cS σ q) v (hDu (cH σ j))) 91 0)) (fun ro lo ma ap => ?_)) kx_no
  refine V_goto (tgt := 19) C dX7_leastDamping_15 (by decide) ?_
  exact V_iret C .int dX7_leastDamping_19 hr rfl ⟨rfl, rfl, _, _, _, _, rfl⟩ (by omega) (by omega)
set_option maxHeartbeats 4000000 in
theorem m_leastDamping_no {l : Launch} {D : va_G} {ba d : Nat} {ad : Adr} (hl : l.stackTraces = false) (hd : 8 ≤ d) {i : Nat} {σ : CS} {th ro : Int32} {lo ma ap : Nat → Int32} {o : Wd} (hσ : cOK σ) {x : Int32} (hx : ∀ j, j < cN σ → x ≠ nI j) (y : Int32)  : CT l yX7_leastDamping (wsO yX7_leastDamping cX7_leastDamping 3 (some .int)) d 8 64 D ba [.ref (ad [i]), .int x, .int y] ad (QW i ad σ th ro lo ma ap o) (RQ i ad σ o (nI 1) (some (.int (nI 0)))) noX := by
  refine CT_of RX7 rfl (by decide +kernel) hl (Nat.le_of_ble_eq_true rfl) ?_
  intro p e s m args below meth c C hr hnm
  refine V_lvE (lv' := [(0, .ref (ad [i])), (1, .int x), (2, .int y)]) rfl ?_
  have hσ1 := hσ.1
  have hσ2 := hσ.2.1
  refine V_aload_n C dX7_leastDamping_0 0 rfl ?_
  refine V_iload_n C dX7_leastDamping_1 1 rfl ?_
  refine V_iload_n C dX7_leastDamping_2 2 rfl ?_
  refine V_callV (r := (RX7, TX7, 17)) C [.int x, .int y] dX7_leastDamping_3 m_X7_isPair k_X7_isPair tw_774 rfl rfl rfl QW_o rfl rfl (Nat.le_of_ble_eq_true rfl) ⟨by omega, by omega, by omega, by omega⟩ (m_isPair_no hl (by omega) hσ hx y) (kr_some (x := .int (nI 0)) ?_) kx_no
  refine V_ifn_eq (tgt := 18) C dX7_leastDamping_6 (by decide) (by decide) (fun hb1 => ?_) (fun hb1 => by exfalso; omega)
  refine V_iconst (v := nI 0) C dX7_leastDamping_18 (by decide) ?_
  exact V_iret C .int dX7_leastDamping_19 hr rfl ⟨rfl, rfl, _, _, _, _, rfl⟩ (by omega) (by omega)
set_option maxHeartbeats 4000000 in
theorem m_leastDamping_no2 {l : Launch} {D : va_G} {ba d : Nat} {ad : Adr} (hl : l.stackTraces = false) (hd : 8 ≤ d) {i : Nat} {σ : CS} {th ro : Int32} {lo ma ap : Nat → Int32} {o : Wd} (hσ : cOK σ) {j : Nat} (hj : j < cN σ) {x2 : Int32} (hx2 : ∀ j, j < cK σ → x2 ≠ nI j)  : CT l yX7_leastDamping (wsO yX7_leastDamping cX7_leastDamping 3 (some .int)) d 8 64 D ba [.ref (ad [i]), .int (nI j), .int x2] ad (QW i ad σ th ro lo ma ap o) (RQ i ad σ o (nI 1) (some (.int (nI 0)))) noX := by
  refine CT_of RX7 rfl (by decide +kernel) hl (Nat.le_of_ble_eq_true rfl) ?_
  intro p e s m args below meth c C hr hnm
  refine V_lvE (lv' := [(0, .ref (ad [i])), (1, .int (nI j)), (2, .int x2)]) rfl ?_
  have hσ1 := hσ.1
  have hσ2 := hσ.2.1
  refine V_aload_n C dX7_leastDamping_0 0 rfl ?_
  refine V_iload_n C dX7_leastDamping_1 1 rfl ?_
  refine V_iload_n C dX7_leastDamping_2 2 rfl ?_
  refine V_callV (r := (RX7, TX7, 17)) C [.int (nI j), .int x2] dX7_leastDamping_3 m_X7_isPair k_X7_isPair tw_774 rfl rfl rfl QW_o rfl rfl (Nat.le_of_ble_eq_true rfl) ⟨by omega, by omega, by omega, by omega⟩ (m_isPair_no2 hl (by omega) hσ hj hx2) (kr_some (x := .int (nI 0)) ?_) kx_no
  refine V_ifn_eq (tgt := 18) C dX7_leastDamping_6 (by decide) (by decide) (fun hb1 => ?_) (fun hb1 => by exfalso; omega)
  refine V_iconst (v := nI 0) C dX7_leastDamping_18 (by decide) ?_
  exact V_iret C .int dX7_leastDamping_19 hr rfl ⟨rfl, rfl, _, _, _, _, rfl⟩ (by omega) (by omega)
set_option maxHeartbeats 4000000 in
theorem lp_mdays {p : Program} {l : Launch} {e : Env} {s : State} {m : MethodId} {args : Array Value} {below : List Frame} {meth : Method} {c : Code} {D : va_G} {ba d mc ms : Nat} {ad : Adr} {QR : Option Value → Adr → Wd → Prop} {QX : String → Adr → Wd → Prop} (C : Cx p l s m args meth c D ba RX7 cX7_daysUntilMet 4 [] d) (hl : l.stackTraces = false) (hr : meth.sig.returnType = (some .int)) (hd : 6 ≤ d) {i : Nat} {σ : CS} {th : Int32} {o : Wd} (hσ : cOK σ) {j : Nat} (hj : j < cN σ) {q : Nat} (hq : q < cK σ)  : ∀ (n : Nat) (k : Nat) (ro : Int32) (lo ma ap : Nat → Int32), k + n = 101 → (∀ ro lo ma ap, QR (some (.int (fstF (fun v => metW (cH σ j) (cS σ q) (hDm (cH σ j)) (min 100 (hDu (cH σ j) + v))) n k))) ad (QW i ad σ (nI 0) ro lo ma ap o)) → V p l e s m args below meth c D ba d mc ms (MO D ba QR QX below args s mc ms) 4 ad (QW i ad σ (nI 0) ro lo ma ap o) 13 [(3, .int (nI k)), (0, .ref (ad [i])), (1, .int (nI j)), (2, .int (nI q))] [] 0 0 := by
  intro n
  induction n with
  | zero =>
    intro k ro lo ma ap hk hq1
    have hσ1 := hσ.1
    have hu := hσ.2.2.1 j hj
    have hu1 := hu.1
    have hu2 := hu.2.1
    have hu3 := hu.2.2.1
    have hu4 := hu.2.2.2.1
    refine V_iload_n C dX7_daysUntilMet_13 0 rfl ?_
    refine V_bipush (v := nI 100) C dX7_daysUntilMet_14 (by decide) ?_
    refine V_icmpn_gt (tgt := 55) C dX7_daysUntilMet_16 (by decide) (by omega) (by decide) (fun hb1 => ?_) (fun hb1 => by exfalso; omega)
    refine V_iconst (v := -1) C dX7_daysUntilMet_55 (by decide) ?_
    exact V_iret C .int dX7_daysUntilMet_56 hr rfl (hq1 _ _ _ _) (by omega) (by omega)
  | succ n ih =>
    intro k ro lo ma ap hk hq1
    have hσ1 := hσ.1
    have hu := hσ.2.2.1 j hj
    have hu1 := hu.1
    have hu2 := hu.2.1
    have hu3 := hu.2.2.1
    have hu4 := hu.2.2.2.1
    refine V_iload_n C dX7_daysUntilMet_13 0 rfl ?_
    refine V_bipush (v := nI 100) C dX7_daysUntilMet_14 (by decide) ?_
    refine V_icmpn_gt (tgt := 55) C dX7_daysUntilMet_16 (by decide) (by omega) (by decide) (fun hb1 => by exfalso; omega) (fun hb1 => ?_)
    refine V_aload_n C dX7_daysUntilMet_19 1 rfl ?_
    refine V_iload_n C dX7_daysUntilMet_20 2 rfl ?_
    refine V_iload_n C dX7_daysUntilMet_21 3 rfl ?_
    refine V_aload_n C dX7_daysUntilMet_22 1 rfl ?_
    refine V_get (ci := 6) (k := 6) C dX7_daysUntilMet_23 RX7 RX7 TX7 17 fw_X7 rfl (by decide) tw_674 rfl rfl QW_o rfl ?_
    refine V_iload_n C dX7_daysUntilMet_26 2 rfl ?_
    refine V_ialdn (v := (nI (hDm (cH σ j)))) C dX7_daysUntilMet_27 rfl QW_2 (by omega) (by decide) (row0_in hj) ?_
    refine V_bipush (v := nI 100) C dX7_daysUntilMet_28 (by decide) ?_
    refine V_aload_n C dX7_daysUntilMet_30 1 rfl ?_
    refine V_get (ci := 6) (k := 7) C dX7_daysUntilMet_31 RX7 RX7 TX7 17 fw_X7 rfl (by decide) tw_675 rfl rfl QW_o rfl ?_
    refine V_iload_n C dX7_daysUntilMet_34 2 rfl ?_
    refine V_ialdn (v := (nI (hDu (cH σ j)))) C dX7_daysUntilMet_35 rfl QW_3 (by omega) (by decide) (row0_in hj) ?_
    refine V_iload_n C dX7_daysUntilMet_36 0 rfl ?_
    refine V_iaddn C dX7_daysUntilMet_37 ?_
    refine V_min C dX7_daysUntilMet_38 tw_827 tw_505 tw_15 tw_506 (by omega) (by simp [Value.category]; try omega) (by omega) (by omega) ?_
    rw [show (if (nI ((hDu (cH σ j)) + k)) < (nI 100) then (nI ((hDu (cH σ j)) + k)) else (nI 100)) = (nI (min 100 (hDu (cH σ j) + k))) from nI_min (by omega) (by omega)]
    have hle41 := metW_le (cH σ j) (cS σ q) (hDm (cH σ j)) (min 100 (hDu (cH σ j) + k))
    refine V_callV (r := (RX7, TX7, 17)) C [.int (nI j), .int (nI q), .int (nI (hDm (cH σ j))), .int (nI (min 100 (hDu (cH σ j) + k)))] dX7_daysUntilMet_41 m_X7_meets k_X7_meets tw_786 rfl rfl rfl QW_o rfl rfl (Nat.le_of_ble_eq_true rfl) ⟨by omega, by omega, by omega, by omega⟩ (m_meets hl (by omega) hσ hj hq hu2 (Nat.min_le_left _ _)) (kr_RQ (x := .int (nI (metW (cH σ j) (cS σ q) (hDm (cH σ j)) (min 100 (hDu (cH σ j) + k))))) (fun ro lo ma ap => ?_)) kx_no
    refine V_ifn_eq (tgt := 49) C dX7_daysUntilMet_44 (by decide) (by omega) (fun hb2 => ?_) (fun hb2 => ?_)
    · skip
      refine V_iincn C [(3, .int (nI (k + 1))), (0, .ref (ad [i])), (1, .int (nI j)), (2, .int (nI q))] dX7_daysUntilMet_49 0 rfl (by decide) rfl ?_
      refine V_goto (tgt := 13) C dX7_daysUntilMet_52 (by decide) ?_
      refine V_lv [0, 1, 2, 3] rfl ?_
      exact ih (k + 1) _ _ _ _ (by omega) (by rw [fstF, if_pos hb2] at hq1; exact hq1)
    · skip
      refine V_iload_n C dX7_daysUntilMet_47 0 rfl ?_
      exact V_iret C .int dX7_daysUntilMet_48 hr rfl (by rw [fstF, if_neg hb2] at hq1; exact hq1 _ _ _ _) (by omega) (by omega)
set_option maxHeartbeats 4000000 in
theorem m_days {l : Launch} {D : va_G} {ba d : Nat} {ad : Adr} (hl : l.stackTraces = false) (hd : 8 ≤ d) {i : Nat} {σ : CS} {th ro : Int32} {lo ma ap : Nat → Int32} {o : Wd} (hσ : cOK σ) {j : Nat} (hj : j < cN σ) {q : Nat} (hq : q < cK σ)  : CT l yX7_daysUntilMet (wsO yX7_daysUntilMet cX7_daysUntilMet 4 (some .int)) d 8 64 D ba [.ref (ad [i]), .int (nI j), .int (nI q)] ad (QW i ad σ th ro lo ma ap o) (RQ i ad σ o (nI 0) (some (.int (fstF (fun v => metW (cH σ j) (cS σ q) (hDm (cH σ j)) (min 100 (hDu (cH σ j) + v))) 101 0)))) noX := by
  refine CT_of RX7 rfl (by decide +kernel) hl (Nat.le_of_ble_eq_true rfl) ?_
  intro p e s m args below meth c C hr hnm
  refine V_lvE (lv' := [(0, .ref (ad [i])), (1, .int (nI j)), (2, .int (nI q))]) rfl ?_
  have hσ1 := hσ.1
  have hσ2 := hσ.2.1
  refine V_aload_n C dX7_daysUntilMet_0 0 rfl ?_
  refine V_iload_n C dX7_daysUntilMet_1 1 rfl ?_
  refine V_iload_n C dX7_daysUntilMet_2 2 rfl ?_
  refine V_callV (r := (RX7, TX7, 17)) C [.int (nI j), .int (nI q)] dX7_daysUntilMet_3 m_X7_isPair k_X7_isPair tw_774 rfl rfl rfl QW_o rfl rfl (Nat.le_of_ble_eq_true rfl) ⟨by omega, by omega, by omega, by omega⟩ (m_isPair hl (by omega) hσ hj hq) (kr_some (x := .int (nI 1)) ?_) kx_no
  refine V_ifn_ne (tgt := 11) C dX7_daysUntilMet_6 (by decide) (by decide) (fun hb1 => ?_) (fun hb1 => by exfalso; omega)
  refine V_iconst (v := nI 0) C dX7_daysUntilMet_11 (by decide) ?_
  refine V_istore_n C [(3, .int (nI 0)), (0, .ref (ad [i])), (1, .int (nI j)), (2, .int (nI q))] dX7_daysUntilMet_12 (by decide) rfl ?_
  refine V_lv [0, 1, 2, 3] rfl ?_
  exact lp_mdays (th := th) C hl hr (by omega) hσ hj hq 101 0 _ _ _ _ (by omega) (fun _ _ _ _ => ⟨rfl, rfl, _, _, _, _, rfl⟩)
set_option maxHeartbeats 4000000 in
theorem m_days_no {l : Launch} {D : va_G} {ba d : Nat} {ad : Adr} (hl : l.stackTraces = false) (hd : 8 ≤ d) {i : Nat} {σ : CS} {th ro : Int32} {lo ma ap : Nat → Int32} {o : Wd} (hσ : cOK σ) {x : Int32} (hx : ∀ j, j < cN σ → x ≠ nI j) (y : Int32)  : CT l yX7_daysUntilMet (wsO yX7_daysUntilMet cX7_daysUntilMet 4 (some .int)) d 8 64 D ba [.ref (ad [i]), .int x, .int y] ad (QW i ad σ th ro lo ma ap o) (RQ i ad σ o (nI 1) (some (.int (nI 0)))) noX := by
  refine CT_of RX7 rfl (by decide +kernel) hl (Nat.le_of_ble_eq_true rfl) ?_
  intro p e s m args below meth c C hr hnm
  refine V_lvE (lv' := [(0, .ref (ad [i])), (1, .int x), (2, .int y)]) rfl ?_
  have hσ1 := hσ.1
  have hσ2 := hσ.2.1
  refine V_aload_n C dX7_daysUntilMet_0 0 rfl ?_
  refine V_iload_n C dX7_daysUntilMet_1 1 rfl ?_
  refine V_iload_n C dX7_daysUntilMet_2 2 rfl ?_
  refine V_callV (r := (RX7, TX7, 17)) C [.int x, .int y] dX7_daysUntilMet_3 m_X7_isPair k_X7_isPair tw_774 rfl rfl rfl QW_o rfl rfl (Nat.le_of_ble_eq_true rfl) ⟨by omega, by omega, by omega, by omega⟩ (m_isPair_no hl (by omega) hσ hx y) (kr_some (x := .int (nI 0)) ?_) kx_no
  refine V_ifn_ne (tgt := 11) C dX7_daysUntilMet_6 (by decide) (by decide) (fun hb1 => by exfalso; omega) (fun hb1 => ?_)
  refine V_iconst (v := nI 0) C dX7_daysUntilMet_9 (by decide) ?_
  exact V_iret C .int dX7_daysUntilMet_10 hr rfl ⟨rfl, rfl, _, _, _, _, rfl⟩ (by omega) (by omega)
set_option maxHeartbeats 4000000 in
theorem m_days_no2 {l : Launch} {D : va_G} {ba d : Nat} {ad : Adr} (hl : l.stackTraces = false) (hd : 8 ≤ d) {i : Nat} {σ : CS} {th ro : Int32} {lo ma ap : Nat → Int32} {o : Wd} (hσ : cOK σ) {j : Nat} (hj : j < cN σ) {x2 : Int32} (hx2 : ∀ j, j < cK σ → x2 ≠ nI j)  : CT l yX7_daysUntilMet (wsO yX7_daysUntilMet cX7_daysUntilMet 4 (some .int)) d 8 64 D ba [.ref (ad [i]), .int (nI j), .int x2] ad (QW i ad σ th ro lo ma ap o) (RQ i ad σ o (nI 1) (some (.int (nI 0)))) noX := by
  refine CT_of RX7 rfl (by decide +kernel) hl (Nat.le_of_ble_eq_true rfl) ?_
  intro p e s m args below meth c C hr hnm
  refine V_lvE (lv' := [(0, .ref (ad [i])), (1, .int (nI j)), (2, .int x2)]) rfl ?_
  have hσ1 := hσ.1
  have hσ2 := hσ.2.1
  refine V_aload_n C dX7_daysUntilMet_0 0 rfl ?_
  refine V_iload_n C dX7_daysUntilMet_1 1 rfl ?_
  refine V_iload_n C dX7_daysUntilMet_2 2 rfl ?_
  refine V_callV (r := (RX7, TX7, 17)) C [.int (nI j), .int x2] dX7_daysUntilMet_3 m_X7_isPair k_X7_isPair tw_774 rfl rfl rfl QW_o rfl rfl (Nat.le_of_ble_eq_true rfl) ⟨by omega, by omega, by omega, by omega⟩ (m_isPair_no2 hl (by omega) hσ hj hx2) (kr_some (x := .int (nI 0)) ?_) kx_no
  refine V_ifn_ne (tgt := 11) C dX7_daysUntilMet_6 (by decide) (by decide) (fun hb1 => by exfalso; omega) (fun hb1 => ?_)
  refine V_iconst (v := nI 0) C dX7_daysUntilMet_9 (by decide) ?_
  exact V_iret C .int dX7_daysUntilMet_10 hr rfl ⟨rfl, rfl, _, _, _, _, rfl⟩ (by omega) (by omega)
set_option maxHeartbeats 4000000 in
theorem lp_mhm {p : Program} {l : Launch} {e : Env} {s : State} {m : MethodId} {args : Array Value} {below : List Frame} {meth : Method} {c : Code} {D : va_G} {ba d mc ms : Nat} {ad : Adr} {QR : Option Value → Adr → Wd → Prop} {QX : String → Adr → Wd → Prop} (C : Cx p l s m args meth c D ba RX7 cX7_hallsMeeting 4 [] d) (hl : l.stackTraces = false) (hr : meth.sig.returnType = (some .int)) (hd : 8 ≤ d) {i : Nat} {σ : CS} {o : Wd} (hσ : cOK σ) {q : Nat} (hq : q < cK σ) (hq1 : ∀ ro lo ma ap, QR (some (.int (nI (metC (cS σ q) (cH σ) (cN σ))))) ad (QW i ad σ (nI 0) ro lo ma ap o))  : ∀ (n : Nat) (k : Nat) (ro : Int32) (lo ma ap : Nat → Int32), k + n = cN σ → V p l e s m args below meth c D ba d mc ms (MO D ba QR QX below args s mc ms) 4 ad (QW i ad σ (nI 0) ro lo ma ap o) 23 [(3, .int (nI k)), (2, .int (nI (upF (metN (cS σ q) (cH σ)) k 0))), (0, .ref (ad [i])), (1, .int (nI q))] [] 0 0 := by
  intro n
  induction n with
  | zero =>
    intro k ro lo ma ap hk
    have hσ1 := hσ.1
    refine V_iload_n C dX7_hallsMeeting_23 0 rfl ?_
    refine V_aload_n C dX7_hallsMeeting_24 2 rfl ?_
    refine V_get (ci := 6) (k := 1) C dX7_hallsMeeting_25 RX7 RX7 TX7 17 fw_X7 rfl (by decide) tw_669 rfl rfl QW_o rfl ?_
    refine V_icmpn_ge (tgt := 54) C dX7_hallsMeeting_28 (by decide) (by omega) (by omega) (fun hb1 => ?_) (fun hb1 => by exfalso; omega)
    refine V_iload_n C dX7_hallsMeeting_54 1 rfl ?_
    exact V_iret C .int dX7_hallsMeeting_55 hr rfl (by rw [show k = cN σ by omega]; exact hq1 _ _ _ _) (by omega) (by omega)
  | succ n ih =>
    intro k ro lo ma ap hk
    have hσ1 := hσ.1
    have hks : k < cN σ := by omega
    refine V_iload_n C dX7_hallsMeeting_23 0 rfl ?_
    refine V_aload_n C dX7_hallsMeeting_24 2 rfl ?_
    refine V_get (ci := 6) (k := 1) C dX7_hallsMeeting_25 RX7 RX7 TX7 17 fw_X7 rfl (by decide) tw_669 rfl rfl QW_o rfl ?_
    refine V_icmpn_ge (tgt := 54) C dX7_hallsMeeting_28 (by decide) (by omega) (by omega) (fun hb1 => by exfalso; omega) (fun hb1 => ?_)
    refine V_iload_n C dX7_hallsMeeting_31 1 rfl ?_
    refine V_aload_n C dX7_hallsMeeting_32 2 rfl ?_
    refine V_iload_n C dX7_hallsMeeting_33 0 rfl ?_
    refine V_iload_n C dX7_hallsMeeting_34 3 rfl ?_
    have hle35 := metW_le (cH σ k) (cS σ q) (hDm (cH σ k)) (hDu (cH σ k))
    refine V_callV (r := (RX7, TX7, 17)) C [.int (nI k), .int (nI q)] dX7_hallsMeeting_35 m_X7_meetsNow k_X7_meetsNow tw_782 rfl rfl rfl QW_o rfl rfl (Nat.le_of_ble_eq_true rfl) ⟨by omega, by omega, by omega, by omega⟩ (m_meetsNow hl (by omega) hσ hks hq) (kr_RQ (x := .int (nI (metW (cH σ k) (cS σ q) (hDm (cH σ k)) (hDu (cH σ k))))) (fun ro lo ma ap => ?_)) kx_no
    refine V_ifn_eq (tgt := 45) C dX7_hallsMeeting_38 (by decide) (by omega) (fun hb2 => ?_) (fun hb2 => ?_)
    · skip
      refine V_iconst (v := nI 0) C dX7_hallsMeeting_45 (by decide) ?_
      refine V_iaddn C dX7_hallsMeeting_46 ?_
      refine V_istore_n C [(2, .int (nI ((upF (metN (cS σ q) (cH σ)) k 0) + 0))), (3, .int (nI k)), (0, .ref (ad [i])), (1, .int (nI q))] dX7_hallsMeeting_47 (by decide) rfl ?_
      refine V_iincn C [(3, .int (nI (k + 1))), (2, .int (nI ((upF (metN (cS σ q) (cH σ)) k 0) + 0))), (0, .ref (ad [i])), (1, .int (nI q))] dX7_hallsMeeting_48 1 rfl (by decide) rfl ?_
      refine V_goto (tgt := 23) C dX7_hallsMeeting_51 (by decide) ?_
      rw [show (upF (metN (cS σ q) (cH σ)) k 0) + 0 = upF (metN (cS σ q) (cH σ)) (k + 1) 0 from by rw [Nat.add_zero]; show _ = metN _ _ _ _; unfold metN; rw [if_pos hb2]]
      refine V_lv [0, 1, 2, 3] rfl ?_
      exact ih (k + 1) _ _ _ _ (by omega)
    · skip
      refine V_iconst (v := nI 1) C dX7_hallsMeeting_41 (by decide) ?_
      refine V_goto (tgt := 46) C dX7_hallsMeeting_42 (by decide) ?_
      refine V_iaddn C dX7_hallsMeeting_46 ?_
      refine V_istore_n C [(2, .int (nI ((upF (metN (cS σ q) (cH σ)) k 0) + 1))), (3, .int (nI k)), (0, .ref (ad [i])), (1, .int (nI q))] dX7_hallsMeeting_47 (by decide) rfl ?_
      refine V_iincn C [(3, .int (nI (k + 1))), (2, .int (nI ((upF (metN (cS σ q) (cH σ)) k 0) + 1))), (0, .ref (ad [i])), (1, .int (nI q))] dX7_hallsMeeting_48 1 rfl (by decide) rfl ?_
      refine V_goto (tgt := 23) C dX7_hallsMeeting_51 (by decide) ?_
      rw [show (upF (metN (cS σ q) (cH σ)) k 0) + 1 = upF (metN (cS σ q) (cH σ)) (k + 1) 0 from by show _ = metN _ _ _ _; unfold metN; rw [if_neg hb2]]
      refine V_lv [0, 1, 2, 3] rfl ?_
      exact ih (k + 1) _ _ _ _ (by omega)
set_option maxHeartbeats 4000000 in
theorem m_hallsMeeting {l : Launch} {D : va_G} {ba d : Nat} {ad : Adr} (hl : l.stackTraces = false) (hd : 8 ≤ d) {i : Nat} {σ : CS} {th ro : Int32} {lo ma ap : Nat → Int32} {o : Wd} (hσ : cOK σ) {q : Nat} (hq : q < cK σ)  : CT l yX7_hallsMeeting (wsO yX7_hallsMeeting cX7_hallsMeeting 4 (some .int)) d 8 64 D ba [.ref (ad [i]), .int (nI q)] ad (QW i ad σ th ro lo ma ap o) (RQ i ad σ o (nI 0) (some (.int (nI (metC (cS σ q) (cH σ) (cN σ)))))) noX := by
  refine CT_of RX7 rfl (by decide +kernel) hl (Nat.le_of_ble_eq_true rfl) ?_
  intro p e s m args below meth c C hr hnm
  refine V_lvE (lv' := [(0, .ref (ad [i])), (1, .int (nI q))]) rfl ?_
  have hσ1 := hσ.1
  have hσ2 := hσ.2.1
  refine V_aload_n C dX7_hallsMeeting_0 0 rfl ?_
  refine V_iconst (v := nI 0) C dX7_hallsMeeting_1 (by decide) ?_
  refine V_put (ci := 6) (k := 0) C dX7_hallsMeeting_2 RX7 RX7 TX7 17 tyX7 tyX7_ok nmX7 fw_X7 rfl (by decide) tw_668 rfl (Or.inl rfl) rfl rfl rfl QW_o (Nat.le_of_ble_eq_true rfl) ?_
  refine V_wd (w' := wset (QW i ad σ th ro lo ma ap o) ([i]) (.inr (6, [.int (nI 0), .int (nI (cN σ)), .int (nI (cK σ)), .int (cDay σ), .int (cIns σ), .ref (ad [i, 1]), .ref (ad [i, 2]), .ref (ad [i, 3]), .ref (ad [i, 4]), .ref (ad [i, 5]), .ref (ad [i, 6]), .ref (ad [i, 7]), .ref (ad [i, 8]), .ref (ad [i, 9]), .ref (ad [i, 10]), .ref (ad [i, 11]), .int ro]))) rfl ?_
  refine V_wd (w' := QW i ad σ (nI 0) ro lo ma ap o) QW_th ?_
  refine V_aload_n C dX7_hallsMeeting_5 0 rfl ?_
  refine V_iload_n C dX7_hallsMeeting_6 1 rfl ?_
  refine V_callV (r := (RX7, TX7, 17)) C [.int (nI q)] dX7_hallsMeeting_7 m_X7_isStandard k_X7_isStandard tw_778 rfl rfl rfl QW_o rfl rfl (Nat.le_of_ble_eq_true rfl) ⟨by omega, by omega, by omega, by omega⟩ (m_isStd hl (by omega) hσ hq) (kr_some (x := .int (nI 1)) ?_) kx_no
  refine V_ifn_ne (tgt := 19) C dX7_hallsMeeting_10 (by decide) (by decide) (fun hb1 => ?_) (fun hb1 => by exfalso; omega)
  refine V_iconst (v := nI 0) C dX7_hallsMeeting_19 (by decide) ?_
  refine V_istore_n C [(2, .int (nI 0)), (0, .ref (ad [i])), (1, .int (nI q))] dX7_hallsMeeting_20 (by decide) rfl ?_
  refine V_iconst (v := nI 0) C dX7_hallsMeeting_21 (by decide) ?_
  refine V_istore_n C [(3, .int (nI 0)), (2, .int (nI 0)), (0, .ref (ad [i])), (1, .int (nI q))] dX7_hallsMeeting_22 (by decide) rfl ?_
  refine V_lv [0, 1, 2, 3] rfl ?_
  exact lp_mhm C hl hr (by omega) hσ hq (fun _ _ _ _ => ⟨rfl, rfl, _, _, _, _, rfl⟩) (cN σ) 0 _ _ _ _ (by omega)
set_option maxHeartbeats 4000000 in
theorem m_hallsMeeting_no {l : Launch} {D : va_G} {ba d : Nat} {ad : Adr} (hl : l.stackTraces = false) (hd : 8 ≤ d) {i : Nat} {σ : CS} {th ro : Int32} {lo ma ap : Nat → Int32} {o : Wd} (hσ : cOK σ) {x2 : Int32} (hx2 : ∀ j, j < cK σ → x2 ≠ nI j)  : CT l yX7_hallsMeeting (wsO yX7_hallsMeeting cX7_hallsMeeting 4 (some .int)) d 8 64 D ba [.ref (ad [i]), .int x2] ad (QW i ad σ th ro lo ma ap o) (RQ i ad σ o (nI 1) (some (.int (nI 0)))) noX := by
  refine CT_of RX7 rfl (by decide +kernel) hl (Nat.le_of_ble_eq_true rfl) ?_
  intro p e s m args below meth c C hr hnm
  refine V_lvE (lv' := [(0, .ref (ad [i])), (1, .int x2)]) rfl ?_
  have hσ1 := hσ.1
  have hσ2 := hσ.2.1
  refine V_aload_n C dX7_hallsMeeting_0 0 rfl ?_
  refine V_iconst (v := nI 0) C dX7_hallsMeeting_1 (by decide) ?_
  refine V_put (ci := 6) (k := 0) C dX7_hallsMeeting_2 RX7 RX7 TX7 17 tyX7 tyX7_ok nmX7 fw_X7 rfl (by decide) tw_668 rfl (Or.inl rfl) rfl rfl rfl QW_o (Nat.le_of_ble_eq_true rfl) ?_
  refine V_wd (w' := wset (QW i ad σ th ro lo ma ap o) ([i]) (.inr (6, [.int (nI 0), .int (nI (cN σ)), .int (nI (cK σ)), .int (cDay σ), .int (cIns σ), .ref (ad [i, 1]), .ref (ad [i, 2]), .ref (ad [i, 3]), .ref (ad [i, 4]), .ref (ad [i, 5]), .ref (ad [i, 6]), .ref (ad [i, 7]), .ref (ad [i, 8]), .ref (ad [i, 9]), .ref (ad [i, 10]), .ref (ad [i, 11]), .int ro]))) rfl ?_
  refine V_wd (w' := QW i ad σ (nI 0) ro lo ma ap o) QW_th ?_
  refine V_aload_n C dX7_hallsMeeting_5 0 rfl ?_
  refine V_iload_n C dX7_hallsMeeting_6 1 rfl ?_
  refine V_callV (r := (RX7, TX7, 17)) C [.int x2] dX7_hallsMeeting_7 m_X7_isStandard k_X7_isStandard tw_778 rfl rfl rfl QW_o rfl rfl (Nat.le_of_ble_eq_true rfl) ⟨by omega, by omega, by omega, by omega⟩ (m_isStd_no hl (by omega) hσ hx2) (kr_some (x := .int (nI 0)) ?_) kx_no
  refine V_ifn_ne (tgt := 19) C dX7_hallsMeeting_10 (by decide) (by decide) (fun hb1 => by exfalso; omega) (fun hb1 => ?_)
  refine V_aload_n C dX7_hallsMeeting_13 0 rfl ?_
  refine V_iconst (v := nI 1) C dX7_hallsMeeting_14 (by decide) ?_
  refine V_callV (r := (RX7, TX7, 17)) C [.int (nI 1)] dX7_hallsMeeting_15 m_X7_fail k_X7_fail tw_731 rfl rfl rfl QW_o rfl rfl (Nat.le_of_ble_eq_true rfl) ⟨by omega, by omega, by omega, by omega⟩ (m_fail hl (by omega) (nI 1)) (kr_some (x := .int (nI 0)) ?_) kx_no
  exact V_iret C .int dX7_hallsMeeting_18 hr rfl ⟨rfl, rfl, _, _, _, _, rfl⟩ (by omega) (by omega)
set_option maxHeartbeats 4000000 in
theorem m_isClick {l : Launch} {D : va_G} {ba d : Nat} {ad : Adr} (hl : l.stackTraces = false) (hd : 7 ≤ d) {i : Nat} {σ : CS} {th ro : Int32} {lo ma ap : Nat → Int32} {o : Wd} (hσ : cOK σ) {j : Nat} (hj : j < cN σ) {v : Nat} (hv : v ≤ 1000) (hin : ¬ inR (nI v) (nI 1) (nI 1000) = 0)  : CT l yX7_isClick (wsO yX7_isClick cX7_isClick 4 (some .boolean)) d 0 0 D ba [.ref (ad [i]), .int (nI j), .int (nI v), .int (nI 1)] ad (QW i ad σ th ro lo ma ap o) (isR (some (.int (nI 1))) ad (QW i ad σ (nI 0) (nI (hSc (cH σ j))) (clLo (cH σ j) (hDm (cH σ j)) (hDu (cH σ j)) v (hSc (cH σ j)) lo) (clMa (cH σ j) (hDm (cH σ j)) (hDu (cH σ j)) v (hSc (cH σ j)) ma) (clAp (cH σ j) (hSc (cH σ j)) ap) o)) noX := by
  refine CT_of RX7 rfl (by decide +kernel) hl (Nat.le_of_ble_eq_true rfl) ?_
  intro p e s m args below meth c C hr hnm
  refine V_lvE (lv' := [(0, .ref (ad [i])), (1, .int (nI j)), (2, .int (nI v)), (3, .int (nI 1))]) rfl ?_
  have hσ1 := hσ.1
  have hσ2 := hσ.2.1
  refine V_aload_n C dX7_isClick_0 0 rfl ?_
  refine V_aload_n C dX7_isClick_1 0 rfl ?_
  refine V_iload_n C dX7_isClick_2 1 rfl ?_
  refine V_callV (r := (RX7, TX7, 17)) C [.int (nI j)] dX7_isClick_3 m_X7_isHall k_X7_isHall tw_739 rfl rfl rfl QW_o rfl rfl (Nat.le_of_ble_eq_true rfl) ⟨by omega, by omega, by omega, by omega⟩ (m_isHall hl (by omega) hσ hj) (kr_some (x := .int (nI 1)) ?_) kx_no
  refine V_ifn_ne (tgt := 13) C dX7_isClick_6 (by decide) (by decide) (fun hb1 => ?_) (fun hb1 => by exfalso; omega)
  refine V_iload_n C dX7_isClick_13 2 rfl ?_
  refine V_iconst (v := nI 1) C dX7_isClick_14 (by decide) ?_
  refine V_sipush (v := nI 1000) C dX7_isClick_15 (by decide) ?_
  have hin18 := inR_le (nI v) (nI 1) (nI 1000)
  refine V_callS C [.int (nI v), .int (nI 1), .int (nI 1000)] dX7_isClick_18 m_X7_isIn k_X7_isIn tw_728 rfl rfl (Nat.le_of_ble_eq_true rfl) ⟨by omega, by omega, by omega, by omega⟩ (m_isIn hl (by omega) (nI v) (nI 1) (nI 1000)) (kr_some (x := .int (nI (inR (nI v) (nI 1) (nI 1000)))) ?_) kx_no
  refine V_ifn_eq (tgt := 32) C dX7_isClick_21 (by decide) (by omega) (fun hb2 => by exfalso; exact hin hb2) (fun hb2 => ?_)
  refine V_iload_n C dX7_isClick_24 3 rfl ?_
  refine V_ifn_eq (tgt := 32) C dX7_isClick_25 (by decide) (by decide) (fun hb3 => by exfalso; omega) (fun hb3 => ?_)
  refine V_iconst (v := nI 0) C dX7_isClick_28 (by decide) ?_
  refine V_goto (tgt := 33) C dX7_isClick_29 (by decide) ?_
  refine V_put (ci := 6) (k := 0) C dX7_isClick_33 RX7 RX7 TX7 17 tyX7 tyX7_ok nmX7 fw_X7 rfl (by decide) tw_668 rfl (Or.inl rfl) rfl rfl rfl QW_o (Nat.le_of_ble_eq_true rfl) ?_
  refine V_wd (w' := wset (QW i ad σ th ro lo ma ap o) ([i]) (.inr (6, [.int (nI 0), .int (nI (cN σ)), .int (nI (cK σ)), .int (cDay σ), .int (cIns σ), .ref (ad [i, 1]), .ref (ad [i, 2]), .ref (ad [i, 3]), .ref (ad [i, 4]), .ref (ad [i, 5]), .ref (ad [i, 6]), .ref (ad [i, 7]), .ref (ad [i, 8]), .ref (ad [i, 9]), .ref (ad [i, 10]), .ref (ad [i, 11]), .int ro]))) rfl ?_
  refine V_wd (w' := QW i ad σ (nI 0) ro lo ma ap o) QW_th ?_
  refine V_aload_n C dX7_isClick_36 0 rfl ?_
  refine V_get (ci := 6) (k := 0) C dX7_isClick_37 RX7 RX7 TX7 17 fw_X7 rfl (by decide) tw_668 rfl rfl QW_o rfl ?_
  refine V_ifn_ne (tgt := 49) C dX7_isClick_40 (by decide) (by decide) (fun hb4 => by exfalso; omega) (fun hb4 => ?_)
  refine V_aload_n C dX7_isClick_43 0 rfl ?_
  refine V_iload_n C dX7_isClick_44 1 rfl ?_
  refine V_iload_n C dX7_isClick_45 2 rfl ?_
  refine V_callV (r := (RX7, TX7, 17)) C [.int (nI j), .int (nI v)] dX7_isClick_46 m_X7_clickNow k_X7_clickNow tw_860 rfl rfl rfl QW_o rfl rfl (Nat.le_of_ble_eq_true rfl) ⟨by omega, by omega, by omega, by omega⟩ (m_clickNow hl (by omega) hσ hj hv) (kr_none ?_) kx_no
  refine V_aload_n C dX7_isClick_49 0 rfl ?_
  refine V_get (ci := 6) (k := 0) C dX7_isClick_50 RX7 RX7 TX7 17 fw_X7 rfl (by decide) tw_668 rfl rfl QW_o rfl ?_
  refine V_ifn_ne (tgt := 60) C dX7_isClick_53 (by decide) (by decide) (fun hb5 => by exfalso; omega) (fun hb5 => ?_)
  refine V_iconst (v := nI 1) C dX7_isClick_56 (by decide) ?_
  refine V_goto (tgt := 61) C dX7_isClick_57 (by decide) ?_
  exact V_iret C .boolean dX7_isClick_61 hr rfl ⟨rfl, rfl, rfl⟩ (by omega) (by omega)
set_option maxHeartbeats 4000000 in
theorem m_isClick_no {l : Launch} {D : va_G} {ba d : Nat} {ad : Adr} (hl : l.stackTraces = false) (hd : 7 ≤ d) {i : Nat} {σ : CS} {th ro : Int32} {lo ma ap : Nat → Int32} {o : Wd} (hσ : cOK σ) {x : Int32} (hx : ∀ j, j < cN σ → x ≠ nI j) (y z : Int32)  : CT l yX7_isClick (wsO yX7_isClick cX7_isClick 4 (some .boolean)) d 0 0 D ba [.ref (ad [i]), .int x, .int y, .int z] ad (QW i ad σ th ro lo ma ap o) (isR (some (.int (nI 0))) ad (QW i ad σ (nI 1) ro lo ma ap o)) noX := by
  refine CT_of RX7 rfl (by decide +kernel) hl (Nat.le_of_ble_eq_true rfl) ?_
  intro p e s m args below meth c C hr hnm
  refine V_lvE (lv' := [(0, .ref (ad [i])), (1, .int x), (2, .int y), (3, .int z)]) rfl ?_
  have hσ1 := hσ.1
  have hσ2 := hσ.2.1
  refine V_aload_n C dX7_isClick_0 0 rfl ?_
  refine V_aload_n C dX7_isClick_1 0 rfl ?_
  refine V_iload_n C dX7_isClick_2 1 rfl ?_
  refine V_callV (r := (RX7, TX7, 17)) C [.int x] dX7_isClick_3 m_X7_isHall k_X7_isHall tw_739 rfl rfl rfl QW_o rfl rfl (Nat.le_of_ble_eq_true rfl) ⟨by omega, by omega, by omega, by omega⟩ (m_isHall_no hl (by omega) hσ hx) (kr_some (x := .int (nI 0)) ?_) kx_no
  refine V_ifn_ne (tgt := 13) C dX7_isClick_6 (by decide) (by decide) (fun hb1 => by exfalso; omega) (fun hb1 => ?_)
  refine V_iconst (v := nI 1) C dX7_isClick_9 (by decide) ?_
  refine V_goto (tgt := 33) C dX7_isClick_10 (by decide) ?_
  refine V_put (ci := 6) (k := 0) C dX7_isClick_33 RX7 RX7 TX7 17 tyX7 tyX7_ok nmX7 fw_X7 rfl (by decide) tw_668 rfl (Or.inl rfl) rfl rfl rfl QW_o (Nat.le_of_ble_eq_true rfl) ?_
  refine V_wd (w' := wset (QW i ad σ th ro lo ma ap o) ([i]) (.inr (6, [.int (nI 1), .int (nI (cN σ)), .int (nI (cK σ)), .int (cDay σ), .int (cIns σ), .ref (ad [i, 1]), .ref (ad [i, 2]), .ref (ad [i, 3]), .ref (ad [i, 4]), .ref (ad [i, 5]), .ref (ad [i, 6]), .ref (ad [i, 7]), .ref (ad [i, 8]), .ref (ad [i, 9]), .ref (ad [i, 10]), .ref (ad [i, 11]), .int ro]))) rfl ?_
  refine V_wd (w' := QW i ad σ (nI 1) ro lo ma ap o) QW_th ?_
  refine V_aload_n C dX7_isClick_36 0 rfl ?_
  refine V_get (ci := 6) (k := 0) C dX7_isClick_37 RX7 RX7 TX7 17 fw_X7 rfl (by decide) tw_668 rfl rfl QW_o rfl ?_
  refine V_ifn_ne (tgt := 49) C dX7_isClick_40 (by decide) (by decide) (fun hb2 => ?_) (fun hb2 => by exfalso; omega)
  refine V_aload_n C dX7_isClick_49 0 rfl ?_
  refine V_get (ci := 6) (k := 0) C dX7_isClick_50 RX7 RX7 TX7 17 fw_X7 rfl (by decide) tw_668 rfl rfl QW_o rfl ?_
  refine V_ifn_ne (tgt := 60) C dX7_isClick_53 (by decide) (by decide) (fun hb3 => ?_) (fun hb3 => by exfalso; omega)
  refine V_iconst (v := nI 0) C dX7_isClick_60 (by decide) ?_
  exact V_iret C .boolean dX7_isClick_61 hr rfl ⟨rfl, rfl, rfl⟩ (by omega) (by omega)
set_option maxHeartbeats 4000000 in
theorem m_isClick_bad {l : Launch} {D : va_G} {ba d : Nat} {ad : Adr} (hl : l.stackTraces = false) (hd : 7 ≤ d) {i : Nat} {σ : CS} {th ro : Int32} {lo ma ap : Nat → Int32} {o : Wd} (hσ : cOK σ) {j : Nat} (hj : j < cN σ) {y : Int32} (hin : inR y (nI 1) (nI 1000) = 0) (z : Int32)  : CT l yX7_isClick (wsO yX7_isClick cX7_isClick 4 (some .boolean)) d 0 0 D ba [.ref (ad [i]), .int (nI j), .int y, .int z] ad (QW i ad σ th ro lo ma ap o) (isR (some (.int (nI 0))) ad (QW i ad σ (nI 2) ro lo ma ap o)) noX := by
  refine CT_of RX7 rfl (by decide +kernel) hl (Nat.le_of_ble_eq_true rfl) ?_
  intro p e s m args below meth c C hr hnm
  refine V_lvE (lv' := [(0, .ref (ad [i])), (1, .int (nI j)), (2, .int y), (3, .int z)]) rfl ?_
  have hσ1 := hσ.1
  have hσ2 := hσ.2.1
  refine V_aload_n C dX7_isClick_0 0 rfl ?_
  refine V_aload_n C dX7_isClick_1 0 rfl ?_
  refine V_iload_n C dX7_isClick_2 1 rfl ?_
  refine V_callV (r := (RX7, TX7, 17)) C [.int (nI j)] dX7_isClick_3 m_X7_isHall k_X7_isHall tw_739 rfl rfl rfl QW_o rfl rfl (Nat.le_of_ble_eq_true rfl) ⟨by omega, by omega, by omega, by omega⟩ (m_isHall hl (by omega) hσ hj) (kr_some (x := .int (nI 1)) ?_) kx_no
  refine V_ifn_ne (tgt := 13) C dX7_isClick_6 (by decide) (by decide) (fun hb1 => ?_) (fun hb1 => by exfalso; omega)
  refine V_iload_n C dX7_isClick_13 2 rfl ?_
  refine V_iconst (v := nI 1) C dX7_isClick_14 (by decide) ?_
  refine V_sipush (v := nI 1000) C dX7_isClick_15 (by decide) ?_
  have hin18 := inR_le y (nI 1) (nI 1000)
  refine V_callS C [.int y, .int (nI 1), .int (nI 1000)] dX7_isClick_18 m_X7_isIn k_X7_isIn tw_728 rfl rfl (Nat.le_of_ble_eq_true rfl) ⟨by omega, by omega, by omega, by omega⟩ (m_isIn hl (by omega) y (nI 1) (nI 1000)) (kr_some (x := .int (nI (inR y (nI 1) (nI 1000)))) ?_) kx_no
  rw [show inR y (nI 1) (nI 1000) = 0 from hin]
  refine V_ifn_eq (tgt := 32) C dX7_isClick_21 (by decide) (by decide) (fun hb2 => ?_) (fun hb2 => by exfalso; omega)
  refine V_iconst (v := nI 2) C dX7_isClick_32 (by decide) ?_
  refine V_put (ci := 6) (k := 0) C dX7_isClick_33 RX7 RX7 TX7 17 tyX7 tyX7_ok nmX7 fw_X7 rfl (by decide) tw_668 rfl (Or.inl rfl) rfl rfl rfl QW_o (Nat.le_of_ble_eq_true rfl) ?_
  refine V_wd (w' := wset (QW i ad σ th ro lo ma ap o) ([i]) (.inr (6, [.int (nI 2), .int (nI (cN σ)), .int (nI (cK σ)), .int (cDay σ), .int (cIns σ), .ref (ad [i, 1]), .ref (ad [i, 2]), .ref (ad [i, 3]), .ref (ad [i, 4]), .ref (ad [i, 5]), .ref (ad [i, 6]), .ref (ad [i, 7]), .ref (ad [i, 8]), .ref (ad [i, 9]), .ref (ad [i, 10]), .ref (ad [i, 11]), .int ro]))) rfl ?_
  refine V_wd (w' := QW i ad σ (nI 2) ro lo ma ap o) QW_th ?_
  refine V_aload_n C dX7_isClick_36 0 rfl ?_
  refine V_get (ci := 6) (k := 0) C dX7_isClick_37 RX7 RX7 TX7 17 fw_X7 rfl (by decide) tw_668 rfl rfl QW_o rfl ?_
  refine V_ifn_ne (tgt := 49) C dX7_isClick_40 (by decide) (by decide) (fun hb3 => ?_) (fun hb3 => by exfalso; omega)
  refine V_aload_n C dX7_isClick_49 0 rfl ?_
  refine V_get (ci := 6) (k := 0) C dX7_isClick_50 RX7 RX7 TX7 17 fw_X7 rfl (by decide) tw_668 rfl rfl QW_o rfl ?_
  refine V_ifn_ne (tgt := 60) C dX7_isClick_53 (by decide) (by decide) (fun hb4 => ?_) (fun hb4 => by exfalso; omega)
  refine V_iconst (v := nI 0) C dX7_isClick_60 (by decide) ?_
  exact V_iret C .boolean dX7_isClick_61 hr rfl ⟨rfl, rfl, rfl⟩ (by omega) (by omega)
set_option maxHeartbeats 4000000 in
theorem m_isClick_bad2 {l : Launch} {D : va_G} {ba d : Nat} {ad : Adr} (hl : l.stackTraces = false) (hd : 7 ≤ d) {i : Nat} {σ : CS} {th ro : Int32} {lo ma ap : Nat → Int32} {o : Wd} (hσ : cOK σ) {j : Nat} (hj : j < cN σ) {v : Nat} (hv : v ≤ 1000) (hin : ¬ inR (nI v) (nI 1) (nI 1000) = 0)  : CT l yX7_isClick (wsO yX7_isClick cX7_isClick 4 (some .boolean)) d 0 0 D ba [.ref (ad [i]), .int (nI j), .int (nI v), .int (nI 0)] ad (QW i ad σ th ro lo ma ap o) (isR (some (.int (nI 0))) ad (QW i ad σ (nI 2) ro lo ma ap o)) noX := by
  refine CT_of RX7 rfl (by decide +kernel) hl (Nat.le_of_ble_eq_true rfl) ?_
  intro p e s m args below meth c C hr hnm
  refine V_lvE (lv' := [(0, .ref (ad [i])), (1, .int (nI j)), (2, .int (nI v)), (3, .int (nI 0))]) rfl ?_
  have hσ1 := hσ.1
  have hσ2 := hσ.2.1
  refine V_aload_n C dX7_isClick_0 0 rfl ?_
  refine V_aload_n C dX7_isClick_1 0 rfl ?_
  refine V_iload_n C dX7_isClick_2 1 rfl ?_
  refine V_callV (r := (RX7, TX7, 17)) C [.int (nI j)] dX7_isClick_3 m_X7_isHall k_X7_isHall tw_739 rfl rfl rfl QW_o rfl rfl (Nat.le_of_ble_eq_true rfl) ⟨by omega, by omega, by omega, by omega⟩ (m_isHall hl (by omega) hσ hj) (kr_some (x := .int (nI 1)) ?_) kx_no
  refine V_ifn_ne (tgt := 13) C dX7_isClick_6 (by decide) (by decide) (fun hb1 => ?_) (fun hb1 => by exfalso; omega)
  refine V_iload_n C dX7_isClick_13 2 rfl ?_
  refine V_iconst (v := nI 1) C dX7_isClick_14 (by decide) ?_
  refine V_sipush (v := nI 1000) C dX7_isClick_15 (by decide) ?_
  have hin18 := inR_le (nI v) (nI 1) (nI 1000)
  refine V_callS C [.int (nI v), .int (nI 1), .int (nI 1000)] dX7_isClick_18 m_X7_isIn k_X7_isIn tw_728 rfl rfl (Nat.le_of_ble_eq_true rfl) ⟨by omega, by omega, by omega, by omega⟩ (m_isIn hl (by omega) (nI v) (nI 1) (nI 1000)) (kr_some (x := .int (nI (inR (nI v) (nI 1) (nI 1000)))) ?_) kx_no
  refine V_ifn_eq (tgt := 32) C dX7_isClick_21 (by decide) (by omega) (fun hb2 => by exfalso; exact hin hb2) (fun hb2 => ?_)
  refine V_iload_n C dX7_isClick_24 3 rfl ?_
  refine V_ifn_eq (tgt := 32) C dX7_isClick_25 (by decide) (by decide) (fun hb3 => ?_) (fun hb3 => by exfalso; omega)
  refine V_iconst (v := nI 2) C dX7_isClick_32 (by decide) ?_
  refine V_put (ci := 6) (k := 0) C dX7_isClick_33 RX7 RX7 TX7 17 tyX7 tyX7_ok nmX7 fw_X7 rfl (by decide) tw_668 rfl (Or.inl rfl) rfl rfl rfl QW_o (Nat.le_of_ble_eq_true rfl) ?_
  refine V_wd (w' := wset (QW i ad σ th ro lo ma ap o) ([i]) (.inr (6, [.int (nI 2), .int (nI (cN σ)), .int (nI (cK σ)), .int (cDay σ), .int (cIns σ), .ref (ad [i, 1]), .ref (ad [i, 2]), .ref (ad [i, 3]), .ref (ad [i, 4]), .ref (ad [i, 5]), .ref (ad [i, 6]), .ref (ad [i, 7]), .ref (ad [i, 8]), .ref (ad [i, 9]), .ref (ad [i, 10]), .ref (ad [i, 11]), .int ro]))) rfl ?_
  refine V_wd (w' := QW i ad σ (nI 2) ro lo ma ap o) QW_th ?_
  refine V_aload_n C dX7_isClick_36 0 rfl ?_
  refine V_get (ci := 6) (k := 0) C dX7_isClick_37 RX7 RX7 TX7 17 fw_X7 rfl (by decide) tw_668 rfl rfl QW_o rfl ?_
  refine V_ifn_ne (tgt := 49) C dX7_isClick_40 (by decide) (by decide) (fun hb4 => ?_) (fun hb4 => by exfalso; omega)
  refine V_aload_n C dX7_isClick_49 0 rfl ?_
  refine V_get (ci := 6) (k := 0) C dX7_isClick_50 RX7 RX7 TX7 17 fw_X7 rfl (by decide) tw_668 rfl rfl QW_o rfl ?_
  refine V_ifn_ne (tgt := 60) C dX7_isClick_53 (by decide) (by decide) (fun hb5 => ?_) (fun hb5 => by exfalso; omega)
  refine V_iconst (v := nI 0) C dX7_isClick_60 (by decide) ?_
  exact V_iret C .boolean dX7_isClick_61 hr rfl ⟨rfl, rfl, rfl⟩ (by omega) (by omega)
set_option maxHeartbeats 4000000 in
theorem m_echoes {l : Launch} {D : va_G} {ba d : Nat} {ad : Adr} (hl : l.stackTraces = false) (hd : 9 ≤ d) {i : Nat} {σ : CS} {th ro : Int32} {lo ma ap : Nat → Int32} {o : Wd} (hσ : cOK σ) {j : Nat} (hj : j < cN σ) {v : Nat} (hv : v ≤ 1000) (hin : ¬ inR (nI v) (nI 1) (nI 1000) = 0)  : CT l yX7_echoes (wsO yX7_echoes cX7_echoes 3 (some .int)) d 8 64 D ba [.ref (ad [i]), .int (nI j), .int (nI v)] ad (QW i ad σ th ro lo ma ap o) (RQ i ad σ o (nI 0) (some (.int ((tly (cH σ j) (nI 1) v).1)))) noX := by
  refine CT_of RX7 rfl (by decide +kernel) hl (Nat.le_of_ble_eq_true rfl) ?_
  intro p e s m args below meth c C hr hnm
  refine V_lvE (lv' := [(0, .ref (ad [i])), (1, .int (nI j)), (2, .int (nI v))]) rfl ?_
  have hσ1 := hσ.1
  have hσ2 := hσ.2.1
  have hu := hσ.2.2.1 j hj
  have hu1 := hu.1
  have hu2 := hu.2.1
  have hu3 := hu.2.2.1
  have hu4 := hu.2.2.2.1
  have hL := laid (dm := hDm (cH σ j)) (du := hDu (cH σ j)) (lo := lo) (ma := ma) (ap := ap) hu hv
  refine V_aload_n C dX7_echoes_0 0 rfl ?_
  refine V_iload_n C dX7_echoes_1 1 rfl ?_
  refine V_iload_n C dX7_echoes_2 2 rfl ?_
  refine V_iconst (v := nI 1) C dX7_echoes_3 (by decide) ?_
  refine V_callV (r := (RX7, TX7, 17)) C [.int (nI j), .int (nI v), .int (nI 1)] dX7_echoes_4 m_X7_isClick k_X7_isClick tw_856 rfl rfl rfl QW_o rfl rfl (Nat.le_of_ble_eq_true rfl) ⟨by omega, by omega, by omega, by omega⟩ (m_isClick hl (by omega) hσ hj hv hin) (kr_some (x := .int (nI 1)) ?_) kx_no
  refine V_ifn_eq (tgt := 17) C dX7_echoes_7 (by decide) (by decide) (fun hb1 => by exfalso; omega) (fun hb1 => ?_)
  refine V_aload_n C dX7_echoes_10 0 rfl ?_
  refine V_callV (r := (RX7, TX7, 17)) C [] dX7_echoes_11 m_X7_all k_X7_all tw_799 rfl rfl rfl QW_o rfl rfl (Nat.le_of_ble_eq_true rfl) ⟨by omega, by omega, by omega, by omega⟩ (m_all hl (by omega) hL) (kr_some (x := .int (nI (sumR (RQh (cH σ j) (hDm (cH σ j)) (hDu (cH σ j)) v) (hSc (cH σ j))))) ?_) kx_no
  refine V_goto (tgt := 18) C dX7_echoes_14 (by decide) ?_
  exact V_iret C .int dX7_echoes_18 hr rfl ⟨by rw [tly_rows hu hv], rfl, _, _, _, _, rfl⟩ (by omega) (by omega)
set_option maxHeartbeats 4000000 in
theorem m_firstEcho {l : Launch} {D : va_G} {ba d : Nat} {ad : Adr} (hl : l.stackTraces = false) (hd : 9 ≤ d) {i : Nat} {σ : CS} {th ro : Int32} {lo ma ap : Nat → Int32} {o : Wd} (hσ : cOK σ) {j : Nat} (hj : j < cN σ) {v : Nat} (hv : v ≤ 1000) (hin : ¬ inR (nI v) (nI 1) (nI 1000) = 0)  : CT l yX7_firstEcho (wsO yX7_firstEcho cX7_firstEcho 3 (some .int)) d 8 64 D ba [.ref (ad [i]), .int (nI j), .int (nI v)] ad (QW i ad σ th ro lo ma ap o) (RQ i ad σ o (nI 0) (some (.int ((tly (cH σ j) (nI 1) v).2.2.1)))) noX := by
  refine CT_of RX7 rfl (by decide +kernel) hl (Nat.le_of_ble_eq_true rfl) ?_
  intro p e s m args below meth c C hr hnm
  refine V_lvE (lv' := [(0, .ref (ad [i])), (1, .int (nI j)), (2, .int (nI v))]) rfl ?_
  have hσ1 := hσ.1
  have hσ2 := hσ.2.1
  have hu := hσ.2.2.1 j hj
  have hu1 := hu.1
  have hu2 := hu.2.1
  have hu3 := hu.2.2.1
  have hu4 := hu.2.2.2.1
  have hL := laid (dm := hDm (cH σ j)) (du := hDu (cH σ j)) (lo := lo) (ma := ma) (ap := ap) hu hv
  refine V_aload_n C dX7_firstEcho_0 0 rfl ?_
  refine V_iload_n C dX7_firstEcho_1 1 rfl ?_
  refine V_iload_n C dX7_firstEcho_2 2 rfl ?_
  refine V_iconst (v := nI 1) C dX7_firstEcho_3 (by decide) ?_
  refine V_callV (r := (RX7, TX7, 17)) C [.int (nI j), .int (nI v), .int (nI 1)] dX7_firstEcho_4 m_X7_isClick k_X7_isClick tw_856 rfl rfl rfl QW_o rfl rfl (Nat.le_of_ble_eq_true rfl) ⟨by omega, by omega, by omega, by omega⟩ (m_isClick hl (by omega) hσ hj hv hin) (kr_some (x := .int (nI 1)) ?_) kx_no
  refine V_ifn_eq (tgt := 17) C dX7_firstEcho_7 (by decide) (by decide) (fun hb1 => by exfalso; omega) (fun hb1 => ?_)
  refine V_aload_n C dX7_firstEcho_10 0 rfl ?_
  refine V_callV (r := (RX7, TX7, 17)) C [] dX7_firstEcho_11 m_X7_first k_X7_first tw_803 rfl rfl rfl QW_o rfl rfl (Nat.le_of_ble_eq_true rfl) ⟨by omega, by omega, by omega, by omega⟩ (m_first hl (by omega) hL) (kr_some (x := .int (fiR (RQh (cH σ j) (hDm (cH σ j)) (hDu (cH σ j)) v) (DQh (cH σ j)) (hSc (cH σ j)))) ?_) kx_no
  refine V_goto (tgt := 18) C dX7_firstEcho_14 (by decide) ?_
  exact V_iret C .int dX7_firstEcho_18 hr rfl ⟨by rw [tly_rows hu hv], rfl, _, _, _, _, rfl⟩ (by omega) (by omega)
set_option maxHeartbeats 4000000 in
theorem m_lastEcho {l : Launch} {D : va_G} {ba d : Nat} {ad : Adr} (hl : l.stackTraces = false) (hd : 9 ≤ d) {i : Nat} {σ : CS} {th ro : Int32} {lo ma ap : Nat → Int32} {o : Wd} (hσ : cOK σ) {j : Nat} (hj : j < cN σ) {v : Nat} (hv : v ≤ 1000) (hin : ¬ inR (nI v) (nI 1) (nI 1000) = 0)  : CT l yX7_lastEcho (wsO yX7_lastEcho cX7_lastEcho 3 (some .int)) d 8 64 D ba [.ref (ad [i]), .int (nI j), .int (nI v)] ad (QW i ad σ th ro lo ma ap o) (RQ i ad σ o (nI 0) (some (.int ((tly (cH σ j) (nI 1) v).2.2.2)))) noX := by
  refine CT_of RX7 rfl (by decide +kernel) hl (Nat.le_of_ble_eq_true rfl) ?_
  intro p e s m args below meth c C hr hnm
  refine V_lvE (lv' := [(0, .ref (ad [i])), (1, .int (nI j)), (2, .int (nI v))]) rfl ?_
  have hσ1 := hσ.1
  have hσ2 := hσ.2.1
  have hu := hσ.2.2.1 j hj
  have hu1 := hu.1
  have hu2 := hu.2.1
  have hu3 := hu.2.2.1
  have hu4 := hu.2.2.2.1
  have hL := laid (dm := hDm (cH σ j)) (du := hDu (cH σ j)) (lo := lo) (ma := ma) (ap := ap) hu hv
  refine V_aload_n C dX7_lastEcho_0 0 rfl ?_
  refine V_iload_n C dX7_lastEcho_1 1 rfl ?_
  refine V_iload_n C dX7_lastEcho_2 2 rfl ?_
  refine V_iconst (v := nI 1) C dX7_lastEcho_3 (by decide) ?_
  refine V_callV (r := (RX7, TX7, 17)) C [.int (nI j), .int (nI v), .int (nI 1)] dX7_lastEcho_4 m_X7_isClick k_X7_isClick tw_856 rfl rfl rfl QW_o rfl rfl (Nat.le_of_ble_eq_true rfl) ⟨by omega, by omega, by omega, by omega⟩ (m_isClick hl (by omega) hσ hj hv hin) (kr_some (x := .int (nI 1)) ?_) kx_no
  refine V_ifn_eq (tgt := 17) C dX7_lastEcho_7 (by decide) (by decide) (fun hb1 => by exfalso; omega) (fun hb1 => ?_)
  refine V_aload_n C dX7_lastEcho_10 0 rfl ?_
  refine V_callV (r := (RX7, TX7, 17)) C [] dX7_lastEcho_11 m_X7_last k_X7_last tw_811 rfl rfl rfl QW_o rfl rfl (Nat.le_of_ble_eq_true rfl) ⟨by omega, by omega, by omega, by omega⟩ (m_last hl (by omega) hL) (kr_some (x := .int (laR (RQh (cH σ j) (hDm (cH σ j)) (hDu (cH σ j)) v) (DQh (cH σ j)) (hSc (cH σ j)))) ?_) kx_no
  refine V_goto (tgt := 18) C dX7_lastEcho_14 (by decide) ?_
  exact V_iret C .int dX7_lastEcho_18 hr rfl ⟨by rw [tly_rows hu hv], rfl, _, _, _, _, rfl⟩ (by omega) (by omega)
set_option maxHeartbeats 4000000 in
theorem m_loudestMoment {l : Launch} {D : va_G} {ba d : Nat} {ad : Adr} (hl : l.stackTraces = false) (hd : 9 ≤ d) {i : Nat} {σ : CS} {th ro : Int32} {lo ma ap : Nat → Int32} {o : Wd} (hσ : cOK σ) {j : Nat} (hj : j < cN σ) {v : Nat} (hv : v ≤ 1000) (hin : ¬ inR (nI v) (nI 1) (nI 1000) = 0)  : CT l yX7_loudestMoment (wsO yX7_loudestMoment cX7_loudestMoment 3 (some .int)) d 8 64 D ba [.ref (ad [i]), .int (nI j), .int (nI v)] ad (QW i ad σ th ro lo ma ap o) (RQ i ad σ o (nI 0) (some (.int (momF (ldz (cH σ j) v) 501 0 (nI 0) (-1))))) noX := by
  refine CT_of RX7 rfl (by decide +kernel) hl (Nat.le_of_ble_eq_true rfl) ?_
  intro p e s m args below meth c C hr hnm
  refine V_lvE (lv' := [(0, .ref (ad [i])), (1, .int (nI j)), (2, .int (nI v))]) rfl ?_
  have hσ1 := hσ.1
  have hσ2 := hσ.2.1
  have hu := hσ.2.2.1 j hj
  have hu1 := hu.1
  have hu2 := hu.2.1
  have hu3 := hu.2.2.1
  have hu4 := hu.2.2.2.1
  have hL := laid (dm := hDm (cH σ j)) (du := hDu (cH σ j)) (lo := lo) (ma := ma) (ap := ap) hu hv
  refine V_aload_n C dX7_loudestMoment_0 0 rfl ?_
  refine V_iload_n C dX7_loudestMoment_1 1 rfl ?_
  refine V_iload_n C dX7_loudestMoment_2 2 rfl ?_
  refine V_iconst (v := nI 1) C dX7_loudestMoment_3 (by decide) ?_
  refine V_callV (r := (RX7, TX7, 17)) C [.int (nI j), .int (nI v), .int (nI 1)] dX7_loudestMoment_4 m_X7_isClick k_X7_isClick tw_856 rfl rfl rfl QW_o rfl rfl (Nat.le_of_ble_eq_true rfl) ⟨by omega, by omega, by omega, by omega⟩ (m_isClick hl (by omega) hσ hj hv hin) (kr_some (x := .int (nI 1)) ?_) kx_no
  refine V_ifn_eq (tgt := 17) C dX7_loudestMoment_7 (by decide) (by decide) (fun hb1 => by exfalso; omega) (fun hb1 => ?_)
  refine V_aload_n C dX7_loudestMoment_10 0 rfl ?_
  refine V_callV (r := (RX7, TX7, 17)) C [] dX7_loudestMoment_11 m_X7_loudest k_X7_loudest tw_888 rfl rfl rfl QW_o rfl rfl (Nat.le_of_ble_eq_true rfl) ⟨by omega, by omega, by omega, by omega⟩ (m_loudest hl (by omega) hL) (kr_some (x := .int ((ldR (RQh (cH σ j) (hDm (cH σ j)) (hDu (cH σ j)) v) (DQh (cH σ j)) (hSc (cH σ j)) (hSc (cH σ j))).1)) ?_) kx_no
  refine V_goto (tgt := 18) C dX7_loudestMoment_14 (by decide) ?_
  exact V_iret C .int dX7_loudestMoment_18 hr rfl ⟨by rw [loudest_rows hu hv], rfl, _, _, _, _, rfl⟩ (by omega) (by omega)
set_option maxHeartbeats 4000000 in
theorem m_echoes_no {l : Launch} {D : va_G} {ba d : Nat} {ad : Adr} (hl : l.stackTraces = false) (hd : 9 ≤ d) {i : Nat} {σ : CS} {th ro : Int32} {lo ma ap : Nat → Int32} {o : Wd} (hσ : cOK σ) {x : Int32} (hx : ∀ j, j < cN σ → x ≠ nI j) (y : Int32)  : CT l yX7_echoes (wsO yX7_echoes cX7_echoes 3 (some .int)) d 8 64 D ba [.ref (ad [i]), .int x, .int y] ad (QW i ad σ th ro lo ma ap o) (RQ i ad σ o (nI 1) (some (.int (nI 0)))) noX := by
  refine CT_of RX7 rfl (by decide +kernel) hl (Nat.le_of_ble_eq_true rfl) ?_
  intro p e s m args below meth c C hr hnm
  refine V_lvE (lv' := [(0, .ref (ad [i])), (1, .int x), (2, .int y)]) rfl ?_
  have hσ1 := hσ.1
  have hσ2 := hσ.2.1
  refine V_aload_n C dX7_echoes_0 0 rfl ?_
  refine V_iload_n C dX7_echoes_1 1 rfl ?_
  refine V_iload_n C dX7_echoes_2 2 rfl ?_
  refine V_iconst (v := nI 1) C dX7_echoes_3 (by decide) ?_
  refine V_callV (r := (RX7, TX7, 17)) C [.int x, .int y, .int (nI 1)] dX7_echoes_4 m_X7_isClick k_X7_isClick tw_856 rfl rfl rfl QW_o rfl rfl (Nat.le_of_ble_eq_true rfl) ⟨by omega, by omega, by omega, by omega⟩ (m_isClick_no hl (by omega) hσ hx y (nI 1)) (kr_some (x := .int (nI 0)) ?_) kx_no
  refine V_ifn_eq (tgt := 17) C dX7_echoes_7 (by decide) (by decide) (fun hb1 => ?_) (fun hb1 => by exfalso; omega)
  refine V_iconst (v := nI 0) C dX7_echoes_17 (by decide) ?_
  exact V_iret C .int dX7_echoes_18 hr rfl ⟨rfl, rfl, _, _, _, _, rfl⟩ (by omega) (by omega)
set_option maxHeartbeats 4000000 in
theorem m_echoes_bad {l : Launch} {D : va_G} {ba d : Nat} {ad : Adr} (hl : l.stackTraces = false) (hd : 9 ≤ d) {i : Nat} {σ : CS} {th ro : Int32} {lo ma ap : Nat → Int32} {o : Wd} (hσ : cOK σ) {j : Nat} (hj : j < cN σ) {y : Int32} (hin : inR y (nI 1) (nI 1000) = 0)  : CT l yX7_echoes (wsO yX7_echoes cX7_echoes 3 (some .int)) d 8 64 D ba [.ref (ad [i]), .int (nI j), .int y] ad (QW i ad σ th ro lo ma ap o) (RQ i ad σ o (nI 2) (some (.int (nI 0)))) noX := by
  refine CT_of RX7 rfl (by decide +kernel) hl (Nat.le_of_ble_eq_true rfl) ?_
  intro p e s m args below meth c C hr hnm
  refine V_lvE (lv' := [(0, .ref (ad [i])), (1, .int (nI j)), (2, .int y)]) rfl ?_
  have hσ1 := hσ.1
  have hσ2 := hσ.2.1
  refine V_aload_n C dX7_echoes_0 0 rfl ?_
  refine V_iload_n C dX7_echoes_1 1 rfl ?_
  refine V_iload_n C dX7_echoes_2 2 rfl ?_
  refine V_iconst (v := nI 1) C dX7_echoes_3 (by decide) ?_
  refine V_callV (r := (RX7, TX7, 17)) C [.int (nI j), .int y, .int (nI 1)] dX7_echoes_4 m_X7_isClick k_X7_isClick tw_856 rfl rfl rfl QW_o rfl rfl (Nat.le_of_ble_eq_true rfl) ⟨by omega, by omega, by omega, by omega⟩ (m_isClick_bad hl (by omega) hσ hj hin (nI 1)) (kr_some (x := .int (nI 0)) ?_) kx_no
  refine V_ifn_eq (tgt := 17) C dX7_echoes_7 (by decide) (by decide) (fun hb1 => ?_) (fun hb1 => by exfalso; omega)
  refine V_iconst (v := nI 0) C dX7_echoes_17 (by decide) ?_
  exact V_iret C .int dX7_echoes_18 hr rfl ⟨rfl, rfl, _, _, _, _, rfl⟩ (by omega) (by omega)
set_option maxHeartbeats 4000000 in
theorem m_firstEcho_no {l : Launch} {D : va_G} {ba d : Nat} {ad : Adr} (hl : l.stackTraces = false) (hd : 9 ≤ d) {i : Nat} {σ : CS} {th ro : Int32} {lo ma ap : Nat → Int32} {o : Wd} (hσ : cOK σ) {x : Int32} (hx : ∀ j, j < cN σ → x ≠ nI j) (y : Int32)  : CT l yX7_firstEcho (wsO yX7_firstEcho cX7_firstEcho 3 (some .int)) d 8 64 D ba [.ref (ad [i]), .int x, .int y] ad (QW i ad σ th ro lo ma ap o) (RQ i ad σ o (nI 1) (some (.int (nI 0)))) noX := by
  refine CT_of RX7 rfl (by decide +kernel) hl (Nat.le_of_ble_eq_true rfl) ?_
  intro p e s m args below meth c C hr hnm
  refine V_lvE (lv' := [(0, .ref (ad [i])), (1, .int x), (2, .int y)]) rfl ?_
  have hσ1 := hσ.1
  have hσ2 := hσ.2.1
  refine V_aload_n C dX7_firstEcho_0 0 rfl ?_
  refine V_iload_n C dX7_firstEcho_1 1 rfl ?_
  refine V_iload_n C dX7_firstEcho_2 2 rfl ?_
  refine V_iconst (v := nI 1) C dX7_firstEcho_3 (by decide) ?_
  refine V_callV (r := (RX7, TX7, 17)) C [.int x, .int y, .int (nI 1)] dX7_firstEcho_4 m_X7_isClick k_X7_isClick tw_856 rfl rfl rfl QW_o rfl rfl (Nat.le_of_ble_eq_true rfl) ⟨by omega, by omega, by omega, by omega⟩ (m_isClick_no hl (by omega) hσ hx y (nI 1)) (kr_some (x := .int (nI 0)) ?_) kx_no
  refine V_ifn_eq (tgt := 17) C dX7_firstEcho_7 (by decide) (by decide) (fun hb1 => ?_) (fun hb1 => by exfalso; omega)
  refine V_iconst (v := nI 0) C dX7_firstEcho_17 (by decide) ?_
  exact V_iret C .int dX7_firstEcho_18 hr rfl ⟨rfl, rfl, _, _, _, _, rfl⟩ (by omega) (by omega)
set_option maxHeartbeats 4000000 in
theorem m_firstEcho_bad {l : Launch} {D : va_G} {ba d : Nat} {ad : Adr} (hl : l.stackTraces = false) (hd : 9 ≤ d) {i : Nat} {σ : CS} {th ro : Int32} {lo ma ap : Nat → Int32} {o : Wd} (hσ : cOK σ) {j : Nat} (hj : j < cN σ) {y : Int32} (hin : inR y (nI 1) (nI 1000) = 0)  : CT l yX7_firstEcho (wsO yX7_firstEcho cX7_firstEcho 3 (some .int)) d 8 64 D ba [.ref (ad [i]), .int (nI j), .int y] ad (QW i ad σ th ro lo ma ap o) (RQ i ad σ o (nI 2) (some (.int (nI 0)))) noX := by
  refine CT_of RX7 rfl (by decide +kernel) hl (Nat.le_of_ble_eq_true rfl) ?_
  intro p e s m args below meth c C hr hnm
  refine V_lvE (lv' := [(0, .ref (ad [i])), (1, .int (nI j)), (2, .int y)]) rfl ?_
  have hσ1 := hσ.1
  have hσ2 := hσ.2.1
  refine V_aload_n C dX7_firstEcho_0 0 rfl ?_
  refine V_iload_n C dX7_firstEcho_1 1 rfl ?_
  refine V_iload_n C dX7_firstEcho_2 2 rfl ?_
  refine V_iconst (v := nI 1) C dX7_firstEcho_3 (by decide) ?_
  refine V_callV (r := (RX7, TX7, 17)) C [.int (nI j), .int y, .int (nI 1)] dX7_firstEcho_4 m_X7_isClick k_X7_isClick tw_856 rfl rfl rfl QW_o rfl rfl (Nat.le_of_ble_eq_true rfl) ⟨by omega, by omega, by omega, by omega⟩ (m_isClick_bad hl (by omega) hσ hj hin (nI 1)) (kr_some (x := .int (nI 0)) ?_) kx_no
  refine V_ifn_eq (tgt := 17) C dX7_firstEcho_7 (by decide) (by decide) (fun hb1 => ?_) (fun hb1 => by exfalso; omega)
  refine V_iconst (v := nI 0) C dX7_firstEcho_17 (by decide) ?_
  exact V_iret C .int dX7_firstEcho_18 hr rfl ⟨rfl, rfl, _, _, _, _, rfl⟩ (by omega) (by omega)
set_option maxHeartbeats 4000000 in
theorem m_lastEcho_no {l : Launch} {D : va_G} {ba d : Nat} {ad : Adr} (hl : l.stackTraces = false) (hd : 9 ≤ d) {i : Nat} {σ : CS} {th ro : Int32} {lo ma ap : Nat → Int32} {o : Wd} (hσ : cOK σ) {x : Int32} (hx : ∀ j, j < cN σ → x ≠ nI j) (y : Int32)  : CT l yX7_lastEcho (wsO yX7_lastEcho cX7_lastEcho 3 (some .int)) d 8 64 D ba [.ref (ad [i]), .int x, .int y] ad (QW i ad σ th ro lo ma ap o) (RQ i ad σ o (nI 1) (some (.int (nI 0)))) noX := by
  refine CT_of RX7 rfl (by decide +kernel) hl (Nat.le_of_ble_eq_true rfl) ?_
  intro p e s m args below meth c C hr hnm
  refine V_lvE (lv' := [(0, .ref (ad [i])), (1, .int x), (2, .int y)]) rfl ?_
  have hσ1 := hσ.1
  have hσ2 := hσ.2.1
  refine V_aload_n C dX7_lastEcho_0 0 rfl ?_
  refine V_iload_n C dX7_lastEcho_1 1 rfl ?_
  refine V_iload_n C dX7_lastEcho_2 2 rfl ?_
  refine V_iconst (v := nI 1) C dX7_lastEcho_3 (by decide) ?_
  refine V_callV (r := (RX7, TX7, 17)) C [.int x, .int y, .int (nI 1)] dX7_lastEcho_4 m_X7_isClick k_X7_isClick tw_856 rfl rfl rfl QW_o rfl rfl (Nat.le_of_ble_eq_true rfl) ⟨by omega, by omega, by omega, by omega⟩ (m_isClick_no hl (by omega) hσ hx y (nI 1)) (kr_some (x := .int (nI 0)) ?_) kx_no
  refine V_ifn_eq (tgt := 17) C dX7_lastEcho_7 (by decide) (by decide) (fun hb1 => ?_) (fun hb1 => by exfalso; omega)
  refine V_iconst (v := nI 0) C dX7_lastEcho_17 (by decide) ?_
  exact V_iret C .int dX7_lastEcho_18 hr rfl ⟨rfl, rfl, _, _, _, _, rfl⟩ (by omega) (by omega)
set_option maxHeartbeats 4000000 in
theorem m_lastEcho_bad {l : Launch} {D : va_G} {ba d : Nat} {ad : Adr} (hl : l.stackTraces = false) (hd : 9 ≤ d) {i : Nat} {σ : CS} {th ro : Int32} {lo ma ap : Nat → Int32} {o : Wd} (hσ : cOK σ) {j : Nat} (hj : j < cN σ) {y : Int32} (hin : inR y (nI 1) (nI 1000) = 0)  : CT l yX7_lastEcho (wsO yX7_lastEcho cX7_lastEcho 3 (some .int)) d 8 64 D ba [.ref (ad [i]), .int (nI j), .int y] ad (QW i ad σ th ro lo ma ap o) (RQ i ad σ o (nI 2) (some (.int (nI 0)))) noX := by
  refine CT_of RX7 rfl (by decide +kernel) hl (Nat.le_of_ble_eq_true rfl) ?_
  intro p e s m args below meth c C hr hnm
  refine V_lvE (lv' := [(0, .ref (ad [i])), (1, .int (nI j)), (2, .int y)]) rfl ?_
  have hσ1 := hσ.1
  have hσ2 := hσ.2.1
  refine V_aload_n C dX7_lastEcho_0 0 rfl ?_
  refine V_iload_n C dX7_lastEcho_1 1 rfl ?_
  refine V_iload_n C dX7_lastEcho_2 2 rfl ?_
  refine V_iconst (v := nI 1) C dX7_lastEcho_3 (by decide) ?_
  refine V_callV (r := (RX7, TX7, 17)) C [.int (nI j), .int y, .int (nI 1)] dX7_lastEcho_4 m_X7_isClick k_X7_isClick tw_856 rfl rfl rfl QW_o rfl rfl (Nat.le_of_ble_eq_true rfl) ⟨by omega, by omega, by omega, by omega⟩ (m_isClick_bad hl (by omega) hσ hj hin (nI 1)) (kr_some (x := .int (nI 0)) ?_) kx_no
  refine V_ifn_eq (tgt := 17) C dX7_lastEcho_7 (by decide) (by decide) (fun hb1 => ?_) (fun hb1 => by exfalso; omega)
  refine V_iconst (v := nI 0) C dX7_lastEcho_17 (by decide) ?_
  exact V_iret C .int dX7_lastEcho_18 hr rfl ⟨rfl, rfl, _, _, _, _, rfl⟩ (by omega) (by omega)
set_option maxHeartbeats 4000000 in
theorem m_loudestMoment_no {l : Launch} {D : va_G} {ba d : Nat} {ad : Adr} (hl : l.stackTraces = false) (hd : 9 ≤ d) {i : Nat} {σ : CS} {th ro : Int32} {lo ma ap : Nat → Int32} {o : Wd} (hσ : cOK σ) {x : Int32} (hx : ∀ j, j < cN σ → x ≠ nI j) (y : Int32)  : CT l yX7_loudestMoment (wsO yX7_loudestMoment cX7_loudestMoment 3 (some .int)) d 8 64 D ba [.ref (ad [i]), .int x, .int y] ad (QW i ad σ th ro lo ma ap o) (RQ i ad σ o (nI 1) (some (.int (nI 0)))) noX := by
  refine CT_of RX7 rfl (by decide +kernel) hl (Nat.le_of_ble_eq_true rfl) ?_
  intro p e s m args below meth c C hr hnm
  refine V_lvE (lv' := [(0, .ref (ad [i])), (1, .int x), (2, .int y)]) rfl ?_
  have hσ1 := hσ.1
  have hσ2 := hσ.2.1
  refine V_aload_n C dX7_loudestMoment_0 0 rfl ?_
  refine V_iload_n C dX7_loudestMoment_1 1 rfl ?_
  refine V_iload_n C dX7_loudestMoment_2 2 rfl ?_
  refine V_iconst (v := nI 1) C dX7_loudestMoment_3 (by decide) ?_
  refine V_callV (r := (RX7, TX7, 17)) C [.int x, .int y, .int (nI 1)] dX7_loudestMoment_4 m_X7_isClick k_X7_isClick tw_856 rfl rfl rfl QW_o rfl rfl (Nat.le_of_ble_eq_true rfl) ⟨by omega, by omega, by omega, by omega⟩ (m_isClick_no hl (by omega) hσ hx y (nI 1)) (kr_some (x := .int (nI 0)) ?_) kx_no
  refine V_ifn_eq (tgt := 17) C dX7_loudestMoment_7 (by decide) (by decide) (fun hb1 => ?_) (fun hb1 => by exfalso; omega)
  refine V_iconst (v := nI 0) C dX7_loudestMoment_17 (by decide) ?_
  exact V_iret C .int dX7_loudestMoment_18 hr rfl ⟨rfl, rfl, _, _, _, _, rfl⟩ (by omega) (by omega)
set_option maxHeartbeats 4000000 in
theorem m_loudestMoment_bad {l : Launch} {D : va_G} {ba d : Nat} {ad : Adr} (hl : l.stackTraces = false) (hd : 9 ≤ d) {i : Nat} {σ : CS} {th ro : Int32} {lo ma ap : Nat → Int32} {o : Wd} (hσ : cOK σ) {j : Nat} (hj : j < cN σ) {y : Int32} (hin : inR y (nI 1) (nI 1000) = 0)  : CT l yX7_loudestMoment (wsO yX7_loudestMoment cX7_loudestMoment 3 (some .int)) d 8 64 D ba [.ref (ad [i]), .int (nI j), .int y] ad (QW i ad σ th ro lo ma ap o) (RQ i ad σ o (nI 2) (some (.int (nI 0)))) noX := by
  refine CT_of RX7 rfl (by decide +kernel) hl (Nat.le_of_ble_eq_true rfl) ?_
  intro p e s m args below meth c C hr hnm
  refine V_lvE (lv' := [(0, .ref (ad [i])), (1, .int (nI j)), (2, .int y)]) rfl ?_
  have hσ1 := hσ.1
  have hσ2 := hσ.2.1
  refine V_aload_n C dX7_loudestMoment_0 0 rfl ?_
  refine V_iload_n C dX7_loudestMoment_1 1 rfl ?_
  refine V_iload_n C dX7_loudestMoment_2 2 rfl ?_
  refine V_iconst (v := nI 1) C dX7_loudestMoment_3 (by decide) ?_
  refine V_callV (r := (RX7, TX7, 17)) C [.int (nI j), .int y, .int (nI 1)] dX7_loudestMoment_4 m_X7_isClick k_X7_isClick tw_856 rfl rfl rfl QW_o rfl rfl (Nat.le_of_ble_eq_true rfl) ⟨by omega, by omega, by omega, by omega⟩ (m_isClick_bad hl (by omega) hσ hj hin (nI 1)) (kr_some (x := .int (nI 0)) ?_) kx_no
  refine V_ifn_eq (tgt := 17) C dX7_loudestMoment_7 (by decide) (by decide) (fun hb1 => ?_) (fun hb1 => by exfalso; omega)
  refine V_iconst (v := nI 0) C dX7_loudestMoment_17 (by decide) ?_
  exact V_iret C .int dX7_loudestMoment_18 hr rfl ⟨rfl, rfl, _, _, _, _, rfl⟩ (by omega) (by omega)
set_option maxHeartbeats 4000000 in
theorem m_loudEchoes {l : Launch} {D : va_G} {ba d : Nat} {ad : Adr} (hl : l.stackTraces = false) (hd : 9 ≤ d) {i : Nat} {σ : CS} {th ro : Int32} {lo ma ap : Nat → Int32} {o : Wd} (hσ : cOK σ) {j : Nat} (hj : j < cN σ) {v : Nat} (hv : v ≤ 1000) (hin : ¬ inR (nI v) (nI 1) (nI 1000) = 0) {z : Int32} (hin2 : ¬ inR z (nI 1) (nI 1000) = 0)  : CT l yX7_loudEchoes (wsO yX7_loudEchoes cX7_loudEchoes 4 (some .int)) d 8 64 D ba [.ref (ad [i]), .int (nI j), .int (nI v), .int z] ad (QW i ad σ th ro lo ma ap o) (RQ i ad σ o (nI 0) (some (.int ((tly (cH σ j) z v).2.1)))) noX := by
  refine CT_of RX7 rfl (by decide +kernel) hl (Nat.le_of_ble_eq_true rfl) ?_
  intro p e s m args below meth c C hr hnm
  refine V_lvE (lv' := [(0, .ref (ad [i])), (1, .int (nI j)), (2, .int (nI v)), (3, .int z)]) rfl ?_
  have hσ1 := hσ.1
  have hσ2 := hσ.2.1
  have hu := hσ.2.2.1 j hj
  have hu1 := hu.1
  have hu2 := hu.2.1
  have hu3 := hu.2.2.1
  have hu4 := hu.2.2.2.1
  have hL := laid (dm := hDm (cH σ j)) (du := hDu (cH σ j)) (lo := lo) (ma := ma) (ap := ap) hu hv
  refine V_aload_n C dX7_loudEchoes_0 0 rfl ?_
  refine V_iload_n C dX7_loudEchoes_1 1 rfl ?_
  refine V_iload_n C dX7_loudEchoes_2 2 rfl ?_
  refine V_iload_n C dX7_loudEchoes_3 3 rfl ?_
  refine V_iconst (v := nI 1) C dX7_loudEchoes_4 (by decide) ?_
  refine V_sipush (v := nI 1000) C dX7_loudEchoes_5 (by decide) ?_
  have hin8 := inR_le z (nI 1) (nI 1000)
  refine V_callS C [.int z, .int (nI 1), .int (nI 1000)] dX7_loudEchoes_8 m_X7_isIn k_X7_isIn tw_728 rfl rfl (Nat.le_of_ble_eq_true rfl) ⟨by omega, by omega, by omega, by omega⟩ (m_isIn hl (by omega) z (nI 1) (nI 1000)) (kr_some (x := .int (nI (inR z (nI 1) (nI 1000)))) ?_) kx_no
  rw [show inR z (nI 1) (nI 1000) = 1 from by have := inR_le z (nI 1) (nI 1000); omega]
  refine V_callV (r := (RX7, TX7, 17)) C [.int (nI j), .int (nI v), .int (nI 1)] dX7_loudEchoes_11 m_X7_isClick k_X7_isClick tw_856 rfl rfl rfl QW_o rfl rfl (Nat.le_of_ble_eq_true rfl) ⟨by omega, by omega, by omega, by omega⟩ (m_isClick hl (by omega) hσ hj hv hin) (kr_some (x := .int (nI 1)) ?_) kx_no
  refine V_ifn_eq (tgt := 25) C dX7_loudEchoes_14 (by decide) (by decide) (fun hb1 => by exfalso; omega) (fun hb1 => ?_)
  refine V_aload_n C dX7_loudEchoes_17 0 rfl ?_
  refine V_iload_n C dX7_loudEchoes_18 3 rfl ?_
  refine V_callV (r := (RX7, TX7, 17)) C [.int z] dX7_loudEchoes_19 m_X7_louder k_X7_louder tw_815 rfl rfl rfl QW_o rfl rfl (Nat.le_of_ble_eq_true rfl) ⟨by omega, by omega, by omega, by omega⟩ (m_louder hl (by omega) hL) (kr_some (x := .int (nI (louR z (RQh (cH σ j) (hDm (cH σ j)) (hDu (cH σ j)) v) (hSc (cH σ j))))) ?_) kx_no
  refine V_goto (tgt := 26) C dX7_loudEchoes_22 (by decide) ?_
  exact V_iret C .int dX7_loudEchoes_26 hr rfl ⟨by rw [tly_rows hu hv], rfl, _, _, _, _, rfl⟩ (by omega) (by omega)
set_option maxHeartbeats 4000000 in
theorem m_loudnessAt {l : Launch} {D : va_G} {ba d : Nat} {ad : Adr} (hl : l.stackTraces = false) (hd : 9 ≤ d) {i : Nat} {σ : CS} {th ro : Int32} {lo ma ap : Nat → Int32} {o : Wd} (hσ : cOK σ) {j : Nat} (hj : j < cN σ) {v : Nat} (hv : v ≤ 1000) (hin : ¬ inR (nI v) (nI 1) (nI 1000) = 0) {m1 : Nat} (hm : m1 ≤ 3000) (hin2 : ¬ inR (nI m1) (nI 0) (nI 3000) = 0)  : CT l yX7_loudnessAt (wsO yX7_loudnessAt cX7_loudnessAt 4 (some .int)) d 8 64 D ba [.ref (ad [i]), .int (nI j), .int (nI v), .int (nI m1)] ad (QW i ad σ th ro lo ma ap o) (RQ i ad σ o (nI 0) (some (.int (if m1 % 6 = 0 then ldz (cH σ j) v (m1 / 6) else nI 0)))) noX := by
  refine CT_of RX7 rfl (by decide +kernel) hl (Nat.le_of_ble_eq_true rfl) ?_
  intro p e s m args below meth c C hr hnm
  refine V_lvE (lv' := [(0, .ref (ad [i])), (1, .int (nI j)), (2, .int (nI v)), (3, .int (nI m1))]) rfl ?_
  have hσ1 := hσ.1
  have hσ2 := hσ.2.1
  have hu := hσ.2.2.1 j hj
  have hu1 := hu.1
  have hu2 := hu.2.1
  have hu3 := hu.2.2.1
  have hu4 := hu.2.2.2.1
  have hL := laid (dm := hDm (cH σ j)) (du := hDu (cH σ j)) (lo := lo) (ma := ma) (ap := ap) hu hv
  refine V_aload_n C dX7_loudnessAt_0 0 rfl ?_
  refine V_iload_n C dX7_loudnessAt_1 1 rfl ?_
  refine V_iload_n C dX7_loudnessAt_2 2 rfl ?_
  refine V_iload_n C dX7_loudnessAt_3 3 rfl ?_
  refine V_iconst (v := nI 0) C dX7_loudnessAt_4 (by decide) ?_
  refine V_sipush (v := nI 3000) C dX7_loudnessAt_5 (by decide) ?_
  have hin8 := inR_le (nI m1) (nI 0) (nI 3000)
  refine V_callS C [.int (nI m1), .int (nI 0), .int (nI 3000)] dX7_loudnessAt_8 m_X7_isIn k_X7_isIn tw_728 rfl rfl (Nat.le_of_ble_eq_true rfl) ⟨by omega, by omega, by omega, by omega⟩ (m_isIn hl (by omega) (nI m1) (nI 0) (nI 3000)) (kr_some (x := .int (nI (inR (nI m1) (nI 0) (nI 3000)))) ?_) kx_no
  rw [show inR (nI m1) (nI 0) (nI 3000) = 1 from by have := inR_le (nI m1) (nI 0) (nI 3000); omega]
  refine V_callV (r := (RX7, TX7, 17)) C [.int (nI j), .int (nI v), .int (nI 1)] dX7_loudnessAt_11 m_X7_isClick k_X7_isClick tw_856 rfl rfl rfl QW_o rfl rfl (Nat.le_of_ble_eq_true rfl) ⟨by omega, by omega, by omega, by omega⟩ (m_isClick hl (by omega) hσ hj hv hin) (kr_some (x := .int (nI 1)) ?_) kx_no
  refine V_ifn_eq (tgt := 25) C dX7_loudnessAt_14 (by decide) (by decide) (fun hb1 => by exfalso; omega) (fun hb1 => ?_)
  refine V_aload_n C dX7_loudnessAt_17 0 rfl ?_
  refine V_iload_n C dX7_loudnessAt_18 3 rfl ?_
  refine V_callV (r := (RX7, TX7, 17)) C [.int (nI m1)] dX7_loudnessAt_19 m_X7_at k_X7_at tw_880 rfl rfl rfl QW_o rfl rfl (Nat.le_of_ble_eq_true rfl) ⟨by omega, by omega, by omega, by omega⟩ (m_at hl (by omega) hL hm) (kr_some (x := .int (nI (atR (RQh (cH σ j) (hDm (cH σ j)) (hDu (cH σ j)) v) (DQh (cH σ j)) m1 (hSc (cH σ j))))) ?_) kx_no
  refine V_goto (tgt := 26) C dX7_loudnessAt_22 (by decide) ?_
  exact V_iret C .int dX7_loudnessAt_26 hr rfl ⟨by rw [at_rows hu], rfl, _, _, _, _, rfl⟩ (by omega) (by omega)
set_option maxHeartbeats 4000000 in
theorem m_loudEchoes_no {l : Launch} {D : va_G} {ba d : Nat} {ad : Adr} (hl : l.stackTraces = false) (hd : 9 ≤ d) {i : Nat} {σ : CS} {th ro : Int32} {lo ma ap : Nat → Int32} {o : Wd} (hσ : cOK σ) {x : Int32} (hx : ∀ j, j < cN σ → x ≠ nI j) (y z : Int32)  : CT l yX7_loudEchoes (wsO yX7_loudEchoes cX7_loudEchoes 4 (some .int)) d 8 64 D ba [.ref (ad [i]), .int x, .int y, .int z] ad (QW i ad σ th ro lo ma ap o) (RQ i ad σ o (nI 1) (some (.int (nI 0)))) noX := by
  refine CT_of RX7 rfl (by decide +kernel) hl (Nat.le_of_ble_eq_true rfl) ?_
  intro p e s m args below meth c C hr hnm
  refine V_lvE (lv' := [(0, .ref (ad [i])), (1, .int x), (2, .int y), (3, .int z)]) rfl ?_
  have hσ1 := hσ.1
  have hσ2 := hσ.2.1
  refine V_aload_n C dX7_loudEchoes_0 0 rfl ?_
  refine V_iload_n C dX7_loudEchoes_1 1 rfl ?_
  refine V_iload_n C dX7_loudEchoes_2 2 rfl ?_
  refine V_iload_n C dX7_loudEchoes_3 3 rfl ?_
  refine V_iconst (v := nI 1) C dX7_loudEchoes_4 (by decide) ?_
  refine V_sipush (v := nI 1000) C dX7_loudEchoes_5 (by decide) ?_
  have hin8 := inR_le z (nI 1) (nI 1000)
  refine V_callS C [.int z, .int (nI 1), .int (nI 1000)] dX7_loudEchoes_8 m_X7_isIn k_X7_isIn tw_728 rfl rfl (Nat.le_of_ble_eq_true rfl) ⟨by omega, by omega, by omega, by omega⟩ (m_isIn hl (by omega) z (nI 1) (nI 1000)) (kr_some (x := .int (nI (inR z (nI 1) (nI 1000)))) ?_) kx_no
  refine V_callV (r := (RX7, TX7, 17)) C [.int x, .int y, .int (nI (inR z (nI 1) (nI 1000)))] dX7_loudEchoes_11 m_X7_isClick k_X7_isClick tw_856 rfl rfl rfl QW_o rfl rfl (Nat.le_of_ble_eq_true rfl) ⟨by omega, by omega, by omega, by omega⟩ (m_isClick_no hl (by omega) hσ hx y (nI (inR z (nI 1) (nI 1000)))) (kr_some (x := .int (nI 0)) ?_) kx_no
  refine V_ifn_eq (tgt := 25) C dX7_loudEchoes_14 (by decide) (by decide) (fun hb1 => ?_) (fun hb1 => by exfalso; omega)
  refine V_iconst (v := nI 0) C dX7_loudEchoes_25 (by decide) ?_
  exact V_iret C .int dX7_loudEchoes_26 hr rfl ⟨rfl, rfl, _, _, _, _, rfl⟩ (by omega) (by omega)
set_option maxHeartbeats 4000000 in
theorem m_loudEchoes_bad {l : Launch} {D : va_G} {ba d : Nat} {ad : Adr} (hl : l.stackTraces = false) (hd : 9 ≤ d) {i : Nat} {σ : CS} {th ro : Int32} {lo ma ap : Nat → Int32} {o : Wd} (hσ : cOK σ) {j : Nat} (hj : j < cN σ) {y : Int32} (hin : inR y (nI 1) (nI 1000) = 0) (z : Int32)  : CT l yX7_loudEchoes (wsO yX7_loudEchoes cX7_loudEchoes 4 (some .int)) d 8 64 D ba [.ref (ad [i]), .int (nI j), .int y, .int z] ad (QW i ad σ th ro lo ma ap o) (RQ i ad σ o (nI 2) (some (.int (nI 0)))) noX := by
  refine CT_of RX7 rfl (by decide +kernel) hl (Nat.le_of_ble_eq_true rfl) ?_
  intro p e s m args below meth c C hr hnm
  refine V_lvE (lv' := [(0, .ref (ad [i])), (1, .int (nI j)), (2, .int y), (3, .int z)]) rfl ?_
  have hσ1 := hσ.1
  have hσ2 := hσ.2.1
  refine V_aload_n C dX7_loudEchoes_0 0 rfl ?_
  refine V_iload_n C dX7_loudEchoes_1 1 rfl ?_
  refine V_iload_n C dX7_loudEchoes_2 2 rfl ?_
  refine V_iload_n C dX7_loudEchoes_3 3 rfl ?_
  refine V_iconst (v := nI 1) C dX7_loudEchoes_4 (by decide) ?_
  refine V_sipush (v := nI 1000) C dX7_loudEchoes_5 (by decide) ?_
  have hin8 := inR_le z (nI 1) (nI 1000)
  refine V_callS C [.int z, .int (nI 1), .int (nI 1000)] dX7_loudEchoes_8 m_X7_isIn k_X7_isIn tw_728 rfl rfl (Nat.le_of_ble_eq_true rfl) ⟨by omega, by omega, by omega, by omega⟩ (m_isIn hl (by omega) z (nI 1) (nI 1000)) (kr_some (x := .int (nI (inR z (nI 1) (nI 1000)))) ?_) kx_no
  refine V_callV (r := (RX7, TX7, 17)) C [.int (nI j), .int y, .int (nI (inR z (nI 1) (nI 1000)))] dX7_loudEchoes_11 m_X7_isClick k_X7_isClick tw_856 rfl rfl rfl QW_o rfl rfl (Nat.le_of_ble_eq_true rfl) ⟨by omega, by omega, by omega, by omega⟩ (m_isClick_bad hl (by omega) hσ hj hin (nI (inR z (nI 1) (nI 1000)))) (kr_some (x := .int (nI 0)) ?_) kx_no
  refine V_ifn_eq (tgt := 25) C dX7_loudEchoes_14 (by decide) (by decide) (fun hb1 => ?_) (fun hb1 => by exfalso; omega)
  refine V_iconst (v := nI 0) C dX7_loudEchoes_25 (by decide) ?_
  exact V_iret C .int dX7_loudEchoes_26 hr rfl ⟨rfl, rfl, _, _, _, _, rfl⟩ (by omega) (by omega)
set_option maxHeartbeats 4000000 in
theorem m_loudEchoes_bad2 {l : Launch} {D : va_G} {ba d : Nat} {ad : Adr} (hl : l.stackTraces = false) (hd : 9 ≤ d) {i : Nat} {σ : CS} {th ro : Int32} {lo ma ap : Nat → Int32} {o : Wd} (hσ : cOK σ) {j : Nat} (hj : j < cN σ) {v : Nat} (hv : v ≤ 1000) (hin : ¬ inR (nI v) (nI 1) (nI 1000) = 0) {z : Int32} (hin2 : inR z (nI 1) (nI 1000) = 0)  : CT l yX7_loudEchoes (wsO yX7_loudEchoes cX7_loudEchoes 4 (some .int)) d 8 64 D ba [.ref (ad [i]), .int (nI j), .int (nI v), .int z] ad (QW i ad σ th ro lo ma ap o) (RQ i ad σ o (nI 2) (some (.int (nI 0)))) noX := by
  refine CT_of RX7 rfl (by decide +kernel) hl (Nat.le_of_ble_eq_true rfl) ?_
  intro p e s m args below meth c C hr hnm
  refine V_lvE (lv' := [(0, .ref (ad [i])), (1, .int (nI j)), (2, .int (nI v)), (3, .int z)]) rfl ?_
  have hσ1 := hσ.1
  have hσ2 := hσ.2.1
  refine V_aload_n C dX7_loudEchoes_0 0 rfl ?_
  refine V_iload_n C dX7_loudEchoes_1 1 rfl ?_
  refine V_iload_n C dX7_loudEchoes_2 2 rfl ?_
  refine V_iload_n C dX7_loudEchoes_3 3 rfl ?_
  refine V_iconst (v := nI 1) C dX7_loudEchoes_4 (by decide) ?_
  refine V_sipush (v := nI 1000) C dX7_loudEchoes_5 (by decide) ?_
  have hin8 := inR_le z (nI 1) (nI 1000)
  refine V_callS C [.int z, .int (nI 1), .int (nI 1000)] dX7_loudEchoes_8 m_X7_isIn k_X7_isIn tw_728 rfl rfl (Nat.le_of_ble_eq_true rfl) ⟨by omega, by omega, by omega, by omega⟩ (m_isIn hl (by omega) z (nI 1) (nI 1000)) (kr_some (x := .int (nI (inR z (nI 1) (nI 1000)))) ?_) kx_no
  rw [show inR z (nI 1) (nI 1000) = 0 from hin2]
  refine V_callV (r := (RX7, TX7, 17)) C [.int (nI j), .int (nI v), .int (nI 0)] dX7_loudEchoes_11 m_X7_isClick k_X7_isClick tw_856 rfl rfl rfl QW_o rfl rfl (Nat.le_of_ble_eq_true rfl) ⟨by omega, by omega, by omega, by omega⟩ (m_isClick_bad2 hl (by omega) hσ hj hv hin) (kr_some (x := .int (nI 0)) ?_) kx_no
  refine V_ifn_eq (tgt := 25) C dX7_loudEchoes_14 (by decide) (by decide) (fun hb1 => ?_) (fun hb1 => by exfalso; omega)
  refine V_iconst (v := nI 0) C dX7_loudEchoes_25 (by decide) ?_
  exact V_iret C .int dX7_loudEchoes_26 hr rfl ⟨rfl, rfl, _, _, _, _, rfl⟩ (by omega) (by omega)
set_option maxHeartbeats 4000000 in
theorem m_loudnessAt_no {l : Launch} {D : va_G} {ba d : Nat} {ad : Adr} (hl : l.stackTraces = false) (hd : 9 ≤ d) {i : Nat} {σ : CS} {th ro : Int32} {lo ma ap : Nat → Int32} {o : Wd} (hσ : cOK σ) {x : Int32} (hx : ∀ j, j < cN σ → x ≠ nI j) (y z : Int32)  : CT l yX7_loudnessAt (wsO yX7_loudnessAt cX7_loudnessAt 4 (some .int)) d 8 64 D ba [.ref (ad [i]), .int x, .int y, .int z] ad (QW i ad σ th ro lo ma ap o) (RQ i ad σ o (nI 1) (some (.int (nI 0)))) noX := by
  refine CT_of RX7 rfl (by decide +kernel) hl (Nat.le_of_ble_eq_true rfl) ?_
  intro p e s m args below meth c C hr hnm
  refine V_lvE (lv' := [(0, .ref (ad [i])), (1, .int x), (2, .int y), (3, .int z)]) rfl ?_
  have hσ1 := hσ.1
  have hσ2 := hσ.2.1
  refine V_aload_n C dX7_loudnessAt_0 0 rfl ?_
  refine V_iload_n C dX7_loudnessAt_1 1 rfl ?_
  refine V_iload_n C dX7_loudnessAt_2 2 rfl ?_
  refine V_iload_n C dX7_loudnessAt_3 3 rfl ?_
  refine V_iconst (v := nI 0) C dX7_loudnessAt_4 (by decide) ?_
  refine V_sipush (v := nI 3000) C dX7_loudnessAt_5 (by decide) ?_
  have hin8 := inR_le z (nI 0) (nI 3000)
  refine V_callS C [.int z, .int (nI 0), .int (nI 3000)] dX7_loudnessAt_8 m_X7_isIn k_X7_isIn tw_728 rfl rfl (Nat.le_of_ble_eq_true rfl) ⟨by omega, by omega, by omega, by omega⟩ (m_isIn hl (by omega) z (nI 0) (nI 3000)) (kr_some (x := .int (nI (inR z (nI 0) (nI 3000)))) ?_) kx_no
  refine V_callV (r := (RX7, TX7, 17)) C [.int x, .int y, .int (nI (inR z (nI 0) (nI 3000)))] dX7_loudnessAt_11 m_X7_isClick k_X7_isClick tw_856 rfl rfl rfl QW_o rfl rfl (Nat.le_of_ble_eq_true rfl) ⟨by omega, by omega, by omega, by omega⟩ (m_isClick_no hl (by omega) hσ hx y (nI (inR z (nI 0) (nI 3000)))) (kr_some (x := .int (nI 0)) ?_) kx_no
  refine V_ifn_eq (tgt := 25) C dX7_loudnessAt_14 (by decide) (by decide) (fun hb1 => ?_) (fun hb1 => by exfalso; omega)
  refine V_iconst (v := nI 0) C dX7_loudnessAt_25 (by decide) ?_
  exact V_iret C .int dX7_loudnessAt_26 hr rfl ⟨rfl, rfl, _, _, _, _, rfl⟩ (by omega) (by omega)
set_option maxHeartbeats 4000000 in
theorem m_loudnessAt_bad {l : Launch} {D : va_G} {ba d : Nat} {ad : Adr} (hl : l.stackTraces = false) (hd : 9 ≤ d) {i : Nat} {σ : CS} {th ro : Int32} {lo ma ap : Nat → Int32} {o : Wd} (hσ : cOK σ) {j : Nat} (hj : j < cN σ) {y : Int32} (hin : inR y (nI 1) (nI 1000) = 0) (z : Int32)  : CT l yX7_loudnessAt (wsO yX7_loudnessAt cX7_loudnessAt 4 (some .int)) d 8 64 D ba [.ref (ad [i]), .int (nI j), .int y, .int z] ad (QW i ad σ th ro lo ma ap o) (RQ i ad σ o (nI 2) (some (.int (nI 0)))) noX := by
  refine CT_of RX7 rfl (by decide +kernel) hl (Nat.le_of_ble_eq_true rfl) ?_
  intro p e s m args below meth c C hr hnm
  refine V_lvE (lv' := [(0, .ref (ad [i])), (1, .int (nI j)), (2, .int y), (3, .int z)]) rfl ?_
  have hσ1 := hσ.1
  have hσ2 := hσ.2.1
  refine V_aload_n C dX7_loudnessAt_0 0 rfl ?_
  refine V_iload_n C dX7_loudnessAt_1 1 rfl ?_
  refine V_iload_n C dX7_loudnessAt_2 2 rfl ?_
  refine V_iload_n C dX7_loudnessAt_3 3 rfl ?_
  refine V_iconst (v := nI 0) C dX7_loudnessAt_4 (by decide) ?_
  refine V_sipush (v := nI 3000) C dX7_loudnessAt_5 (by decide) ?_
  have hin8 := inR_le z (nI 0) (nI 3000)
  refine V_callS C [.int z, .int (nI 0), .int (nI 3000)] dX7_loudnessAt_8 m_X7_isIn k_X7_isIn tw_728 rfl rfl (Nat.le_of_ble_eq_true rfl) ⟨by omega, by omega, by omega, by omega⟩ (m_isIn hl (by omega) z (nI 0) (nI 3000)) (kr_some (x := .int (nI (inR z (nI 0) (nI 3000)))) ?_) kx_no
  refine V_callV (r := (RX7, TX7, 17)) C [.int (nI j), .int y, .int (nI (inR z (nI 0) (nI 3000)))] dX7_loudnessAt_11 m_X7_isClick k_X7_isClick tw_856 rfl rfl rfl QW_o rfl rfl (Nat.le_of_ble_eq_true rfl) ⟨by omega, by omega, by omega, by omega⟩ (m_isClick_bad hl (by omega) hσ hj hin (nI (inR z (nI 0) (nI 3000)))) (kr_some (x := .int (nI 0)) ?_) kx_no
  refine V_ifn_eq (tgt := 25) C dX7_loudnessAt_14 (by decide) (by decide) (fun hb1 => ?_) (fun hb1 => by exfalso; omega)
  refine V_iconst (v := nI 0) C dX7_loudnessAt_25 (by decide) ?_
  exact V_iret C .int dX7_loudnessAt_26 hr rfl ⟨rfl, rfl, _, _, _, _, rfl⟩ (by omega) (by omega)
set_option maxHeartbeats 4000000 in
theorem m_loudnessAt_bad2 {l : Launch} {D : va_G} {ba d : Nat} {ad : Adr} (hl : l.stackTraces = false) (hd : 9 ≤ d) {i : Nat} {σ : CS} {th ro : Int32} {lo ma ap : Nat → Int32} {o : Wd} (hσ : cOK σ) {j : Nat} (hj : j < cN σ) {v : Nat} (hv : v ≤ 1000) (hin : ¬ inR (nI v) (nI 1) (nI 1000) = 0) {z : Int32} (hin2 : inR z (nI 0) (nI 3000) = 0)  : CT l yX7_loudnessAt (wsO yX7_loudnessAt cX7_loudnessAt 4 (some .int)) d 8 64 D ba [.ref (ad [i]), .int (nI j), .int (nI v), .int z] ad (QW i ad σ th ro lo ma ap o) (RQ i ad σ o (nI 2) (some (.int (nI 0)))) noX := by
  refine CT_of RX7 rfl (by decide +kernel) hl (Nat.le_of_ble_eq_true rfl) ?_
  intro p e s m args below meth c C hr hnm
  refine V_lvE (lv' := [(0, .ref (ad [i])), (1, .int (nI j)), (2, .int (nI v)), (3, .int z)]) rfl ?_
  have hσ1 := hσ.1
  have hσ2 := hσ.2.1
  refine V_aload_n C dX7_loudnessAt_0 0 rfl ?_
  refine V_iload_n C dX7_loudnessAt_1 1 rfl ?_
  refine V_iload_n C dX7_loudnessAt_2 2 rfl ?_
  refine V_iload_n C dX7_loudnessAt_3 3 rfl ?_
  refine V_iconst (v := nI 0) C dX7_loudnessAt_4 (by decide) ?_
  refine V_sipush (v := nI 3000) C dX7_loudnessAt_5 (by decide) ?_
  have hin8 := inR_le z (nI 0) (nI 3000)
  refine V_callS C [.int z, .int (nI 0), .int (nI 3000)] dX7_loudnessAt_8 m_X7_isIn k_X7_isIn tw_728 rfl rfl (Nat.le_of_ble_eq_true rfl) ⟨by omega, by omega, by omega, by omega⟩ (m_isIn hl (by omega) z (nI 0) (nI 3000)) (kr_some (x := .int (nI (inR z (nI 0) (nI 3000)))) ?_) kx_no
  rw [show inR z (nI 0) (nI 3000) = 0 from hin2]
  refine V_callV (r := (RX7, TX7, 17)) C [.int (nI j), .int (nI v), .int (nI 0)] dX7_loudnessAt_11 m_X7_isClick k_X7_isClick tw_856 rfl rfl rfl QW_o rfl rfl (Nat.le_of_ble_eq_true rfl) ⟨by omega, by omega, by omega, by omega⟩ (m_isClick_bad2 hl (by omega) hσ hj hv hin) (kr_some (x := .int (nI 0)) ?_) kx_no
  refine V_ifn_eq (tgt := 25) C dX7_loudnessAt_14 (by decide) (by decide) (fun hb1 => ?_) (fun hb1 => by exfalso; omega)
  refine V_iconst (v := nI 0) C dX7_loudnessAt_25 (by decide) ?_
  exact V_iret C .int dX7_loudnessAt_26 hr rfl ⟨rfl, rfl, _, _, _, _, rfl⟩ (by omega) (by omega)
