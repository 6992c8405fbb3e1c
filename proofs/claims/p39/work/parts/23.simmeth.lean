
set_option maxHeartbeats 4000000 in
theorem s_strikeG {l : Launch} {D : va_G} {ba d : Nat} {ad : Adr} {w : Wd} (hl : l.stackTraces = false) (hd : 1 ≤ d) {LH : Lab} {sa dm du dy : Nat} {ce : Int32} (hH : w LH = some (eLH sa dm du ce dy)) : CT l yX7_strike (wsO yX7_strike cX7_strike 1 none) d 0 0 D ba [.ref (ad LH)] ad w (isR none ad (wset w LH (eLH sa dm du (-1) 0))) noX := by
  refine CT_of RX7 rfl (by decide +kernel) hl (Nat.le_of_ble_eq_true rfl) ?_
  intro p e s m args below meth c C hr hnm
  refine V_lvE (lv' := [(0, .ref (ad LH))]) rfl ?_
  refine V_aload_n C dX7_strike_0 0 rfl ?_
  refine V_iconst (v := -1) C dX7_strike_1 (by decide) ?_
  refine V_put (ci := 6) (k := 3) C dX7_strike_2 RX7 RX7 TX7 5 tyX7 tyX7_ok nmX7 fw_X7 rfl (by decide) tw_535 rfl (Or.inl rfl) rfl rfl rfl hH (Nat.le_of_ble_eq_true rfl) ?_
  refine V_wd (w' := wset w LH (.inr (6, [.ref sa, .int (nI dm), .int (nI du), .int (-1), .int (nI dy)]))) rfl ?_
  refine V_aload_n C dX7_strike_5 0 rfl ?_
  refine V_iconst (v := nI 0) C dX7_strike_6 (by decide) ?_
  refine V_put (ci := 6) (k := 4) C dX7_strike_7 RX7 RX7 TX7 5 tyX7 tyX7_ok nmX7 fw_X7 rfl (by decide) tw_540 rfl (Or.inl rfl) rfl rfl rfl wset_s (Nat.le_of_ble_eq_true rfl) ?_
  refine V_wd (w' := wset w LH (.inr (6, [.ref sa, .int (nI dm), .int (nI du), .int (-1), .int (nI 0)]))) wset_wset ?_
  exact V_vret C dX7_strike_10 hr ⟨rfl, rfl, rfl⟩ (by omega) (by omega)
set_option maxHeartbeats 4000000 in
theorem lp_with {p : Program} {l : Launch} {e : Env} {s : State} {m : MethodId} {args : Array Value} {below : List Frame} {meth : Method} {c : Code} {D : va_G} {ba d mc ms : Nat} {ad : Adr} {w : Wd} {cells slots : Nat} {QR : Option Value → Adr → Wd → Prop} {QX : String → Adr → Wd → Prop} (C : Cx p l s m args meth c D ba RX8 cX8_with 4 [] d) (hl : l.stackTraces = false) (hr : meth.sig.returnType = (some (.array (.array .int)))) (hd : 1 ≤ d) {LA LR LN : Lab} {n0 m1 : Nat} {Lr : Nat → Lab} {mr : Nat → Nat} {fr : Nat → Nat → Int32} {g : Nat → Int32} (hA : w LA = some (eA n0 (adN n0 (fun k => ad (Lr k))))) (hr0 : ∀ k, k < n0 → w (Lr k) = some (eI (mr k) (fr k))) (hR : w LR = some (eI m1 g)) (hN : w LN = none) (hn8 : n0 ≤ 8) (hcm : cells ≤ mc) (hsm : slots ≤ ms) (hq : QR (some (.ref (ad LN))) ad (wset w LN (eA (n0 + 1) (va_up (adN n0 (fun k => ad (Lr k))) n0 (some (ad LR)))))) : ∀ (n : Nat) (k : Nat), k + n = n0 → V p l e s m args below meth c D ba d mc ms (MO D ba QR QX below args s mc ms) 4 ad (wset w LN (eA (n0 + 1) (adN k (fun j => ad (Lr j))))) 10 [(3, .int (nI k)), (2, .ref (ad LN)), (0, .ref (ad LA)), (1, .ref (ad LR))] [] cells slots := by
  intro n
  induction n with
  | zero =>
    intro k hk
    have neA : LA ≠ LN := fun z => by rw [z, hN] at hA; cases hA
    have neR : LR ≠ LN := fun z => by rw [z, hN] at hR; cases hR
    have neL : ∀ k, k < n0 → Lr k ≠ LN := fun k hk z => by have h := hr0 k hk; rw [z, hN] at h; cases h
    refine V_iload_n C dX8_with_10 0 rfl ?_
    refine V_aload_n C dX8_with_11 2 rfl ?_
    refine V_alen (v := nI n0) C dX8_with_12 rfl ((wset_n neA).trans hA) rfl ?_
    refine V_icmpn_ge (tgt := 28) C dX8_with_13 (by decide) (by omega) (by omega) (fun hb1 => ?_) (fun hb1 => by exfalso; omega)
    refine V_wd (w' := wset w LN (eA (n0 + 1) (adN n0 (fun j => ad (Lr j))))) (by rw [show k = n0 by omega]) ?_
    refine V_aload_n C dX8_with_28 1 rfl ?_
    refine V_aload_n C dX8_with_29 2 rfl ?_
    refine V_alen (v := nI n0) C dX8_with_30 rfl ((wset_n neA).trans hA) rfl ?_
    refine V_aload_n C dX8_with_31 3 rfl ?_
    refine V_aastA C dX8_with_32 rfl wset_s rfl ((wset_n neR).trans hR) (by omega) (by omega) ?_
    refine V_wd (w' := wset (wset w LN (eA (n0 + 1) (adN n0 (fun j => ad (Lr j))))) LN (eA (n0 + 1) (va_up (adN n0 (fun j => ad (Lr j))) n0 (some (ad LR))))) rfl ?_
    refine V_wd (w' := wset w LN (eA (n0 + 1) (va_up (adN n0 (fun k => ad (Lr k))) n0 (some (ad LR))))) wset_wset ?_
    refine V_aload_n C dX8_with_33 1 rfl ?_
    exact V_aretA C (.array .int) dX8_with_34 hr hq (by omega) (by omega)
  | succ n ih =>
    intro k hk
    have neA : LA ≠ LN := fun z => by rw [z, hN] at hA; cases hA
    have neR : LR ≠ LN := fun z => by rw [z, hN] at hR; cases hR
    have neL : ∀ k, k < n0 → Lr k ≠ LN := fun k hk z => by have h := hr0 k hk; rw [z, hN] at h; cases h
    refine V_iload_n C dX8_with_10 0 rfl ?_
    refine V_aload_n C dX8_with_11 2 rfl ?_
    refine V_alen (v := nI n0) C dX8_with_12 rfl ((wset_n neA).trans hA) rfl ?_
    refine V_icmpn_ge (tgt := 28) C dX8_with_13 (by decide) (by omega) (by omega) (fun hb1 => by exfalso; omega) (fun hb1 => ?_)
    refine V_aload_n C dX8_with_16 1 rfl ?_
    refine V_iload_n C dX8_with_17 0 rfl ?_
    refine V_aload_n C dX8_with_18 2 rfl ?_
    refine V_iload_n C dX8_with_19 0 rfl ?_
    have hk2 : k < n0 := by omega
    refine V_aaldA (v := .ref (ad (Lr k))) C dX8_with_20 rfl ((wset_n neA).trans hA) (by omega) (by omega) (by rw [adN_lt hk2]; rfl) ?_
    refine V_aastA C dX8_with_21 rfl wset_s rfl ((wset_n (neL k hk2)).trans (hr0 k hk2)) (by omega) (by omega) ?_
    refine V_wd (w' := wset (wset w LN (eA (n0 + 1) (adN k (fun j => ad (Lr j))))) LN (eA (n0 + 1) (va_up (adN k (fun j => ad (Lr j))) k (some (ad (Lr k)))))) rfl ?_
    refine V_iincn C [(3, .int (nI (k + 1))), (2, .ref (ad LN)), (0, .ref (ad LA)), (1, .ref (ad LR))] dX8_with_22 0 rfl (by decide) rfl ?_
    refine V_goto (tgt := 10) C dX8_with_25 (by decide) ?_
    refine V_wd (w' := wset w LN (eA (n0 + 1) (adN (k + 1) (fun j => ad (Lr j))))) (by rw [wset_wset, adN_up rfl]) ?_
    refine V_lv [0, 1, 2, 3] rfl ?_
    exact ih (k + 1) (by omega)
set_option maxHeartbeats 4000000 in
theorem s_with {l : Launch} {D : va_G} {ba d : Nat} {ad : Adr} {w : Wd} (hl : l.stackTraces = false) (hd : 1 ≤ d) {LA LR LN : Lab} {n0 m1 : Nat} {Lr : Nat → Lab} {mr : Nat → Nat} {fr : Nat → Nat → Int32} {g : Nat → Int32} (hA : w LA = some (eA n0 (adN n0 (fun k => ad (Lr k))))) (hr0 : ∀ k, k < n0 → w (Lr k) = some (eI (mr k) (fr k))) (hR : w LR = some (eI m1 g)) (hN : w LN = none) (hn8 : n0 ≤ 8)  : CT l yX8_with (wsO yX8_with cX8_with 4 (some (.array (.array .int)))) d 1 9 D ba [.ref (ad LA), .ref (ad LR)] ad w (fun v ad' w' => ∃ q, v = some (.ref q) ∧ ad' = aset ad LN q ∧ w' = wset w LN (eA (n0 + 1) (va_up (adN n0 (fun k => ad (Lr k))) n0 (some (ad LR))))) noX := by
  refine CT_of RX8 rfl (by decide +kernel) hl (Nat.le_of_ble_eq_true rfl) ?_
  intro p e s m args below meth c C hr hnm
  refine V_lvE (lv' := [(0, .ref (ad LA)), (1, .ref (ad LR))]) rfl ?_
  have neA : LA ≠ LN := fun z => by rw [z, hN] at hA; cases hA
  have neR : LR ≠ LN := fun z => by rw [z, hN] at hR; cases hR
  have neL : ∀ k, k < n0 → Lr k ≠ LN := fun k hk z => by have h := hr0 k hk; rw [z, hN] at h; cases h
  refine V_aload_n C dX8_with_0 0 rfl ?_
  refine V_alen (v := nI n0) C dX8_with_1 rfl hA rfl ?_
  refine V_iconst (v := nI 1) C dX8_with_2 (by decide) ?_
  refine V_iaddn C dX8_with_3 ?_
  refine V_newA (N := n0 + 1) C LN dX8_with_4 tw_555 (by omega) hN (by omega) (by omega) (fun q => ?_)
  obtain ⟨ad1, hA1⟩ : ∃ z, z = aset ad LN q := ⟨_, rfl⟩
  have hq9 : q = ad1 LN := by rw [hA1]; exact aset_s.symm
  have hNA : ad LA = ad1 LA := by rw [hA1]; exact (aset_n neA).symm
  have hNR : ad LR = ad1 LR := by rw [hA1]; exact (aset_n neR).symm
  have hNL : adN n0 (fun k => ad (Lr k)) = adN n0 (fun k => ad1 (Lr k)) := adN_congr (fun k hk => by rw [hA1]; exact (aset_n (neL k hk)).symm)
  rw [← hA1, hNA, hNR]
  refine V_stE (st' := [.ref (ad1 LN)]) (by rw [hq9]) ?_
  refine V_astore_n C [(2, .ref (ad1 LN)), (0, .ref (ad1 LA)), (1, .ref (ad1 LR))] dX8_with_7 (by decide) rfl ?_
  refine V_iconst (v := nI 0) C dX8_with_8 (by decide) ?_
  refine V_istore_n C [(3, .int (nI 0)), (2, .ref (ad1 LN)), (0, .ref (ad1 LA)), (1, .ref (ad1 LR))] dX8_with_9 (by decide) rfl ?_
  refine V_wd (w' := wset w LN (eA (n0 + 1) (adN 0 (fun j => ad1 (Lr j))))) (by congr 1) ?_
  exact lp_with (ad := ad1) C hl hr (by omega) (by rw [hA, hNL]) hr0 hR hN hn8 (by omega) (by omega) ⟨q, by rw [hq9], hA1, by rw [hNL]⟩ n0 0 (by omega)
def hI (h : HallS) : Prop := (hCe h = -1 ∧ hDy h = 0) ∨ ∃ q : Nat, q < 5 ∧ hCe h = nI q ∧ 1 ≤ hDy h
def cI (σ : CS) : Prop := ∀ j, j < cN σ → hI (cH σ j)
theorem hI_lt {h : HallS} (hi : hI h) (hc : hCe h < 0) : hCe h = -1 ∧ hDy h = 0 := by
  rcases hi with z | ⟨q, h5, hq, hy⟩
  · exact z
  · rw [hq] at hc; exact absurd hc (nI_pos (by omega))
theorem hI_ge {h : HallS} (hi : hI h) (hc : ¬ hCe h < 0) : ¬ hCe h = -1 ∧ 1 ≤ hDy h := by
  rcases hi with ⟨z, -⟩ | ⟨q, h5, hq, hy⟩
  · rw [z] at hc; exact absurd (by decide) hc
  · exact ⟨fun z => by rw [z] at hc; exact hc (by decide), hy⟩
theorem cI_set {σ : CS} {j : Nat} {h : HallS} (hσ : cI σ) (hh : hI h) : cI (setH σ j h) := by
  intro a ha
  show hI (fup (cH σ) j h a)
  by_cases hj : a = j
  · subst hj; rw [fup_s]; exact hh
  · rw [fup_n hj]; exact hσ a ha
theorem certN_T {H : Nat → HallS} {k x : Nat} (h : hCe (H k) = -1) : x + 0 = certN H k x := by unfold certN; rw [if_pos h]; rfl
theorem certN_F {H : Nat → HallS} {k x : Nat} (h : ¬ hCe (H k) = -1) : x + 1 = certN H k x := by unfold certN; rw [if_neg h]
theorem upF_succ {α : Type} {g : Nat → α → α} {m : Nat} {x : α} : upF g (m + 1) x = g m (upF g m x) := rfl
theorem upF_cert_le {H : Nat → HallS} : ∀ m, upF (certN H) m 0 ≤ m := certs_le H
set_option maxHeartbeats 4000000 in
theorem lp_cert {p : Program} {l : Launch} {e : Env} {s : State} {m : MethodId} {args : Array Value} {below : List Frame} {meth : Method} {c : Code} {D : va_G} {ba d mc ms : Nat} {ad : Adr} {QR : Option Value → Adr → Wd → Prop} {QX : String → Adr → Wd → Prop} (C : Cx p l s m args meth c D ba RX8 cX8_certified 6 [] d) (hl : l.stackTraces = false) (hr : meth.sig.returnType = (some .int)) (hd : 1 ≤ d) {i : Nat} {σ : CS} {o : Wd} (hσ : cOK σ) (hI0 : cI σ) (hq : QR (some (.int (nI (certs (cH σ) (cN σ))))) ad (SW i ad σ o)) : ∀ (n : Nat) (k : Nat), k + n = cN σ → V p l e s m args below meth c D ba d mc ms (MO D ba QR QX below args s mc ms) 6 ad (SW i ad σ o) 13 [(4, .int (nI k)), (3, .int (nI (cN σ))), (2, .ref (ad [i, 1])), (1, .int (nI (upF (certN (cH σ)) k 0))), (0, .ref (ad [i]))] [] 0 0 := by
  intro n
  induction n with
  | zero =>
    intro k hk
    have hσ1 := hσ.1
    refine V_iload C dX8_certified_13 0 rfl ?_
    refine V_iload_n C dX8_certified_15 1 rfl ?_
    refine V_icmpn_ge (tgt := 47) C dX8_certified_16 (by decide) (by omega) (by omega) (fun hb1 => ?_) (fun hb1 => by exfalso; omega)
    refine V_iload_n C dX8_certified_47 3 rfl ?_
    exact V_iret C .int dX8_certified_48 hr rfl (by rw [show k = cN σ by omega]; exact hq) (by omega) (by omega)
  | succ n ih =>
    intro k hk
    have hσ1 := hσ.1
    refine V_iload C dX8_certified_13 0 rfl ?_
    refine V_iload_n C dX8_certified_15 1 rfl ?_
    refine V_icmpn_ge (tgt := 47) C dX8_certified_16 (by decide) (by omega) (by omega) (fun hb1 => by exfalso; omega) (fun hb1 => ?_)
    refine V_aload_n C dX8_certified_19 2 rfl ?_
    refine V_iload C dX8_certified_20 0 rfl ?_
    have hk2 : k < cN σ := by omega
    have hle := upF_cert_le (H := cH σ) k
    refine V_aaldn (v := .ref (ad [i, 3, k])) C dX8_certified_22 rfl SW_hr (by omega) (by omega) (by rw [adN_lt hk2]; rfl) ?_
    refine V_astore C [(5, .ref (ad [i, 3, k])), (4, .int (nI k)), (3, .int (nI (cN σ))), (2, .ref (ad [i, 1])), (1, .int (nI (upF (certN (cH σ)) k 0))), (0, .ref (ad [i]))] dX8_certified_23 (by decide) rfl ?_
    refine V_iload_n C dX8_certified_25 4 rfl ?_
    refine V_aload C dX8_certified_26 0 rfl ?_
    refine V_get (ci := 6) (k := 3) C dX8_certified_28 RX7 RX7 TX7 5 fw_X7 rfl (by decide) tw_536 rfl rfl (SW_h hk2) rfl ?_
    refine V_if_lt (tgt := 38) C dX8_certified_31 (by decide) (fun hb2 => ?_) (fun hb2 => ?_)
    · skip
      refine V_iconst (v := nI 0) C dX8_certified_38 (by decide) ?_
      refine V_iaddn C dX8_certified_39 ?_
      refine V_istore_n C [(1, .int (nI ((upF (certN (cH σ)) k 0) + 0))), (5, .ref (ad [i, 3, k])), (4, .int (nI k)), (3, .int (nI (cN σ))), (2, .ref (ad [i, 1])), (0, .ref (ad [i]))] dX8_certified_40 (by decide) rfl ?_
      refine V_iincn C [(4, .int (nI (k + 1))), (1, .int (nI ((upF (certN (cH σ)) k 0) + 0))), (5, .ref (ad [i, 3, k])), (3, .int (nI (cN σ))), (2, .ref (ad [i, 1])), (0, .ref (ad [i]))] dX8_certified_41 2 rfl (by decide) rfl ?_
      refine V_goto (tgt := 13) C dX8_certified_44 (by decide) ?_
      rw [show (upF (certN (cH σ)) k 0) + 0 = upF (certN (cH σ)) (k + 1) 0 from certN_T (hI_lt (hI0 k hk2) hb2).1]
      refine V_lv [0, 3, 4, 1, 5] rfl ?_
      exact ih (k + 1) (by omega)
    · skip
      refine V_iconst (v := nI 1) C dX8_certified_34 (by decide) ?_
      refine V_goto (tgt := 39) C dX8_certified_35 (by decide) ?_
      refine V_iaddn C dX8_certified_39 ?_
      refine V_istore_n C [(1, .int (nI ((upF (certN (cH σ)) k 0) + 1))), (5, .ref (ad [i, 3, k])), (4, .int (nI k)), (3, .int (nI (cN σ))), (2, .ref (ad [i, 1])), (0, .ref (ad [i]))] dX8_certified_40 (by decide) rfl ?_
      refine V_iincn C [(4, .int (nI (k + 1))), (1, .int (nI ((upF (certN (cH σ)) k 0) + 1))), (5, .ref (ad [i, 3, k])), (3, .int (nI (cN σ))), (2, .ref (ad [i, 1])), (0, .ref (ad [i]))] dX8_certified_41 2 rfl (by decide) rfl ?_
      refine V_goto (tgt := 13) C dX8_certified_44 (by decide) ?_
      rw [show (upF (certN (cH σ)) k 0) + 1 = upF (certN (cH σ)) (k + 1) 0 from certN_F (hI_ge (hI0 k hk2) hb2).1]
      refine V_lv [0, 3, 4, 1, 5] rfl ?_
      exact ih (k + 1) (by omega)
set_option maxHeartbeats 4000000 in
theorem s_certified {l : Launch} {D : va_G} {ba d : Nat} {ad : Adr} (hl : l.stackTraces = false) (hd : 1 ≤ d) {i : Nat} {σ : CS} {o : Wd} (hσ : cOK σ) (hI0 : cI σ)  : CT l yX8_certified (wsO yX8_certified cX8_certified 6 (some .int)) d 0 0 D ba [.ref (ad [i])] ad (SW i ad σ o) (isR (some (.int (nI (certs (cH σ) (cN σ))))) ad (SW i ad σ o)) noX := by
  refine CT_of RX8 rfl (by decide +kernel) hl (Nat.le_of_ble_eq_true rfl) ?_
  intro p e s m args below meth c C hr hnm
  refine V_lvE (lv' := [(0, .ref (ad [i]))]) rfl ?_
  refine V_iconst (v := nI 0) C dX8_certified_0 (by decide) ?_
  refine V_istore_n C [(1, .int (nI 0)), (0, .ref (ad [i]))] dX8_certified_1 (by decide) rfl ?_
  refine V_aload_n C dX8_certified_2 1 rfl ?_
  refine V_get (ci := 7) (k := 2) C dX8_certified_3 RX8 RX8 TX8 4 fw_X8 rfl (by decide) tw_647 rfl rfl SW_b rfl ?_
  refine V_astore_n C [(2, .ref (ad [i, 1])), (1, .int (nI 0)), (0, .ref (ad [i]))] dX8_certified_6 (by decide) rfl ?_
  refine V_aload_n C dX8_certified_7 0 rfl ?_
  refine V_alen (v := nI (cN σ)) C dX8_certified_8 rfl SW_hr rfl ?_
  refine V_istore_n C [(3, .int (nI (cN σ))), (2, .ref (ad [i, 1])), (1, .int (nI 0)), (0, .ref (ad [i]))] dX8_certified_9 (by decide) rfl ?_
  refine V_iconst (v := nI 0) C dX8_certified_10 (by decide) ?_
  refine V_istore C [(4, .int (nI 0)), (3, .int (nI (cN σ))), (2, .ref (ad [i, 1])), (1, .int (nI 0)), (0, .ref (ad [i]))] dX8_certified_11 (by decide) rfl ?_
  refine V_lv [0, 1, 2, 3, 4] rfl ?_
  exact lp_cert C hl hr (by omega) hσ hI0 ⟨rfl, rfl, rfl⟩ (cN σ) 0 (by omega)
def passF : Nat → Nat → CS → CS
  | 0, _, σ => σ
  | n + 1, k, σ => passF n (k + 1) (setH σ k (oldH 1 (cH σ k)))
abbrev dayUp (σ : CS) : CS := (cN σ, cK σ, cDay σ + nI 1, cIns σ, cH σ, cS σ)
theorem passF_eq {σ : CS} : ∀ n k, passF n k (cN σ, cK σ, cDay σ, cIns σ, olderH 1 (cH σ) k, cS σ) = (cN σ, cK σ, cDay σ, cIns σ, olderH 1 (cH σ) (k + n), cS σ)
  | 0, k => rfl
  | n + 1, k => by
    show passF n (k + 1) (cN σ, cK σ, cDay σ, cIns σ, fup (olderH 1 (cH σ) k) k (oldH 1 (olderH 1 (cH σ) k k)), cS σ) = _
    rw [olderH_s, passF_eq n (k + 1), show k + 1 + n = k + (n + 1) by omega]
theorem passF_all {σ : CS} : passF (cN σ) 0 σ = (cN σ, cK σ, cDay σ, cIns σ, olderH 1 (cH σ) (cN σ), cS σ) := by
  have h := passF_eq (σ := σ) (cN σ) 0
  rw [olderH_0, Nat.zero_add] at h
  exact h
theorem hI_old {h : HallS} (hi : hI h) : hI (oldH 1 h) := by
  by_cases hc : 1 < hDy h
  · rcases hi with ⟨z, z2⟩ | ⟨q, h5, hq, hy⟩
    · omega
    · refine Or.inr ⟨q, h5, ?_, ?_⟩
      · show (if 1 < hDy h then hCe h else -1) = nI q
        rw [if_pos hc]; exact hq
      · show 1 ≤ hDy h - 1
        omega
  · refine Or.inl ⟨?_, ?_⟩
    · show (if 1 < hDy h then hCe h else -1) = -1
      rw [if_neg hc]
    · show hDy h - 1 = 0
      omega
theorem old_eq {h : HallS} {du dy : Nat} {ce : Int32} (h1 : du = min 100 (hDu h + 1)) (h2 : ce = if 1 < hDy h then hCe h else -1) (h3 : dy = hDy h - 1) : ((hSc h, hDm h, du, ce, dy, hSu h) : HallS) = oldH 1 h := by
  subst h1; subst h2; subst h3; rfl
set_option maxHeartbeats 4000000 in
theorem lp_passS {p : Program} {l : Launch} {e : Env} {s : State} {m : MethodId} {args : Array Value} {below : List Frame} {meth : Method} {c : Code} {D : va_G} {ba d mc ms : Nat} {ad : Adr} {QR : Option Value → Adr → Wd → Prop} {QX : String → Adr → Wd → Prop} (C : Cx p l s m args meth c D ba RX8 cX8_pass 5 [] d) (hl : l.stackTraces = false) (hr : meth.sig.returnType = none) (hd : 2 ≤ d) {i : Nat} {o : Wd}  : ∀ (n : Nat) (k : Nat) (σ : CS), k + n = cN σ → cOK σ → cI σ → QR none ad (SW i ad (dayUp (passF n k σ)) o) → V p l e s m args below meth c D ba d mc ms (MO D ba QR QX below args s mc ms) 5 ad (SW i ad σ o) 10 [(3, .int (nI k)), (2, .int (nI (cN σ))), (1, .ref (ad [i, 1])), (0, .ref (ad [i]))] [] 0 0 := by
  intro n
  induction n with
  | zero =>
    intro k σ hk hσ hI0 hq
    have hσ1 := hσ.1
    refine V_iload_n C dX8_pass_10 0 rfl ?_
    refine V_iload_n C dX8_pass_11 1 rfl ?_
    refine V_icmpn_ge (tgt := 82) C dX8_pass_12 (by decide) (by omega) (by omega) (fun hb1 => ?_) (fun hb1 => by exfalso; omega)
    refine V_aload_n C dX8_pass_82 3 rfl ?_
    refine V_dup C dX8_pass_83 rfl ?_
    refine V_get (ci := 7) (k := 0) C dX8_pass_84 RX8 RX8 TX8 4 fw_X8 rfl (by decide) tw_644 rfl rfl SW_b rfl ?_
    refine V_iconst (v := nI 1) C dX8_pass_87 (by decide) ?_
    refine V_iadd C dX8_pass_88 ?_
    refine V_put (ci := 7) (k := 0) C dX8_pass_89 RX8 RX8 TX8 4 tyX8 tyX8_ok nmX8 fw_X8 rfl (by decide) tw_644 rfl (Or.inl rfl) rfl rfl rfl SW_b (Nat.le_of_ble_eq_true rfl) ?_
    refine V_wd (w' := wset (SW i ad σ o) ([i]) (.inr (7, [.int ((cDay σ) + (nI 1)), .int (cIns σ), .ref (ad [i, 1]), .ref (ad [i, 2])]))) rfl ?_
    refine V_wd (w' := SW i ad (dayUp σ) o) SW_b' ?_
    exact V_vret C dX8_pass_92 hr hq (by omega) (by omega)
  | succ n ih =>
    intro k σ hk hσ hI0 hq
    have hσ1 := hσ.1
    refine V_iload_n C dX8_pass_10 0 rfl ?_
    refine V_iload_n C dX8_pass_11 1 rfl ?_
    refine V_icmpn_ge (tgt := 82) C dX8_pass_12 (by decide) (by omega) (by omega) (fun hb1 => by exfalso; omega) (fun hb1 => ?_)
    refine V_aload_n C dX8_pass_15 2 rfl ?_
    refine V_iload_n C dX8_pass_16 0 rfl ?_
    have hk2 : k < cN σ := by omega
    have hu := hσ.2.2.1 k hk2
    have hu3 := hu.2.2.1
    have hu4 := hu.2.2.2.1
    refine V_aaldn (v := .ref (ad [i, 3, k])) C dX8_pass_17 rfl SW_hr (by omega) (by omega) (by rw [adN_lt hk2]; rfl) ?_
    refine V_astore C [(4, .ref (ad [i, 3, k])), (3, .int (nI k)), (2, .int (nI (cN σ))), (1, .ref (ad [i, 1])), (0, .ref (ad [i]))] dX8_pass_18 (by decide) rfl ?_
    refine V_aload C dX8_pass_20 0 rfl ?_
    refine V_get (ci := 6) (k := 2) C dX8_pass_22 RX7 RX7 TX7 5 fw_X7 rfl (by decide) tw_533 rfl rfl (SW_h hk2) rfl ?_
    refine V_bipush (v := nI 100) C dX8_pass_25 (by decide) ?_
    refine V_icmpn_ge (tgt := 41) C dX8_pass_27 (by decide) (by omega) (by decide) (fun hb2 => ?_) (fun hb2 => ?_)
    · skip
      refine V_aload C dX8_pass_41 0 rfl ?_
      refine V_get (ci := 6) (k := 3) C dX8_pass_43 RX7 RX7 TX7 5 fw_X7 rfl (by decide) tw_536 rfl rfl (SW_h hk2) rfl ?_
      refine V_if_ge (tgt := 52) C dX8_pass_46 (by decide) (fun hb3 => ?_) (fun hb3 => ?_)
      · skip
        refine V_aload C dX8_pass_52 0 rfl ?_
        refine V_dup C dX8_pass_54 rfl ?_
        refine V_get (ci := 6) (k := 4) C dX8_pass_55 RX7 RX7 TX7 5 fw_X7 rfl (by decide) tw_538 rfl rfl (SW_h hk2) rfl ?_
        have hy := (hI_ge (hI0 k hk2) (Int32.not_lt.mpr hb3)).2
        refine V_iconst (v := nI 1) C dX8_pass_58 (by decide) ?_
        refine V_isubn C dX8_pass_59 (by omega) ?_
        refine V_put (ci := 6) (k := 4) C dX8_pass_60 RX7 RX7 TX7 5 tyX7 tyX7_ok nmX7 fw_X7 rfl (by decide) tw_538 rfl (Or.inl rfl) rfl rfl rfl (SW_h hk2) (Nat.le_of_ble_eq_true rfl) ?_
        refine V_wd (w' := wset (SW i ad σ o) ([i, 3, k]) (.inr (6, [.ref (ad [i, 5, k]), .int (nI (hDm (cH σ k))), .int (nI (hDu (cH σ k))), .int (hCe (cH σ k)), .int (nI ((hDy (cH σ k)) - 1))]))) rfl ?_
        refine V_aload C dX8_pass_63 0 rfl ?_
        refine V_get (ci := 6) (k := 4) C dX8_pass_65 RX7 RX7 TX7 5 fw_X7 rfl (by decide) tw_538 rfl rfl wset_s rfl ?_
        refine V_ifn_ne (tgt := 76) C dX8_pass_68 (by decide) (by omega) (fun hb4 => ?_) (fun hb4 => ?_)
        · skip
          refine V_wd (w' := SW i ad (setH σ k (oldH 1 (cH σ k))) o) ((SW_h' hk2).trans (congrArg (fun h => SW i ad (setH σ k h) o) (old_eq (h := cH σ k) (du := (hDu (cH σ k))) (ce := (hCe (cH σ k))) (dy := ((hDy (cH σ k)) - 1)) (by omega) (by rw [if_pos (by omega)]) (by omega)))) ?_
          refine V_iincn C [(3, .int (nI (k + 1))), (4, .ref (ad [i, 3, k])), (2, .int (nI (cN σ))), (1, .ref (ad [i, 1])), (0, .ref (ad [i]))] dX8_pass_76 1 rfl (by decide) rfl ?_
          refine V_goto (tgt := 10) C dX8_pass_79 (by decide) ?_
          refine V_lv [0, 2, 3, 4] rfl ?_
          exact ih (k + 1) (setH σ k (oldH 1 (cH σ k))) (by show k + 1 + n = cN σ; omega) (cOK_set hσ (oldH_ok hu)) (cI_set hI0 (hI_old (hI0 k hk2))) (by rw [passF] at hq; exact hq)
        · skip
          refine V_aload C dX8_pass_71 0 rfl ?_
          refine V_callV (r := (RX7, TX7, 5)) C [] dX8_pass_73 m_X7_strike k_X7_strike tw_617 rfl rfl rfl wset_s rfl rfl (Nat.le_of_ble_eq_true rfl) ⟨by omega, by omega, by omega, by omega⟩ (s_strikeG hl (by omega) wset_s) (kr_none ?_) kx_no
          refine V_wd (w' := wset (SW i ad σ o) ([i, 3, k]) (.inr (6, [.ref (ad [i, 5, k]), .int (nI (hDm (cH σ k))), .int (nI (hDu (cH σ k))), .int (-1), .int (nI 0)]))) wset_wset ?_
          refine V_wd (w' := SW i ad (setH σ k (oldH 1 (cH σ k))) o) ((SW_h' hk2).trans (congrArg (fun h => SW i ad (setH σ k h) o) (old_eq (h := cH σ k) (du := (hDu (cH σ k))) (ce := (-1)) (dy := 0) (by omega) (by rw [if_neg (by omega)]) (by omega)))) ?_
          refine V_iincn C [(3, .int (nI (k + 1))), (4, .ref (ad [i, 3, k])), (2, .int (nI (cN σ))), (1, .ref (ad [i, 1])), (0, .ref (ad [i]))] dX8_pass_76 1 rfl (by decide) rfl ?_
          refine V_goto (tgt := 10) C dX8_pass_79 (by decide) ?_
          refine V_lv [0, 2, 3, 4] rfl ?_
          exact ih (k + 1) (setH σ k (oldH 1 (cH σ k))) (by show k + 1 + n = cN σ; omega) (cOK_set hσ (oldH_ok hu)) (cI_set hI0 (hI_old (hI0 k hk2))) (by rw [passF] at hq; exact hq)
      · skip
        refine V_goto (tgt := 76) C dX8_pass_49 (by decide) ?_
        have hz := (hI_lt (hI0 k hk2) (Int32.not_le.mp hb3))
        refine V_wd (w' := SW i ad (setH σ k (oldH 1 (cH σ k))) o) ((congrArg (fun s => SW i ad s o) setH_self.symm).trans (congrArg (fun h => SW i ad (setH σ k h) o) (old_eq (h := cH σ k) (du := (hDu (cH σ k))) (ce := (hCe (cH σ k))) (dy := (hDy (cH σ k))) (by omega) (by rw [if_neg (by omega)]; exact hz.1) (by omega)))) ?_
        refine V_iincn C [(3, .int (nI (k + 1))), (4, .ref (ad [i, 3, k])), (2, .int (nI (cN σ))), (1, .ref (ad [i, 1])), (0, .ref (ad [i]))] dX8_pass_76 1 rfl (by decide) rfl ?_
        refine V_goto (tgt := 10) C dX8_pass_79 (by decide) ?_
        refine V_lv [0, 2, 3, 4] rfl ?_
        exact ih (k + 1) (setH σ k (oldH 1 (cH σ k))) (by show k + 1 + n = cN σ; omega) (cOK_set hσ (oldH_ok hu)) (cI_set hI0 (hI_old (hI0 k hk2))) (by rw [passF] at hq; exact hq)
    · skip
      refine V_aload C dX8_pass_30 0 rfl ?_
      refine V_dup C dX8_pass_32 rfl ?_
      refine V_get (ci := 6) (k := 2) C dX8_pass_33 RX7 RX7 TX7 5 fw_X7 rfl (by decide) tw_533 rfl rfl (SW_h hk2) rfl ?_
      refine V_iconst (v := nI 1) C dX8_pass_36 (by decide) ?_
      refine V_iaddn C dX8_pass_37 ?_
      refine V_put (ci := 6) (k := 2) C dX8_pass_38 RX7 RX7 TX7 5 tyX7 tyX7_ok nmX7 fw_X7 rfl (by decide) tw_533 rfl (Or.inl rfl) rfl rfl rfl (SW_h hk2) (Nat.le_of_ble_eq_true rfl) ?_
      refine V_wd (w' := wset (SW i ad σ o) ([i, 3, k]) (.inr (6, [.ref (ad [i, 5, k]), .int (nI (hDm (cH σ k))), .int (nI ((hDu (cH σ k)) + 1)), .int (hCe (cH σ k)), .int (nI (hDy (cH σ k)))]))) rfl ?_
      refine V_aload C dX8_pass_41 0 rfl ?_
      refine V_get (ci := 6) (k := 3) C dX8_pass_43 RX7 RX7 TX7 5 fw_X7 rfl (by decide) tw_536 rfl rfl wset_s rfl ?_
      refine V_if_ge (tgt := 52) C dX8_pass_46 (by decide) (fun hb5 => ?_) (fun hb5 => ?_)
      · skip
        refine V_aload C dX8_pass_52 0 rfl ?_
        refine V_dup C dX8_pass_54 rfl ?_
        refine V_get (ci := 6) (k := 4) C dX8_pass_55 RX7 RX7 TX7 5 fw_X7 rfl (by decide) tw_538 rfl rfl wset_s rfl ?_
        have hy := (hI_ge (hI0 k hk2) (Int32.not_lt.mpr hb5)).2
        refine V_iconst (v := nI 1) C dX8_pass_58 (by decide) ?_
        refine V_isubn C dX8_pass_59 (by omega) ?_
        refine V_put (ci := 6) (k := 4) C dX8_pass_60 RX7 RX7 TX7 5 tyX7 tyX7_ok nmX7 fw_X7 rfl (by decide) tw_538 rfl (Or.inl rfl) rfl rfl rfl wset_s (Nat.le_of_ble_eq_true rfl) ?_
        refine V_wd (w' := wset (SW i ad σ o) ([i, 3, k]) (.inr (6, [.ref (ad [i, 5, k]), .int (nI (hDm (cH σ k))), .int (nI ((hDu (cH σ k)) + 1)), .int (hCe (cH σ k)), .int (nI ((hDy (cH σ k)) - 1))]))) wset_wset ?_
        refine V_aload C dX8_pass_63 0 rfl ?_
        refine V_get (ci := 6) (k := 4) C dX8_pass_65 RX7 RX7 TX7 5 fw_X7 rfl (by decide) tw_538 rfl rfl wset_s rfl ?_
        refine V_ifn_ne (tgt := 76) C dX8_pass_68 (by decide) (by omega) (fun hb6 => ?_) (fun hb6 => ?_)
        · skip
          refine V_wd (w' := SW i ad (setH σ k (oldH 1 (cH σ k))) o) ((SW_h' hk2).trans (congrArg (fun h => SW i ad (setH σ k h) o) (old_eq (h := cH σ k) (du := ((hDu (cH σ k)) + 1)) (ce := (hCe (cH σ k))) (dy := ((hDy (cH σ k)) - 1)) (by omega) (by rw [if_pos (by omega)]) (by omega)))) ?_
          refine V_iincn C [(3, .int (nI (k + 1))), (4, .ref (ad [i, 3, k])), (2, .int (nI (cN σ))), (1, .ref (ad [i, 1])), (0, .ref (ad [i]))] dX8_pass_76 1 rfl (by decide) rfl ?_
          refine V_goto (tgt := 10) C dX8_pass_79 (by decide) ?_
          refine V_lv [0, 2, 3, 4] rfl ?_
          exact ih (k + 1) (setH σ k (oldH 1 (cH σ k))) (by show k + 1 + n = cN σ; omega) (cOK_set hσ (oldH_ok hu)) (cI_set hI0 (hI_old (hI0 k hk2))) (by rw [passF] at hq; exact hq)
        · skip
          refine V_aload C dX8_pass_71 0 rfl ?_
          refine V_callV (r := (RX7, TX7, 5)) C [] dX8_pass_73 m_X7_strike k_X7_strike tw_617 rfl rfl rfl wset_s rfl rfl (Nat.le_of_ble_eq_true rfl) ⟨by omega, by omega, by omega, by omega⟩ (s_strikeG hl (by omega) wset_s) (kr_none ?_) kx_no
          refine V_wd (w' := wset (SW i ad σ o) ([i, 3, k]) (.inr (6, [.ref (ad [i, 5, k]), .int (nI (hDm (cH σ k))), .int (nI ((hDu (cH σ k)) + 1)), .int (-1), .int (nI 0)]))) wset_wset ?_
          refine V_wd (w' := SW i ad (setH σ k (oldH 1 (cH σ k))) o) ((SW_h' hk2).trans (congrArg (fun h => SW i ad (setH σ k h) o) (old_eq (h := cH σ k) (du := ((hDu (cH σ k)) + 1)) (ce := (-1)) (dy := 0) (by omega) (by rw [if_neg (by omega)]) (by omega)))) ?_
          refine V_iincn C [(3, .int (nI (k + 1))), (4, .ref (ad [i, 3, k])), (2, .int (nI (cN σ))), (1, .ref (ad [i, 1])), (0, .ref (ad [i]))] dX8_pass_76 1 rfl (by decide) rfl ?_
          refine V_goto (tgt := 10) C dX8_pass_79 (by decide) ?_
          refine V_lv [0, 2, 3, 4] rfl ?_
          exact ih (k + 1) (setH σ k (oldH 1 (cH σ k))) (by show k + 1 + n = cN σ; omega) (cOK_set hσ (oldH_ok hu)) (cI_set hI0 (hI_old (hI0 k hk2))) (by rw [passF] at hq; exact hq)
      · skip
        refine V_goto (tgt := 76) C dX8_pass_49 (by decide) ?_
        have hz := (hI_lt (hI0 k hk2) (Int32.not_le.mp hb5))
        refine V_wd (w' := SW i ad (setH σ k (oldH 1 (cH σ k))) o) ((SW_h' hk2).trans (congrArg (fun h => SW i ad (setH σ k h) o) (old_eq (h := cH σ k) (du := ((hDu (cH σ k)) + 1)) (ce := (hCe (cH σ k))) (dy := (hDy (cH σ k))) (by omega) (by rw [if_neg (by omega)]; exact hz.1) (by omega)))) ?_
        refine V_iincn C [(3, .int (nI (k + 1))), (4, .ref (ad [i, 3, k])), (2, .int (nI (cN σ))), (1, .ref (ad [i, 1])), (0, .ref (ad [i]))] dX8_pass_76 1 rfl (by decide) rfl ?_
        refine V_goto (tgt := 10) C dX8_pass_79 (by decide) ?_
        refine V_lv [0, 2, 3, 4] rfl ?_
        exact ih (k + 1) (setH σ k (oldH 1 (cH σ k))) (by show k + 1 + n = cN σ; omega) (cOK_set hσ (oldH_ok hu)) (cI_set hI0 (hI_old (hI0 k hk2))) (by rw [passF] at hq; exact hq)
set_option maxHeartbeats 4000000 in
theorem s_pass {l : Launch} {D : va_G} {ba d : Nat} {ad : Adr} (hl : l.stackTraces = false) (hd : 2 ≤ d) {i : Nat} {σ : CS} {o : Wd} (hσ : cOK σ) (hI0 : cI σ)  : CT l yX8_pass (wsO yX8_pass cX8_pass 5 none) d 0 0 D ba [.ref (ad [i])] ad (SW i ad σ o) (isR none ad (SW i ad (dayUp (cN σ, cK σ, cDay σ, cIns σ, olderH 1 (cH σ) (cN σ), cS σ)) o)) noX := by
  refine CT_of RX8 rfl (by decide +kernel) hl (Nat.le_of_ble_eq_true rfl) ?_
  intro p e s m args below meth c C hr hnm
  refine V_lvE (lv' := [(0, .ref (ad [i]))]) rfl ?_
  have hσ1 := hσ.1
  refine V_aload_n C dX8_pass_0 0 rfl ?_
  refine V_get (ci := 7) (k := 2) C dX8_pass_1 RX8 RX8 TX8 4 fw_X8 rfl (by decide) tw_647 rfl rfl SW_b rfl ?_
  refine V_astore_n C [(1, .ref (ad [i, 1])), (0, .ref (ad [i]))] dX8_pass_4 (by decide) rfl ?_
  refine V_aload_n C dX8_pass_5 0 rfl ?_
  refine V_alen (v := nI (cN σ)) C dX8_pass_6 rfl SW_hr rfl ?_
  refine V_istore_n C [(2, .int (nI (cN σ))), (1, .ref (ad [i, 1])), (0, .ref (ad [i]))] dX8_pass_7 (by decide) rfl ?_
  refine V_iconst (v := nI 0) C dX8_pass_8 (by decide) ?_
  refine V_istore_n C [(3, .int (nI 0)), (2, .int (nI (cN σ))), (1, .ref (ad [i, 1])), (0, .ref (ad [i]))] dX8_pass_9 (by decide) rfl ?_
  refine V_lv [0, 1, 2, 3] rfl ?_
  exact lp_passS C hl hr (by omega) (cN σ) 0 σ (by omega) hσ hI0 ⟨rfl, rfl, by rw [passF_all]⟩
set_option maxHeartbeats 4000000 in
theorem s_hInit {l : Launch} {D : va_G} {ba d : Nat} {ad : Adr} {w : Wd} (hl : l.stackTraces = false) (hd : 1 ≤ d) {LH LS : Lab} (hH : w LH = some (.inr (6, [.null, .int 0, .int 0, .int 0, .int 0]))) (hS : w LS = none) (hHS : LH ≠ LS) : CT l yX7_init (wsO yX7_init cX7_init 1 none) d 1 0 D ba [.ref (ad LH)] ad w (fun v ad' w' => v = none ∧ ∃ q, ad' = aset ad LS q ∧ w' = wset (wset w LS (eA 0 (fun _ => none))) LH (eLH q 0 0 (-1) 0)) noX := by
  refine CT_of RX7 rfl (by decide +kernel) hl (Nat.le_of_ble_eq_true rfl) ?_
  intro p e s m args below meth c C hr hnm
  refine V_lvE (lv' := [(0, .ref (ad LH))]) rfl ?_
  refine V_aload_n C dX7_init_0 0 rfl ?_
  refine V_obj C dX7_init_1 tw_525 tw_23 tw_24 (by omega) (by simp [Value.category]; try omega) ?_
  refine V_aload_n C dX7_init_4 0 rfl ?_
  refine V_iconst (v := nI 0) C dX7_init_5 (by decide) ?_
  refine V_newA (N := 0) C LS dX7_init_6 tw_526 (by decide) hS (by omega) (by omega) (fun q => ?_)
  refine V_put (ci := 6) (k := 0) C dX7_init_9 RX7 RX7 TX7 5 tyX7 tyX7_ok nmX7 fw_X7 rfl (by decide) tw_528 rfl (Or.inl rfl) rfl rfl (aset_n hHS).symm ((wset_n hHS).trans hH) (Nat.le_of_ble_eq_true rfl) ?_
  refine V_wd (w' := wset (wset w LS (eA 0 (fun _ => none))) LH (.inr (6, [.ref q, .int 0, .int 0, .int 0, .int 0]))) rfl ?_
  refine V_aload_n C dX7_init_12 0 rfl ?_
  refine V_iconst (v := -1) C dX7_init_13 (by decide) ?_
  refine V_put (ci := 6) (k := 3) C dX7_init_14 RX7 RX7 TX7 5 tyX7 tyX7_ok nmX7 fw_X7 rfl (by decide) tw_535 rfl (Or.inl rfl) rfl rfl (aset_n hHS).symm wset_s (Nat.le_of_ble_eq_true rfl) ?_
  refine V_wd (w' := wset (wset w LS (eA 0 (fun _ => none))) LH (.inr (6, [.ref q, .int 0, .int 0, .int (-1), .int 0]))) wset_wset ?_
  exact V_vret C dX7_init_17 hr ⟨rfl, q, rfl, rfl⟩ (by omega) (by omega)
