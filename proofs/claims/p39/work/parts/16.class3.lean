
theorem fup_fup {α : Type} {f : Nat → α} {j : Nat} {x y : α} : fup (fup f j x) j y = fup f j y := by
  funext k
  by_cases h : k = j <;> simp [fup, h]
section PWM
variable {i : Nat} {ad : Adr} {σ : CS} {tl : Int32} {t : TT} {lo : Nat → Int32} {o : Wd}
theorem PW_move {j k hb ds dm du dy : Nat} {ce : Int32} (hj : j < cN σ) (hk : k < hSc (cH σ j)) : wset (wset (PW i ad σ tl t lo o) [i, 8, j, k] (eSurf hb ds)) [i, 6, j] (eHall (ad [i, 7, j]) (hSc (cH σ j)) dm du ce dy) = PW i ad (setH σ j (hSc (cH σ j), dm, du, ce, dy, fup (hSu (cH σ j)) k (hb, ds))) tl t lo o := by
  rw [PW_u' hj hk]
  have h := PW_h' (i := i) (ad := ad) (tl := tl) (t := t) (lo := lo) (o := o) (σ := setH σ j (hSc (cH σ j), hDm (cH σ j), hDu (cH σ j), hCe (cH σ j), hDy (cH σ j), fup (hSu (cH σ j)) k (hb, ds))) (j := j) (dm := dm) (du := du) (dy := dy) (ce := ce) hj
  simp only [setH, cN, cK, cDay, cIns, cH, cS, hSc, hDm, hDu, hCe, hDy, hSu, fup_s, fup_fup] at h ⊢
  exact h
end PWM
abbrev oldH (v : Nat) (h : HallS) : HallS := (hSc h, hDm h, min 100 (hDu h + v), (if v < hDy h then hCe h else -1), hDy h - v, hSu h)
def olderH (v : Nat) (H : Nat → HallS) (m : Nat) : Nat → HallS := fun j => if j < m then oldH v (H j) else H j
theorem olderH_0 {v : Nat} {H : Nat → HallS} : olderH v H 0 = H := by funext j; simp [olderH]
theorem olderH_s {v k : Nat} {H : Nat → HallS} : fup (olderH v H k) k (oldH v (olderH v H k k)) = olderH v H (k + 1) := by
  funext j
  by_cases h : j = k
  · subst h; rw [fup_s]; simp [olderH]
  · rw [fup_n h]
    simp only [olderH]
    by_cases h2 : j < k
    · rw [if_pos h2, if_pos (by omega)]
    · rw [if_neg h2, if_neg (by omega)]
theorem olderH_k {v k : Nat} {H : Nat → HallS} : olderH v H k k = H k := by simp [olderH]
theorem oldH_ok {v : Nat} {h : HallS} (hh : hOK h) : hOK (oldH v h) := by
  obtain ⟨h1, h2, h3, h4, h5⟩ := hh
  refine ⟨h1, h2, Nat.min_le_left _ _, ?_, h5⟩
  show hDy h - v ≤ 100
  omega
theorem olderH_ok {v m : Nat} {σ : CS} (hσ : cOK σ) : cOK (cN σ, cK σ, cDay σ, cIns σ, olderH v (cH σ) m, cS σ) := by
  refine ⟨hσ.1, hσ.2.1, fun j hj => ?_, hσ.2.2.2⟩
  show hOK (olderH v (cH σ) m j)
  unfold olderH
  split
  · exact oldH_ok (hσ.2.2.1 j hj)
  · exact hσ.2.2.1 j hj
set_option maxHeartbeats 4000000 in
theorem p_move {l : Launch} {D : va_G} {ba d : Nat} {ad : Adr} (hl : l.stackTraces = false) (hd : 9 ≤ d) {i : Nat} {σ : CS} {tl : Int32} {t : TT} {lo : Nat → Int32} {o : Wd} (hσ : cOK σ) {j : Nat} (hj : j < cN σ) {k : Nat} (hk : k < hSc (cH σ j)) {v : Nat} (hv : v ≤ 60) (hin : ¬ inR (nI v) (nI 1) (nI 60) = 0)  : CT l yX6_moveSurface (wsO yX6_moveSurface cX6_moveSurface 7 (some .int)) d 8 64 D ba [.ref (ad [i]), .int (nI j), .int (nI k), .int (nI v)] ad (PW i ad σ tl t lo o) (RP i ad (setH σ j (hSc (cH σ j), hDm (cH σ j), hDu (cH σ j), -1, 0, fup (hSu (cH σ j)) k ((hSu (cH σ j) k).1, v))) o (some (.int (nI ((hSu (cH σ j) k).2))))) noX := by
  refine CT_of RX6 rfl (by decide +kernel) hl (Nat.le_of_ble_eq_true rfl) ?_
  intro p e s m args below meth c C hr hnm
  refine V_lvE (lv' := [(0, .ref (ad [i])), (1, .int (nI j)), (2, .int (nI k)), (3, .int (nI v))]) rfl ?_
  have hσ1 := hσ.1
  have hσ2 := hσ.2.1
  have hu := hσ.2.2.1 j hj
  have hu1 := hu.1
  have hu2 := hu.2.1
  have hu3 := hu.2.2.1
  have hu4 := hu.2.2.2.1
  refine V_aload_n C dX6_moveSurface_0 0 rfl ?_
  refine V_iload_n C dX6_moveSurface_1 1 rfl ?_
  refine V_callV (r := (RX6, TX6, 8)) C [.int (nI j)] dX6_moveSurface_2 m_X6_findHall k_X6_findHall tw_225 rfl rfl rfl PW_b rfl rfl (Nat.le_of_ble_eq_true rfl) ⟨by omega, by omega, by omega, by omega⟩ (c_findHall hl (by omega) hσ hj) (kr_some (x := .ref (ad [i, 6, j])) ?_) kx_no
  refine V_astore C [(4, .ref (ad [i, 6, j])), (0, .ref (ad [i])), (1, .int (nI j)), (2, .int (nI k)), (3, .int (nI v))] dX6_moveSurface_5 (by decide) rfl ?_
  refine V_aload C dX6_moveSurface_7 0 rfl ?_
  refine V_iload_n C dX6_moveSurface_9 3 rfl ?_
  refine V_callS C [.ref (ad [i, 6, j]), .int (nI k)] dX6_moveSurface_10 m_X6_findSurface k_X6_findSurface tw_286 rfl rfl (Nat.le_of_ble_eq_true rfl) ⟨by omega, by omega, by omega, by omega⟩ (c_findSurf hl (by omega) hσ hj hk) (kr_some (x := .ref (ad [i, 8, j, k])) ?_) kx_no
  refine V_astore C [(5, .ref (ad [i, 8, j, k])), (4, .ref (ad [i, 6, j])), (0, .ref (ad [i])), (1, .int (nI j)), (2, .int (nI k)), (3, .int (nI v))] dX6_moveSurface_13 (by decide) rfl ?_
  refine V_iload_n C dX6_moveSurface_15 5 rfl ?_
  refine V_callS C [.int (nI v)] dX6_moveSurface_16 m_X6_checkDistance k_X6_checkDistance tw_246 rfl rfl (Nat.le_of_ble_eq_true rfl) ⟨by omega, by omega, by omega, by omega⟩ (c_ckDist_ok hl (by omega) _ hin) (kr_none ?_) kx_no
  refine V_aload C dX6_moveSurface_19 0 rfl ?_
  refine V_getN (ci := 3) (k := 1) C dX6_moveSurface_21 RX4 RX4 RX6 TX4 2 fw_X4 rfl (by decide) tw_268 rfl rfl (PW_u hj hk) rfl ?_
  refine V_istore C [(6, .int (nI ((hSu (cH σ j) k).2))), (5, .ref (ad [i, 8, j, k])), (4, .ref (ad [i, 6, j])), (0, .ref (ad [i])), (1, .int (nI j)), (2, .int (nI k)), (3, .int (nI v))] dX6_moveSurface_24 (by decide) rfl ?_
  refine V_aload C dX6_moveSurface_26 1 rfl ?_
  refine V_iload_n C dX6_moveSurface_28 6 rfl ?_
  refine V_putN (ci := 3) (k := 1) C dX6_moveSurface_29 RX4 RX4 RX6 TX4 2 tyX4 tyX4_ok nmX4 fw_X4 rfl (by decide) tw_268 rfl rfl rfl rfl rfl (PW_u hj hk) (Nat.le_of_ble_eq_true rfl) ?_
  refine V_wd (w' := wset (PW i ad σ tl t lo o) ([i, 8, j, k]) (.inr (3, [.int (nI ((hSu (cH σ j) k).1)), .int (nI v)]))) rfl ?_
  refine V_aload C dX6_moveSurface_32 2 rfl ?_
  refine V_callVN (r := (RX0, TX0, 6)) C RX6 [] dX6_moveSurface_34 m_X0_loseCertificate k_X0_loseCertificate tw_256 rfl rfl rfl ((wset_n (by simp)).trans (PW_h hj)) rfl rfl (Nat.le_of_ble_eq_true rfl) ⟨by omega, by omega, by omega, by omega⟩ (c_loseCert hl (by omega) ((wset_n (by simp)).trans (PW_h hj))) (kr_none ?_) kx_no
  refine V_wd (w' := wset (wset (PW i ad σ tl t lo o) ([i, 8, j, k]) (.inr (3, [.int (nI ((hSu (cH σ j) k).1)), .int (nI v)]))) ([i, 6, j]) (.inr (0, [.ref (ad [i, 7, j]), .int (nI (hSc (cH σ j))), .int (nI (hDm (cH σ j))), .int (nI (hDu (cH σ j))), .int (-1), .int (nI 0)]))) rfl ?_
  refine V_iload C dX6_moveSurface_37 0 rfl ?_
  exact V_iret C .int dX6_moveSurface_39 hr rfl ⟨rfl, rfl, _, _, _, PW_move hj hk⟩ (by omega) (by omega)
set_option maxHeartbeats 4000000 in
theorem p_inspect_met {l : Launch} {D : va_G} {ba d : Nat} {ad : Adr} (hl : l.stackTraces = false) (hd : 9 ≤ d) {i : Nat} {σ : CS} {tl : Int32} {t : TT} {lo : Nat → Int32} {o : Wd} (hσ : cOK σ) {j : Nat} (hj : j < cN σ) {q : Nat} (hq : q < cK σ) (hm : metW (cH σ j) (cS σ q) (hDm (cH σ j)) (hDu (cH σ j)) = 1)  : CT l yX6_inspect (wsO yX6_inspect cX6_inspect 6 (some .boolean)) d 8 64 D ba [.ref (ad [i]), .int (nI j), .int (nI q)] ad (PW i ad σ tl t lo o) (RP i ad (setH (cN σ, cK σ, cDay σ, cIns σ + nI 1, cH σ, cS σ) j (hSc (cH σ j), hDm (cH σ j), hDu (cH σ j), nI q, (cS σ q).2.2.2.2, hSu (cH σ j))) o (some (.int (nI (metW (cH σ j) (cS σ q) (hDm (cH σ j)) (hDu (cH σ j))))))) noX := by
  refine CT_of RX6 rfl (by decide +kernel) hl (Nat.le_of_ble_eq_true rfl) ?_
  intro p e s m args below meth c C hr hnm
  refine V_lvE (lv' := [(0, .ref (ad [i])), (1, .int (nI j)), (2, .int (nI q))]) rfl ?_
  have hσ1 := hσ.1
  have hσ2 := hσ.2.1
  have hu := hσ.2.2.1 j hj
  have hu1 := hu.1
  have hu2 := hu.2.1
  have hu3 := hu.2.2.1
  have hu4 := hu.2.2.2.1
  refine V_aload_n C dX6_inspect_0 0 rfl ?_
  refine V_iload_n C dX6_inspect_1 1 rfl ?_
  refine V_callV (r := (RX6, TX6, 8)) C [.int (nI j)] dX6_inspect_2 m_X6_findHall k_X6_findHall tw_225 rfl rfl rfl PW_b rfl rfl (Nat.le_of_ble_eq_true rfl) ⟨by omega, by omega, by omega, by omega⟩ (c_findHall hl (by omega) hσ hj) (kr_some (x := .ref (ad [i, 6, j])) ?_) kx_no
  refine V_astore_n C [(3, .ref (ad [i, 6, j])), (0, .ref (ad [i])), (1, .int (nI j)), (2, .int (nI q))] dX6_inspect_5 (by decide) rfl ?_
  refine V_aload_n C dX6_inspect_6 1 rfl ?_
  refine V_iload_n C dX6_inspect_7 3 rfl ?_
  refine V_callV (r := (RX6, TX6, 8)) C [.int (nI q)] dX6_inspect_8 m_X6_findStandard k_X6_findStandard tw_391 rfl rfl rfl PW_b rfl rfl (Nat.le_of_ble_eq_true rfl) ⟨by omega, by omega, by omega, by omega⟩ (c_findStd hl (by omega) hσ hq) (kr_some (x := .ref (ad [i, 9, q])) ?_) kx_no
  refine V_astore C [(4, .ref (ad [i, 9, q])), (3, .ref (ad [i, 6, j])), (0, .ref (ad [i])), (1, .int (nI j)), (2, .int (nI q))] dX6_inspect_11 (by decide) rfl ?_
  refine V_aload_n C dX6_inspect_13 2 rfl ?_
  refine V_dup C dX6_inspect_14 rfl ?_
  refine V_get (ci := 5) (k := 5) C dX6_inspect_15 RX6 RX6 TX6 8 fw_X6 rfl (by decide) tw_75 rfl rfl PW_b rfl ?_
  refine V_iconst (v := nI 1) C dX6_inspect_18 (by decide) ?_
  refine V_iadd C dX6_inspect_19 ?_
  refine V_put (ci := 5) (k := 5) C dX6_inspect_20 RX6 RX6 TX6 8 tyX6 tyX6_ok nmX6 fw_X6 rfl (by decide) tw_75 rfl (Or.inl rfl) rfl rfl rfl PW_b (Nat.le_of_ble_eq_true rfl) ?_
  refine V_wd (w' := wset (PW i ad σ tl t lo o) ([i]) (.inr (5, [.ref (ad [i, 1]), .ref (ad [i, 2]), .int (nI (cN σ)), .int (nI (cK σ)), .int (cDay σ), .int ((cIns σ) + (nI 1)), .ref (ad [i, 3]), .ref (ad [i, 4])]))) rfl ?_
  refine V_wd (w' := PW i ad (cN σ, cK σ, cDay σ, cIns σ + nI 1, cH σ, cS σ) tl t lo o) PW_b' ?_
  refine V_aload_n C dX6_inspect_23 2 rfl ?_
  refine V_aload_n C dX6_inspect_24 1 rfl ?_
  refine V_aload C dX6_inspect_25 0 rfl ?_
  refine V_callV (r := (RX6, TX6, 8)) C [.ref (ad [i, 6, j]), .ref (ad [i, 9, q])] dX6_inspect_27 m_X6_meetsNow k_X6_meetsNow tw_397 rfl rfl rfl (PW_b (σ := (cN σ, cK σ, cDay σ, cIns σ + nI 1, cH σ, cS σ))) rfl rfl (Nat.le_of_ble_eq_true rfl) ⟨by omega, by omega, by omega, by omega⟩ (c_meetsNow (σ := (cN σ, cK σ, cDay σ, cIns σ + nI 1, cH σ, cS σ)) hl (by omega) hσ hj hq) (kr_some (x := .int (nI (metW (cH σ j) (cS σ q) (hDm (cH σ j)) (hDu (cH σ j))))) ?_) kx_no
  refine V_istore C [(5, .int (nI (metW (cH σ j) (cS σ q) (hDm (cH σ j)) (hDu (cH σ j))))), (4, .ref (ad [i, 9, q])), (3, .ref (ad [i, 6, j])), (0, .ref (ad [i])), (1, .int (nI j)), (2, .int (nI q))] dX6_inspect_30 (by decide) rfl ?_
  refine V_iload C dX6_inspect_32 0 rfl ?_
  refine V_ifn_eq (tgt := 50) C dX6_inspect_34 (by decide) (by omega) (fun hb1 => by exfalso; omega) (fun hb1 => ?_)
  refine V_aload_n C dX6_inspect_37 2 rfl ?_
  refine V_iload_n C dX6_inspect_38 5 rfl ?_
  refine V_aload C dX6_inspect_39 1 rfl ?_
  refine V_getN (ci := 2) (k := 4) C dX6_inspect_41 RX3 RX3 RX6 TX3 5 fw_X3 rfl (by decide) tw_588 rfl rfl (PW_d (σ := (cN σ, cK σ, cDay σ, cIns σ + nI 1, cH σ, cS σ)) hq) rfl ?_
  refine V_callVN (r := (RX0, TX0, 6)) C RX6 [.int (nI q), .int (nI ((cS (cN σ, cK σ, cDay σ, cIns σ + nI 1, cH σ, cS σ) q).2.2.2.2))] dX6_inspect_44 m_X0_takeCertificate k_X0_takeCertificate tw_605 rfl rfl rfl (PW_h (σ := (cN σ, cK σ, cDay σ, cIns σ + nI 1, cH σ, cS σ)) hj) rfl rfl (Nat.le_of_ble_eq_true rfl) ⟨by omega, by omega, by omega, by omega⟩ (c_takeCert hl (by omega) (PW_h (σ := (cN σ, cK σ, cDay σ, cIns σ + nI 1, cH σ, cS σ)) hj) (nI q) ((cS (cN σ, cK σ, cDay σ, cIns σ + nI 1, cH σ, cS σ) q).2.2.2.2)) (kr_none ?_) kx_no
  refine V_wd (w' := wset (PW i ad (cN σ, cK σ, cDay σ, cIns σ + nI 1, cH σ, cS σ) (nI (cS σ q).2.1) (tlyW (cH σ j) (cS σ q) (hDm (cH σ j)) (hDu (cH σ j))) lo o) ([i, 6, j]) (.inr (0, [.ref (ad [i, 7, j]), .int (nI (hSc (cH (cN σ, cK σ, cDay σ, cIns σ + nI 1, cH σ, cS σ) j))), .int (nI (hDm (cH (cN σ, cK σ, cDay σ, cIns σ + nI 1, cH σ, cS σ) j))), .int (nI (hDu (cH (cN σ, cK σ, cDay σ, cIns σ + nI 1, cH σ, cS σ) j))), .int (nI q), .int (nI ((cS (cN σ, cK σ, cDay σ, cIns σ + nI 1, cH σ, cS σ) q).2.2.2.2))]))) rfl ?_
  refine V_goto (tgt := 62) C dX6_inspect_47 (by decide) ?_
  refine V_iload C dX6_inspect_62 0 rfl ?_
  exact V_iret C .boolean dX6_inspect_64 hr (by rcases (show metW (cH σ j) (cS σ q) (hDm (cH σ j)) (hDu (cH σ j)) = 0 ∨ metW (cH σ j) (cS σ q) (hDm (cH σ j)) (hDu (cH σ j)) = 1 by have := metW_le (cH σ j) (cS σ q) (hDm (cH σ j)) (hDu (cH σ j)); omega) with z | z <;> rw [z] <;> rfl) ⟨rfl, rfl, _, _, _, (PW_h' (σ := (cN σ, cK σ, cDay σ, cIns σ + nI 1, cH σ, cS σ)) hj)⟩ (by omega) (by omega)
set_option maxHeartbeats 4000000 in
theorem p_inspect_same {l : Launch} {D : va_G} {ba d : Nat} {ad : Adr} (hl : l.stackTraces = false) (hd : 9 ≤ d) {i : Nat} {σ : CS} {tl : Int32} {t : TT} {lo : Nat → Int32} {o : Wd} (hσ : cOK σ) {j : Nat} (hj : j < cN σ) {q : Nat} (hq : q < cK σ) (hm : metW (cH σ j) (cS σ q) (hDm (cH σ j)) (hDu (cH σ j)) = 0) (hc : hCe (cH σ j) = nI q)  : CT l yX6_inspect (wsO yX6_inspect cX6_inspect 6 (some .boolean)) d 8 64 D ba [.ref (ad [i]), .int (nI j), .int (nI q)] ad (PW i ad σ tl t lo o) (RP i ad (setH (cN σ, cK σ, cDay σ, cIns σ + nI 1, cH σ, cS σ) j (hSc (cH σ j), hDm (cH σ j), hDu (cH σ j), -1, 0, hSu (cH σ j))) o (some (.int (nI (metW (cH σ j) (cS σ q) (hDm (cH σ j)) (hDu (cH σ j))))))) noX := by
  refine CT_of RX6 rfl (by decide +kernel) hl (Nat.le_of_ble_eq_true rfl) ?_
  intro p e s m args below meth c C hr hnm
  refine V_lvE (lv' := [(0, .ref (ad [i])), (1, .int (nI j)), (2, .int (nI q))]) rfl ?_
  have hσ1 := hσ.1
  have hσ2 := hσ.2.1
  have hu := hσ.2.2.1 j hj
  have hu1 := hu.1
  have hu2 := hu.2.1
  have hu3 := hu.2.2.1
  have hu4 := hu.2.2.2.1
  refine V_aload_n C dX6_inspect_0 0 rfl ?_
  refine V_iload_n C dX6_inspect_1 1 rfl ?_
  refine V_callV (r := (RX6, TX6, 8)) C [.int (nI j)] dX6_inspect_2 m_X6_findHall k_X6_findHall tw_225 rfl rfl rfl PW_b rfl rfl (Nat.le_of_ble_eq_true rfl) ⟨by omega, by omega, by omega, by omega⟩ (c_findHall hl (by omega) hσ hj) (kr_some (x := .ref (ad [i, 6, j])) ?_) kx_no
  refine V_astore_n C [(3, .ref (ad [i, 6, j])), (0, .ref (ad [i])), (1, .int (nI j)), (2, .int (nI q))] dX6_inspect_5 (by decide) rfl ?_
  refine V_aload_n C dX6_inspect_6 1 rfl ?_
  refine V_iload_n C dX6_inspect_7 3 rfl ?_
  refine V_callV (r := (RX6, TX6, 8)) C [.int (nI q)] dX6_inspect_8 m_X6_findStandard k_X6_findStandard tw_391 rfl rfl rfl PW_b rfl rfl (Nat.le_of_ble_eq_true rfl) ⟨by omega, by omega, by omega, by omega⟩ (c_findStd hl (by omega) hσ hq) (kr_some (x := .ref (ad [i, 9, q])) ?_) kx_no
  refine V_astore C [(4, .ref (ad [i, 9, q])), (3, .ref (ad [i, 6, j])), (0, .ref (ad [i])), (1, .int (nI j)), (2, .int (nI q))] dX6_inspect_11 (by decide) rfl ?_
  refine V_aload_n C dX6_inspect_13 2 rfl ?_
  refine V_dup C dX6_inspect_14 rfl ?_
  refine V_get (ci := 5) (k := 5) C dX6_inspect_15 RX6 RX6 TX6 8 fw_X6 rfl (by decide) tw_75 rfl rfl PW_b rfl ?_
  refine V_iconst (v := nI 1) C dX6_inspect_18 (by decide) ?_
  refine V_iadd C dX6_inspect_19 ?_
  refine V_put (ci := 5) (k := 5) C dX6_inspect_20 RX6 RX6 TX6 8 tyX6 tyX6_ok nmX6 fw_X6 rfl (by decide) tw_75 rfl (Or.inl rfl) rfl rfl rfl PW_b (Nat.le_of_ble_eq_true rfl) ?_
  refine V_wd (w' := wset (PW i ad σ tl t lo o) ([i]) (.inr (5, [.ref (ad [i, 1]), .ref (ad [i, 2]), .int (nI (cN σ)), .int (nI (cK σ)), .int (cDay σ), .int ((cIns σ) + (nI 1)), .ref (ad [i, 3]), .ref (ad [i, 4])]))) rfl ?_
  refine V_wd (w' := PW i ad (cN σ, cK σ, cDay σ, cIns σ + nI 1, cH σ, cS σ) tl t lo o) PW_b' ?_
  refine V_aload_n C dX6_inspect_23 2 rfl ?_
  refine V_aload_n C dX6_inspect_24 1 rfl ?_
  refine V_aload C dX6_inspect_25 0 rfl ?_
  refine V_callV (r := (RX6, TX6, 8)) C [.ref (ad [i, 6, j]), .ref (ad [i, 9, q])] dX6_inspect_27 m_X6_meetsNow k_X6_meetsNow tw_397 rfl rfl rfl (PW_b (σ := (cN σ, cK σ, cDay σ, cIns σ + nI 1, cH σ, cS σ))) rfl rfl (Nat.le_of_ble_eq_true rfl) ⟨by omega, by omega, by omega, by omega⟩ (c_meetsNow (σ := (cN σ, cK σ, cDay σ, cIns σ + nI 1, cH σ, cS σ)) hl (by omega) hσ hj hq) (kr_some (x := .int (nI (metW (cH σ j) (cS σ q) (hDm (cH σ j)) (hDu (cH σ j))))) ?_) kx_no
  refine V_istore C [(5, .int (nI (metW (cH σ j) (cS σ q) (hDm (cH σ j)) (hDu (cH σ j))))), (4, .ref (ad [i, 9, q])), (3, .ref (ad [i, 6, j])), (0, .ref (ad [i])), (1, .int (nI j)), (2, .int (nI q))] dX6_inspect_30 (by decide) rfl ?_
  refine V_iload C dX6_inspect_32 0 rfl ?_
  refine V_ifn_eq (tgt := 50) C dX6_inspect_34 (by decide) (by omega) (fun hb1 => ?_) (fun hb1 => by exfalso; omega)
  refine V_aload_n C dX6_inspect_50 2 rfl ?_
  refine V_getN (ci := 0) (k := 4) C dX6_inspect_51 RX0 RX0 RX6 TX0 6 fw_X0 rfl (by decide) tw_205 rfl rfl (PW_h (σ := (cN σ, cK σ, cDay σ, cIns σ + nI 1, cH σ, cS σ)) hj) rfl ?_
  refine V_iload_n C dX6_inspect_54 5 rfl ?_
  refine V_icmp_ne (tgt := 62) C dX6_inspect_55 (by decide) (fun hb2 => by exfalso; exact hb2 hc) (fun hb2 => ?_)
  refine V_aload_n C dX6_inspect_58 2 rfl ?_
  refine V_callVN (r := (RX0, TX0, 6)) C RX6 [] dX6_inspect_59 m_X0_loseCertificate k_X0_loseCertificate tw_256 rfl rfl rfl (PW_h (σ := (cN σ, cK σ, cDay σ, cIns σ + nI 1, cH σ, cS σ)) hj) rfl rfl (Nat.le_of_ble_eq_true rfl) ⟨by omega, by omega, by omega, by omega⟩ (c_loseCert hl (by omega) (PW_h (σ := (cN σ, cK σ, cDay σ, cIns σ + nI 1, cH σ, cS σ)) hj)) (kr_none ?_) kx_no
  refine V_wd (w' := wset (PW i ad (cN σ, cK σ, cDay σ, cIns σ + nI 1, cH σ, cS σ) (nI (cS σ q).2.1) (tlyW (cH σ j) (cS σ q) (hDm (cH σ j)) (hDu (cH σ j))) lo o) ([i, 6, j]) (.inr (0, [.ref (ad [i, 7, j]), .int (nI (hSc (cH (cN σ, cK σ, cDay σ, cIns σ + nI 1, cH σ, cS σ) j))), .int (nI (hDm (cH (cN σ, cK σ, cDay σ, cIns σ + nI 1, cH σ, cS σ) j))), .int (nI (hDu (cH (cN σ, cK σ, cDay σ, cIns σ + nI 1, cH σ, cS σ) j))), .int (-1), .int (nI 0)]))) rfl ?_
  refine V_iload C dX6_inspect_62 0 rfl ?_
  exact V_iret C .boolean dX6_inspect_64 hr (by rcases (show metW (cH σ j) (cS σ q) (hDm (cH σ j)) (hDu (cH σ j)) = 0 ∨ metW (cH σ j) (cS σ q) (hDm (cH σ j)) (hDu (cH σ j)) = 1 by have := metW_le (cH σ j) (cS σ q) (hDm (cH σ j)) (hDu (cH σ j)); omega) with z | z <;> rw [z] <;> rfl) ⟨rfl, rfl, _, _, _, (PW_h' (σ := (cN σ, cK σ, cDay σ, cIns σ + nI 1, cH σ, cS σ)) hj)⟩ (by omega) (by omega)
set_option maxHeartbeats 4000000 in
theorem p_inspect_other {l : Launch} {D : va_G} {ba d : Nat} {ad : Adr} (hl : l.stackTraces = false) (hd : 9 ≤ d) {i : Nat} {σ : CS} {tl : Int32} {t : TT} {lo : Nat → Int32} {o : Wd} (hσ : cOK σ) {j : Nat} (hj : j < cN σ) {q : Nat} (hq : q < cK σ) (hm : metW (cH σ j) (cS σ q) (hDm (cH σ j)) (hDu (cH σ j)) = 0) (hc : ¬ hCe (cH σ j) = nI q)  : CT l yX6_inspect (wsO yX6_inspect cX6_inspect 6 (some .boolean)) d 8 64 D ba [.ref (ad [i]), .int (nI j), .int (nI q)] ad (PW i ad σ tl t lo o) (RP i ad (cN σ, cK σ, cDay σ, cIns σ + nI 1, cH σ, cS σ) o (some (.int (nI (metW (cH σ j) (cS σ q) (hDm (cH σ j)) (hDu (cH σ j))))))) noX := by
  refine CT_of RX6 rfl (by decide +kernel) hl (Nat.le_of_ble_eq_true rfl) ?_
  intro p e s m args below meth c C hr hnm
  refine V_lvE (lv' := [(0, .ref (ad [i])), (1, .int (nI j)), (2, .int (nI q))]) rfl ?_
  have hσ1 := hσ.1
  have hσ2 := hσ.2.1
  have hu := hσ.2.2.1 j hj
  have hu1 := hu.1
  have hu2 := hu.2.1
  have hu3 := hu.2.2.1
  have hu4 := hu.2.2.2.1
  refine V_aload_n C dX6_inspect_0 0 rfl ?_
  refine V_iload_n C dX6_inspect_1 1 rfl ?_
  refine V_callV (r := (RX6, TX6, 8)) C [.int (nI j)] dX6_inspect_2 m_X6_findHall k_X6_findHall tw_225 rfl rfl rfl PW_b rfl rfl (Nat.le_of_ble_eq_true rfl) ⟨by omega, by omega, by omega, by omega⟩ (c_findHall hl (by omega) hσ hj) (kr_some (x := .ref (ad [i, 6, j])) ?_) kx_no
  refine V_astore_n C [(3, .ref (ad [i, 6, j])), (0, .ref (ad [i])), (1, .int (nI j)), (2, .int (nI q))] dX6_inspect_5 (by decide) rfl ?_
  refine V_aload_n C dX6_inspect_6 1 rfl ?_
  refine V_iload_n C dX6_inspect_7 3 rfl ?_
  refine V_callV (r := (RX6, TX6, 8)) C [.int (nI q)] dX6_inspect_8 m_X6_findStandard k_X6_findStandard tw_391 rfl rfl rfl PW_b rfl rfl (Nat.le_of_ble_eq_true rfl) ⟨by omega, by omega, by omega, by omega⟩ (c_findStd hl (by omega) hσ hq) (kr_some (x := .ref (ad [i, 9, q])) ?_) kx_no
  refine V_astore C [(4, .ref (ad [i, 9, q])), (3, .ref (ad [i, 6, j])), (0, .ref (ad [i])), (1, .int (nI j)), (2, .int (nI q))] dX6_inspect_11 (by decide) rfl ?_
  refine V_aload_n C dX6_inspect_13 2 rfl ?_
  refine V_dup C dX6_inspect_14 rfl ?_
  refine V_get (ci := 5) (k := 5) C dX6_inspect_15 RX6 RX6 TX6 8 fw_X6 rfl (by decide) tw_75 rfl rfl PW_b rfl ?_
  refine V_iconst (v := nI 1) C dX6_inspect_18 (by decide) ?_
  refine V_iadd C dX6_inspect_19 ?_
  refine V_put (ci := 5) (k := 5) C dX6_inspect_20 RX6 RX6 TX6 8 tyX6 tyX6_ok nmX6 fw_X6 rfl (by decide) tw_75 rfl (Or.inl rfl) rfl rfl rfl PW_b (Nat.le_of_ble_eq_true rfl) ?_
  refine V_wd (w' := wset (PW i ad σ tl t lo o) ([i]) (.inr (5, [.ref (ad [i, 1]), .ref (ad [i, 2]), .int (nI (cN σ)), .int (nI (cK σ)), .int (cDay σ), .int ((cIns σ) + (nI 1)), .ref (ad [i, 3]), .ref (ad [i, 4])]))) rfl ?_
  refine V_wd (w' := PW i ad (cN σ, cK σ, cDay σ, cIns σ + nI 1, cH σ, cS σ) tl t lo o) PW_b' ?_
  refine V_aload_n C dX6_inspect_23 2 rfl ?_
  refine V_aload_n C dX6_inspect_24 1 rfl ?_
  refine V_aload C dX6_inspect_25 0 rfl ?_
  refine V_callV (r := (RX6, TX6, 8)) C [.ref (ad [i, 6, j]), .ref (ad [i, 9, q])] dX6_inspect_27 m_X6_meetsNow k_X6_meetsNow tw_397 rfl rfl rfl (PW_b (σ := (cN σ, cK σ, cDay σ, cIns σ + nI 1, cH σ, cS σ))) rfl rfl (Nat.le_of_ble_eq_true rfl) ⟨by omega, by omega, by omega, by omega⟩ (c_meetsNow (σ := (cN σ, cK σ, cDay σ, cIns σ + nI 1, cH σ, cS σ)) hl (by omega) hσ hj hq) (kr_some (x := .int (nI (metW (cH σ j) (cS σ q) (hDm (cH σ j)) (hDu (cH σ j))))) ?_) kx_no
  refine V_istore C [(5, .int (nI (metW (cH σ j) (cS σ q) (hDm (cH σ j)) (hDu (cH σ j))))), (4, .ref (ad [i, 9, q])), (3, .ref (ad [i, 6, j])), (0, .ref (ad [i])), (1, .int (nI j)), (2, .int (nI q))] dX6_inspect_30 (by decide) rfl ?_
  refine V_iload C dX6_inspect_32 0 rfl ?_
  refine V_ifn_eq (tgt := 50) C dX6_inspect_34 (by decide) (by omega) (fun hb1 => ?_) (fun hb1 => by exfalso; omega)
  refine V_aload_n C dX6_inspect_50 2 rfl ?_
  refine V_getN (ci := 0) (k := 4) C dX6_inspect_51 RX0 RX0 RX6 TX0 6 fw_X0 rfl (by decide) tw_205 rfl rfl (PW_h (σ := (cN σ, cK σ, cDay σ, cIns σ + nI 1, cH σ, cS σ)) hj) rfl ?_
  refine V_iload_n C dX6_inspect_54 5 rfl ?_
  refine V_icmp_ne (tgt := 62) C dX6_inspect_55 (by decide) (fun hb2 => ?_) (fun hb2 => by exfalso; exact hc hb2)
  refine V_iload C dX6_inspect_62 0 rfl ?_
  exact V_iret C .boolean dX6_inspect_64 hr (by rcases (show metW (cH σ j) (cS σ q) (hDm (cH σ j)) (hDu (cH σ j)) = 0 ∨ metW (cH σ j) (cS σ q) (hDm (cH σ j)) (hDu (cH σ j)) = 1 by have := metW_le (cH σ j) (cS σ q) (hDm (cH σ j)) (hDu (cH σ j)); omega) with z | z <;> rw [z] <;> rfl) ⟨rfl, rfl, _, _, _, rfl⟩ (by omega) (by omega)
set_option maxHeartbeats 4000000 in
theorem p_meets {l : Launch} {D : va_G} {ba d : Nat} {ad : Adr} (hl : l.stackTraces = false) (hd : 9 ≤ d) {i : Nat} {σ : CS} {tl : Int32} {t : TT} {lo : Nat → Int32} {o : Wd} (hσ : cOK σ) {j : Nat} (hj : j < cN σ) {q : Nat} (hq : q < cK σ)  : CT l yX6_meets (wsO yX6_meets cX6_meets 4 (some .boolean)) d 8 64 D ba [.ref (ad [i]), .int (nI j), .int (nI q)] ad (PW i ad σ tl t lo o) (RP i ad σ o (some (.int (nI (metW (cH σ j) (cS σ q) (hDm (cH σ j)) (hDu (cH σ j))))))) noX := by
  refine CT_of RX6 rfl (by decide +kernel) hl (Nat.le_of_ble_eq_true rfl) ?_
  intro p e s m args below meth c C hr hnm
  refine V_lvE (lv' := [(0, .ref (ad [i])), (1, .int (nI j)), (2, .int (nI q))]) rfl ?_
  have hσ1 := hσ.1
  have hσ2 := hσ.2.1
  have hu := hσ.2.2.1 j hj
  have hu1 := hu.1
  have hu2 := hu.2.1
  have hu3 := hu.2.2.1
  have hu4 := hu.2.2.2.1
  refine V_aload_n C dX6_meets_0 0 rfl ?_
  refine V_iload_n C dX6_meets_1 1 rfl ?_
  refine V_callV (r := (RX6, TX6, 8)) C [.int (nI j)] dX6_meets_2 m_X6_findHall k_X6_findHall tw_225 rfl rfl rfl PW_b rfl rfl (Nat.le_of_ble_eq_true rfl) ⟨by omega, by omega, by omega, by omega⟩ (c_findHall hl (by omega) hσ hj) (kr_some (x := .ref (ad [i, 6, j])) ?_) kx_no
  refine V_astore_n C [(3, .ref (ad [i, 6, j])), (0, .ref (ad [i])), (1, .int (nI j)), (2, .int (nI q))] dX6_meets_5 (by decide) rfl ?_
  refine V_aload_n C dX6_meets_6 1 rfl ?_
  refine V_aload_n C dX6_meets_7 0 rfl ?_
  refine V_aload_n C dX6_meets_8 1 rfl ?_
  refine V_iload_n C dX6_meets_9 3 rfl ?_
  refine V_callV (r := (RX6, TX6, 8)) C [.int (nI q)] dX6_meets_10 m_X6_findStandard k_X6_findStandard tw_391 rfl rfl rfl PW_b rfl rfl (Nat.le_of_ble_eq_true rfl) ⟨by omega, by omega, by omega, by omega⟩ (c_findStd hl (by omega) hσ hq) (kr_some (x := .ref (ad [i, 9, q])) ?_) kx_no
  refine V_callV (r := (RX6, TX6, 8)) C [.ref (ad [i, 6, j]), .ref (ad [i, 9, q])] dX6_meets_13 m_X6_meetsNow k_X6_meetsNow tw_397 rfl rfl rfl PW_b rfl rfl (Nat.le_of_ble_eq_true rfl) ⟨by omega, by omega, by omega, by omega⟩ (c_meetsNow hl (by omega) hσ hj hq) (kr_some (x := .int (nI (metW (cH σ j) (cS σ q) (hDm (cH σ j)) (hDu (cH σ j))))) ?_) kx_no
  exact V_iret C .boolean dX6_meets_16 hr (by rcases (show metW (cH σ j) (cS σ q) (hDm (cH σ j)) (hDu (cH σ j)) = 0 ∨ metW (cH σ j) (cS σ q) (hDm (cH σ j)) (hDu (cH σ j)) = 1 by have := metW_le (cH σ j) (cS σ q) (hDm (cH σ j)) (hDu (cH σ j)); omega) with z | z <;> rw [z] <;> rfl) ⟨rfl, rfl, _, _, _, rfl⟩ (by omega) (by omega)
set_option maxHeartbeats 4000000 in
theorem p_withDamp {l : Launch} {D : va_G} {ba d : Nat} {ad : Adr} (hl : l.stackTraces = false) (hd : 9 ≤ d) {i : Nat} {σ : CS} {tl : Int32} {t : TT} {lo : Nat → Int32} {o : Wd} (hσ : cOK σ) {j : Nat} (hj : j < cN σ) {q : Nat} (hq : q < cK σ) {v : Nat} (hv : v ≤ 90) (hin : ¬ inR (nI v) (nI 0) (nI 90) = 0)  : CT l yX6_meetsWithDamping (wsO yX6_meetsWithDamping cX6_meetsWithDamping 6 (some .boolean)) d 8 64 D ba [.ref (ad [i]), .int (nI j), .int (nI q), .int (nI v)] ad (PW i ad σ tl t lo o) (RP i ad σ o (some (.int (nI (metW (cH σ j) (cS σ q) v (hDu (cH σ j))))))) noX := by
  refine CT_of RX6 rfl (by decide +kernel) hl (Nat.le_of_ble_eq_true rfl) ?_
  intro p e s m args below meth c C hr hnm
  refine V_lvE (lv' := [(0, .ref (ad [i])), (1, .int (nI j)), (2, .int (nI q)), (3, .int (nI v))]) rfl ?_
  have hσ1 := hσ.1
  have hσ2 := hσ.2.1
  have hu := hσ.2.2.1 j hj
  have hu1 := hu.1
  have hu2 := hu.2.1
  have hu3 := hu.2.2.1
  have hu4 := hu.2.2.2.1
  refine V_aload_n C dX6_meetsWithDamping_0 0 rfl ?_
  refine V_iload_n C dX6_meetsWithDamping_1 1 rfl ?_
  refine V_callV (r := (RX6, TX6, 8)) C [.int (nI j)] dX6_meetsWithDamping_2 m_X6_findHall k_X6_findHall tw_225 rfl rfl rfl PW_b rfl rfl (Nat.le_of_ble_eq_true rfl) ⟨by omega, by omega, by omega, by omega⟩ (c_findHall hl (by omega) hσ hj) (kr_some (x := .ref (ad [i, 6, j])) ?_) kx_no
  refine V_astore C [(4, .ref (ad [i, 6, j])), (0, .ref (ad [i])), (1, .int (nI j)), (2, .int (nI q)), (3, .int (nI v))] dX6_meetsWithDamping_5 (by decide) rfl ?_
  refine V_aload_n C dX6_meetsWithDamping_7 1 rfl ?_
  refine V_iload_n C dX6_meetsWithDamping_8 3 rfl ?_
  refine V_callV (r := (RX6, TX6, 8)) C [.int (nI q)] dX6_meetsWithDamping_9 m_X6_findStandard k_X6_findStandard tw_391 rfl rfl rfl PW_b rfl rfl (Nat.le_of_ble_eq_true rfl) ⟨by omega, by omega, by omega, by omega⟩ (c_findStd hl (by omega) hσ hq) (kr_some (x := .ref (ad [i, 9, q])) ?_) kx_no
  refine V_astore C [(5, .ref (ad [i, 9, q])), (4, .ref (ad [i, 6, j])), (0, .ref (ad [i])), (1, .int (nI j)), (2, .int (nI q)), (3, .int (nI v))] dX6_meetsWithDamping_12 (by decide) rfl ?_
  refine V_iload_n C dX6_meetsWithDamping_14 5 rfl ?_
  refine V_callS C [.int (nI v)] dX6_meetsWithDamping_15 m_X6_checkDamping k_X6_checkDamping tw_99 rfl rfl (Nat.le_of_ble_eq_true rfl) ⟨by omega, by omega, by omega, by omega⟩ (c_ckDamp_ok hl (by omega) _ hin) (kr_none ?_) kx_no
  refine V_aload_n C dX6_meetsWithDamping_18 2 rfl ?_
  refine V_aload C dX6_meetsWithDamping_19 1 rfl ?_
  refine V_aload C dX6_meetsWithDamping_21 0 rfl ?_
  refine V_iload_n C dX6_meetsWithDamping_23 5 rfl ?_
  refine V_aload C dX6_meetsWithDamping_24 1 rfl ?_
  refine V_getN (ci := 0) (k := 3) C dX6_meetsWithDamping_26 RX0 RX0 RX6 TX0 6 fw_X0 rfl (by decide) tw_202 rfl rfl (PW_h hj) rfl ?_
  have hle29 := metW_le (cH σ j) (cS σ q) v (hDu (cH σ j))
  refine V_callV (r := (RX6, TX6, 8)) C [.ref (ad [i, 6, j]), .ref (ad [i, 9, q]), .int (nI v), .int (nI (hDu (cH σ j)))] dX6_meetsWithDamping_29 m_X6_wouldMeet k_X6_wouldMeet tw_401 rfl rfl rfl PW_b rfl rfl (Nat.le_of_ble_eq_true rfl) ⟨by omega, by omega, by omega, by omega⟩ (c_would hl (by omega) hσ hj hq (by omega) (by omega)) (kr_some (x := .int (nI (metW (cH σ j) (cS σ q) v (hDu (cH σ j))))) ?_) kx_no
  exact V_iret C .boolean dX6_meetsWithDamping_32 hr (by rcases (show metW (cH σ j) (cS σ q) v (hDu (cH σ j)) = 0 ∨ metW (cH σ j) (cS σ q) v (hDu (cH σ j)) = 1 by omega) with z | z <;> rw [z] <;> rfl) ⟨rfl, rfl, _, _, _, rfl⟩ (by omega) (by omega)
def fstF (f : Nat → Nat) : Nat → Nat → Int32
  | 0, _ => -1
  | n + 1, k => if f k = 0 then fstF f n (k + 1) else nI k
