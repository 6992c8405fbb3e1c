
def upF {α : Type} (g : Nat → α → α) : Nat → α → α
  | 0, x => x
  | m + 1, x => g m (upF g m x)
theorem upF_s {α : Type} {g : Nat → α → α} {k sc : Nat} {x : α} (h : k < sc) : upF g (min (k + 1) sc) x = g k (upF g (min k sc) x) := by
  rw [Nat.min_eq_left h, Nat.min_eq_left (Nat.le_of_lt h)]; rfl
theorem upF_e {α : Type} {g : Nat → α → α} {k sc : Nat} {x : α} (h : sc ≤ k) : upF g (min (k + 1) sc) x = upF g (min k sc) x := by
  rw [Nat.min_eq_right h, Nat.min_eq_right (by omega)]
theorem upF_x {α : Type} {g : Nat → α → α} {k sc : Nat} {x : α} (h : sc ≤ k) : upF g (min k sc) x = upF g sc x := by rw [Nat.min_eq_right h]
def rowsT (tl : Int32) (dm du click : Nat) (su : Nat → Nat × Nat) : Nat → TT → TT := fun k t => List.foldl (hearT tl) t (rowE ((su k).1 - du / 5) dm (su k).2 500 1 click)
def rowsL (dm du click : Nat) (su : Nat → Nat × Nat) : Nat → (Nat → Int32) → Nat → Int32 := fun k f => List.foldl hearL f (rowE ((su k).1 - du / 5) dm (su k).2 500 1 click)
set_option maxHeartbeats 4000000 in
theorem c_findHall {l : Launch} {D : va_G} {ba d : Nat} {ad : Adr} (hl : l.stackTraces = false) (hd : 7 ≤ d) {i : Nat} {σ : CS} {tl : Int32} {t : TT} {lo : Nat → Int32} {o : Wd} (hσ : cOK σ) {j : Nat} (hj : j < cN σ) : CT l yX6_findHall (wsO yX6_findHall cX6_findHall 3 (some (.object "EchoBureau$Hall"))) d 1 6 D ba [.ref (ad [i]), .int (nI j)] ad (PW i ad σ tl t lo o) (isR (some (.ref (ad [i, 6, j]))) ad (PW i ad σ tl t lo o)) noX := by
  refine CT_of RX6 rfl (by decide +kernel) hl (Nat.le_of_ble_eq_true rfl) ?_
  intro p e s m args below meth c C hr hnm
  refine V_lvE (lv' := [(0, .ref (ad [i])), (1, .int (nI j))]) rfl ?_
  have h8 := hσ.1
  refine V_iload_n C dX6_findHall_0 1 rfl ?_
  refine V_ifn_lt (tgt := 13) C dX6_findHall_1 (by decide) (by omega) ?_
  refine V_iload_n C dX6_findHall_4 1 rfl ?_
  refine V_aload_n C dX6_findHall_5 0 rfl ?_
  refine V_get (ci := 5) (k := 0) C dX6_findHall_6 RX6 RX6 TX6 8 fw_X6 rfl (by decide) tw_70 rfl rfl PW_b rfl ?_
  refine V_alen (v := nI 8) C dX6_findHall_9 rfl PW_hr rfl ?_
  refine V_icmpn_lt (tgt := 23) C dX6_findHall_10 (by decide) (by omega) (by decide) (fun hb2 => ?_) (fun hb2 => by exfalso; omega)
  refine V_aload_n C dX6_findHall_23 0 rfl ?_
  refine V_get (ci := 5) (k := 0) C dX6_findHall_24 RX6 RX6 TX6 8 fw_X6 rfl (by decide) tw_70 rfl rfl PW_b rfl ?_
  refine V_iload_n C dX6_findHall_27 1 rfl ?_
  refine V_aaldn (v := .ref (ad [i, 6, j])) C dX6_findHall_28 rfl PW_hr (by omega) (by decide) (by rw [adN_lt hj]; rfl) ?_
  refine V_astore_n C [(2, .ref (ad [i, 6, j])), (0, .ref (ad [i])), (1, .int (nI j))] dX6_findHall_29 (by decide) rfl ?_
  refine V_aload_n C dX6_findHall_30 0 rfl ?_
  refine V_ifnonnull (tgt := 44) C dX6_findHall_31 (by decide) ?_
  refine V_aload_n C dX6_findHall_44 0 rfl ?_
  exact V_aret C "EchoBureau$Hall" dX6_findHall_45 hr ⟨rfl, rfl, rfl⟩ (by omega) (by omega)

set_option maxHeartbeats 4000000 in
theorem c_findStd {l : Launch} {D : va_G} {ba d : Nat} {ad : Adr} (hl : l.stackTraces = false) (hd : 7 ≤ d) {i : Nat} {σ : CS} {tl : Int32} {t : TT} {lo : Nat → Int32} {o : Wd} (hσ : cOK σ) {q : Nat} (hq : q < cK σ) : CT l yX6_findStandard (wsO yX6_findStandard cX6_findStandard 3 (some (.object "EchoBureau$Standard"))) d 1 6 D ba [.ref (ad [i]), .int (nI q)] ad (PW i ad σ tl t lo o) (isR (some (.ref (ad [i, 9, q]))) ad (PW i ad σ tl t lo o)) noX := by
  refine CT_of RX6 rfl (by decide +kernel) hl (Nat.le_of_ble_eq_true rfl) ?_
  intro p e s m args below meth c C hr hnm
  refine V_lvE (lv' := [(0, .ref (ad [i])), (1, .int (nI q))]) rfl ?_
  have h8 := hσ.2.1
  refine V_iload_n C dX6_findStandard_0 1 rfl ?_
  refine V_ifn_lt (tgt := 13) C dX6_findStandard_1 (by decide) (by omega) ?_
  refine V_iload_n C dX6_findStandard_4 1 rfl ?_
  refine V_aload_n C dX6_findStandard_5 0 rfl ?_
  refine V_get (ci := 5) (k := 1) C dX6_findStandard_6 RX6 RX6 TX6 8 fw_X6 rfl (by decide) tw_71 rfl rfl PW_b rfl ?_
  refine V_alen (v := nI 5) C dX6_findStandard_9 rfl PW_sr rfl ?_
  refine V_icmpn_lt (tgt := 23) C dX6_findStandard_10 (by decide) (by omega) (by decide) (fun hb2 => ?_) (fun hb2 => by exfalso; omega)
  refine V_aload_n C dX6_findStandard_23 0 rfl ?_
  refine V_get (ci := 5) (k := 1) C dX6_findStandard_24 RX6 RX6 TX6 8 fw_X6 rfl (by decide) tw_71 rfl rfl PW_b rfl ?_
  refine V_iload_n C dX6_findStandard_27 1 rfl ?_
  refine V_aaldn (v := .ref (ad [i, 9, q])) C dX6_findStandard_28 rfl PW_sr (by omega) (by decide) (by rw [adN_lt hq]; rfl) ?_
  refine V_astore_n C [(2, .ref (ad [i, 9, q])), (0, .ref (ad [i])), (1, .int (nI q))] dX6_findStandard_29 (by decide) rfl ?_
  refine V_aload_n C dX6_findStandard_30 0 rfl ?_
  refine V_ifnonnull (tgt := 44) C dX6_findStandard_31 (by decide) ?_
  refine V_aload_n C dX6_findStandard_44 0 rfl ?_
  exact V_aret C "EchoBureau$Standard" dX6_findStandard_45 hr ⟨rfl, rfl, rfl⟩ (by omega) (by omega)

set_option maxHeartbeats 4000000 in
theorem c_findSurf {l : Launch} {D : va_G} {ba d : Nat} {ad : Adr} (hl : l.stackTraces = false) (hd : 7 ≤ d) {i : Nat} {σ : CS} {tl : Int32} {t : TT} {lo : Nat → Int32} {o : Wd} (hσ : cOK σ) {j k : Nat} (hj : j < cN σ) (hk : k < hSc (cH σ j)) : CT l yX6_findSurface (wsO yX6_findSurface cX6_findSurface 3 (some (.object "EchoBureau$Surface"))) d 1 6 D ba [.ref (ad [i, 6, j]), .int (nI k)] ad (PW i ad σ tl t lo o) (isR (some (.ref (ad [i, 8, j, k]))) ad (PW i ad σ tl t lo o)) noX := by
  refine CT_of RX6 rfl (by decide +kernel) hl (Nat.le_of_ble_eq_true rfl) ?_
  intro p e s m args below meth c C hr hnm
  refine V_lvE (lv' := [(0, .ref (ad [i, 6, j])), (1, .int (nI k))]) rfl ?_
  have h8 := (hσ.2.2.1 j hj).1
  refine V_iload_n C dX6_findSurface_0 1 rfl ?_
  refine V_ifn_lt (tgt := 13) C dX6_findSurface_1 (by decide) (by omega) ?_
  refine V_iload_n C dX6_findSurface_4 1 rfl ?_
  refine V_aload_n C dX6_findSurface_5 0 rfl ?_
  refine V_getN (ci := 0) (k := 0) C dX6_findSurface_6 RX0 RX0 RX6 TX0 6 fw_X0 rfl (by decide) tw_197 rfl rfl (PW_h hj) rfl ?_
  refine V_alen (v := nI 6) C dX6_findSurface_9 rfl (PW_hs hj) rfl ?_
  refine V_icmpn_lt (tgt := 23) C dX6_findSurface_10 (by decide) (by omega) (by decide) (fun hb2 => ?_) (fun hb2 => by exfalso; omega)
  refine V_aload_n C dX6_findSurface_23 0 rfl ?_
  refine V_getN (ci := 0) (k := 0) C dX6_findSurface_24 RX0 RX0 RX6 TX0 6 fw_X0 rfl (by decide) tw_197 rfl rfl (PW_h hj) rfl ?_
  refine V_iload_n C dX6_findSurface_27 1 rfl ?_
  refine V_aaldn (v := .ref (ad [i, 8, j, k])) C dX6_findSurface_28 rfl (PW_hs hj) (by omega) (by decide) (by rw [adN_lt hk]; rfl) ?_
  refine V_astore_n C [(2, .ref (ad [i, 8, j, k])), (0, .ref (ad [i, 6, j])), (1, .int (nI k))] dX6_findSurface_29 (by decide) rfl ?_
  refine V_aload_n C dX6_findSurface_30 0 rfl ?_
  refine V_ifnonnull (tgt := 44) C dX6_findSurface_31 (by decide) ?_
  refine V_aload_n C dX6_findSurface_44 0 rfl ?_
  exact V_aret C "EchoBureau$Surface" dX6_findSurface_45 hr ⟨rfl, rfl, rfl⟩ (by omega) (by omega)

set_option maxHeartbeats 4000000 in
theorem lp_throwT {p : Program} {l : Launch} {e : Env} {s : State} {m : MethodId} {args : Array Value} {below : List Frame} {meth : Method} {c : Code} {D : va_G} {ba d mc ms : Nat} {ad : Adr} {QR : Option Value → Adr → Wd → Prop} {QX : String → Adr → Wd → Prop} (C : Cx p l s m args meth c D ba RX0 cX0_throwBack 9 [] d) (hl : l.stackTraces = false) (hr : meth.sig.returnType = none) (hd : 5 ≤ d) {i : Nat} {σ : CS} {tl : Int32} {t : TT} {lo : Nat → Int32} {o : Wd} (hσ : cOK σ) {j : Nat} (hj : j < cN σ) {click dm du : Nat} (hdm : dm ≤ 90) (hdu : du ≤ 100) (hcl : click ≤ 1000) (hq : QR none ad (PW i ad σ tl (upF (rowsT tl dm du click (hSu (cH σ j))) (hSc (cH σ j)) t) lo o)) : ∀ (n : Nat) (k : Nat), k + n = 6 → V p l e s m args below meth c D ba d mc ms (MO D ba QR QX below args s mc ms) 9 ad (PW i ad σ tl (upF (rowsT tl dm du click (hSu (cH σ j))) (min k (hSc (cH σ j))) t) lo o) 14 [(7, .int (nI k)), (6, .int (nI 6)), (5, .ref (ad [i, 7, j])), (0, .ref (ad [i, 6, j])), (1, .int (nI click)), (2, .int (nI dm)), (3, .int (nI du)), (4, .ref (ad [i, 3]))] [] 0 0 := by
  intro n
  induction n with
  | zero =>
    intro k hk
    have hu := hσ.2.2.1 j hj
    have hu6 := hu.1
    refine V_iload C dX0_throwBack_14 0 rfl ?_
    refine V_iload C dX0_throwBack_16 1 rfl ?_
    refine V_icmpn_ge (tgt := 49) C dX0_throwBack_18 (by decide) (by omega) (by decide) (fun hb1 => ?_) (fun hb1 => by exfalso; omega)
    exact V_vret C dX0_throwBack_49 hr (by rw [upF_x (by omega)]; exact hq) (by omega) (by omega)
  | succ n ih =>
    intro k hk
    have hu := hσ.2.2.1 j hj
    have hu6 := hu.1
    refine V_iload C dX0_throwBack_14 0 rfl ?_
    refine V_iload C dX0_throwBack_16 1 rfl ?_
    refine V_icmpn_ge (tgt := 49) C dX0_throwBack_18 (by decide) (by omega) (by decide) (fun hb1 => by exfalso; omega) (fun hb1 => ?_)
    refine V_aload C dX0_throwBack_21 2 rfl ?_
    refine V_iload C dX0_throwBack_23 0 rfl ?_
    rcases Nat.lt_or_ge k (hSc (cH σ j)) with hks | hks
    · skip
      refine V_aaldn (v := .ref (ad [i, 8, j, k])) C dX0_throwBack_25 rfl (PW_hs hj) (by omega) (by decide) (by rw [adN_lt hks]; rfl) ?_
      refine V_astore C [(8, .ref (ad [i, 8, j, k])), (7, .int (nI k)), (6, .int (nI 6)), (5, .ref (ad [i, 7, j])), (0, .ref (ad [i, 6, j])), (1, .int (nI click)), (2, .int (nI dm)), (3, .int (nI du)), (4, .ref (ad [i, 3]))] dX0_throwBack_26 (by decide) rfl ?_
      refine V_aload C dX0_throwBack_28 0 rfl ?_
      refine V_ifnull C dX0_throwBack_30 ?_
      refine V_aload C dX0_throwBack_33 0 rfl ?_
      refine V_iload_n C dX0_throwBack_35 5 rfl ?_
      refine V_iload_n C dX0_throwBack_36 6 rfl ?_
      refine V_iload_n C dX0_throwBack_37 7 rfl ?_
      refine V_aload C dX0_throwBack_38 8 rfl ?_
      refine V_callVN (r := (RX4, TX4, 2)) C RX6 [.int (nI click), .int (nI dm), .int (nI du), .ref (ad [i, 3])] dX0_throwBack_40 m_X4_throwRow k_X4_throwRow tw_334 rfl rfl rfl (PW_u hj hks) rfl rfl (Nat.le_of_ble_eq_true rfl) ⟨by omega, by omega, by omega, by omega⟩ (c_rowT hl (by omega) (PW_u hj hks) (by simp) PW_t (hu.2.2.2.2 k hks).1 (hu.2.2.2.2 k hks).2.1 (hu.2.2.2.2 k hks).2.2 hdm hdu hcl) (kr_none ?_) kx_no
      refine V_wd (w' := PW i ad σ tl ((rowsT tl dm du click (hSu (cH σ j))) k (upF (rowsT tl dm du click (hSu (cH σ j))) (min k (hSc (cH σ j))) t)) lo o) PW_t' ?_
      refine V_iincn C [(7, .int (nI (k + 1))), (8, .ref (ad [i, 8, j, k])), (6, .int (nI 6)), (5, .ref (ad [i, 7, j])), (0, .ref (ad [i, 6, j])), (1, .int (nI click)), (2, .int (nI dm)), (3, .int (nI du)), (4, .ref (ad [i, 3]))] dX0_throwBack_43 1 rfl (by decide) rfl ?_
      refine V_goto (tgt := 14) C dX0_throwBack_46 (by decide) ?_
      refine V_wd (w' := PW i ad σ tl (upF (rowsT tl dm du click (hSu (cH σ j))) (min (k + 1) (hSc (cH σ j))) t) lo o) (by rw [upF_s hks]) ?_
      refine V_lv [0, 2, 3, 4, 5, 6, 7, 8] rfl ?_
      exact ih (k + 1) (by omega)
    · skip
      refine V_aaldn (v := .null) C dX0_throwBack_25 rfl (PW_hs hj) (by omega) (by decide) (by rw [adN_ge (Nat.not_lt.mpr hks)]; rfl) ?_
      refine V_astoreN C [(8, .null), (7, .int (nI k)), (6, .int (nI 6)), (5, .ref (ad [i, 7, j])), (0, .ref (ad [i, 6, j])), (1, .int (nI click)), (2, .int (nI dm)), (3, .int (nI du)), (4, .ref (ad [i, 3]))] dX0_throwBack_26 (by decide) rfl ?_
      refine V_aloadN C dX0_throwBack_28 0 rfl ?_
      refine V_ifnullN (tgt := 43) C dX0_throwBack_30 (by decide) ?_
      refine V_iincn C [(7, .int (nI (k + 1))), (8, .null), (6, .int (nI 6)), (5, .ref (ad [i, 7, j])), (0, .ref (ad [i, 6, j])), (1, .int (nI click)), (2, .int (nI dm)), (3, .int (nI du)), (4, .ref (ad [i, 3]))] dX0_throwBack_43 1 rfl (by decide) rfl ?_
      refine V_goto (tgt := 14) C dX0_throwBack_46 (by decide) ?_
      refine V_wd (w' := PW i ad σ tl (upF (rowsT tl dm du click (hSu (cH σ j))) (min (k + 1) (hSc (cH σ j))) t) lo o) (by rw [upF_e hks]) ?_
      refine V_lv [0, 2, 3, 4, 5, 6, 7, 8] rfl ?_
      exact ih (k + 1) (by omega)
set_option maxHeartbeats 4000000 in
theorem c_throwT {l : Launch} {D : va_G} {ba d : Nat} {ad : Adr} (hl : l.stackTraces = false) (hd : 5 ≤ d) {i : Nat} {σ : CS} {tl : Int32} {t : TT} {lo : Nat → Int32} {o : Wd} (hσ : cOK σ) {j : Nat} (hj : j < cN σ) {click dm du : Nat} (hdm : dm ≤ 90) (hdu : du ≤ 100) (hcl : click ≤ 1000)  : CT l yX0_throwBack (wsO yX0_throwBack cX0_throwBack 9 none) d 0 0 D ba [.ref (ad [i, 6, j]), .int (nI click), .int (nI dm), .int (nI du), .ref (ad [i, 3])] ad (PW i ad σ tl t lo o) (isR none ad (PW i ad σ tl (upF (rowsT tl dm du click (hSu (cH σ j))) (hSc (cH σ j)) t) lo o)) noX := by
  refine CT_of RX0 rfl (by decide +kernel) hl (Nat.le_of_ble_eq_true rfl) ?_
  intro p e s m args below meth c C hr hnm
  refine V_lvE (lv' := [(0, .ref (ad [i, 6, j])), (1, .int (nI click)), (2, .int (nI dm)), (3, .int (nI du)), (4, .ref (ad [i, 3]))]) rfl ?_
  have hu := hσ.2.2.1 j hj
  refine V_aload_n C dX0_throwBack_0 0 rfl ?_
  refine V_get (ci := 0) (k := 0) C dX0_throwBack_1 RX0 RX0 TX0 6 fw_X0 rfl (by decide) tw_196 rfl rfl (PW_h hj) rfl ?_
  refine V_astore C [(5, .ref (ad [i, 7, j])), (0, .ref (ad [i, 6, j])), (1, .int (nI click)), (2, .int (nI dm)), (3, .int (nI du)), (4, .ref (ad [i, 3]))] dX0_throwBack_4 (by decide) rfl ?_
  refine V_aload C dX0_throwBack_6 0 rfl ?_
  refine V_alen (v := nI 6) C dX0_throwBack_8 rfl (PW_hs hj) rfl ?_
  refine V_istore C [(6, .int (nI 6)), (5, .ref (ad [i, 7, j])), (0, .ref (ad [i, 6, j])), (1, .int (nI click)), (2, .int (nI dm)), (3, .int (nI du)), (4, .ref (ad [i, 3]))] dX0_throwBack_9 (by decide) rfl ?_
  refine V_iconst (v := nI 0) C dX0_throwBack_11 (by decide) ?_
  refine V_istore C [(7, .int (nI 0)), (6, .int (nI 6)), (5, .ref (ad [i, 7, j])), (0, .ref (ad [i, 6, j])), (1, .int (nI click)), (2, .int (nI dm)), (3, .int (nI du)), (4, .ref (ad [i, 3]))] dX0_throwBack_12 (by decide) rfl ?_
  refine V_wd (w' := PW i ad σ tl (upF (rowsT tl dm du click (hSu (cH σ j))) (min 0 (hSc (cH σ j))) t) lo o) (by rw [Nat.zero_min]; rfl) ?_
  refine V_lv [0, 1, 2, 3, 4, 5, 6, 7] rfl ?_
  exact lp_throwT C hl hr (by omega) hσ hj hdm hdu hcl ⟨rfl, rfl, rfl⟩ 6 0 (by omega)
set_option maxHeartbeats 4000000 in
theorem lp_throwL {p : Program} {l : Launch} {e : Env} {s : State} {m : MethodId} {args : Array Value} {below : List Frame} {meth : Method} {c : Code} {D : va_G} {ba d mc ms : Nat} {ad : Adr} {QR : Option Value → Adr → Wd → Prop} {QX : String → Adr → Wd → Prop} (C : Cx p l s m args meth c D ba RX0 cX0_throwBack 9 [] d) (hl : l.stackTraces = false) (hr : meth.sig.returnType = none) (hd : 5 ≤ d) {i : Nat} {σ : CS} {tl : Int32} {t : TT} {lo : Nat → Int32} {o : Wd} (hσ : cOK σ) {j : Nat} (hj : j < cN σ) {click dm du : Nat} (hdm : dm ≤ 90) (hdu : du ≤ 100) (hcl : click ≤ 1000) (hq : QR none ad (PW i ad σ tl t (upF (rowsL dm du click (hSu (cH σ j))) (hSc (cH σ j)) lo) o)) : ∀ (n : Nat) (k : Nat), k + n = 6 → V p l e s m args below meth c D ba d mc ms (MO D ba QR QX below args s mc ms) 9 ad (PW i ad σ tl t (upF (rowsL dm du click (hSu (cH σ j))) (min k (hSc (cH σ j))) lo) o) 14 [(7, .int (nI k)), (6, .int (nI 6)), (5, .ref (ad [i, 7, j])), (0, .ref (ad [i, 6, j])), (1, .int (nI click)), (2, .int (nI dm)), (3, .int (nI du)), (4, .ref (ad [i, 4]))] [] 0 0 := by
  intro n
  induction n with
  | zero =>
    intro k hk
    have hu := hσ.2.2.1 j hj
    have hu6 := hu.1
    refine V_iload C dX0_throwBack_14 0 rfl ?_
    refine V_iload C dX0_throwBack_16 1 rfl ?_
    refine V_icmpn_ge (tgt := 49) C dX0_throwBack_18 (by decide) (by omega) (by decide) (fun hb1 => ?_) (fun hb1 => by exfalso; omega)
    exact V_vret C dX0_throwBack_49 hr (by rw [upF_x (by omega)]; exact hq) (by omega) (by omega)
  | succ n ih =>
    intro k hk
    have hu := hσ.2.2.1 j hj
    have hu6 := hu.1
    refine V_iload C dX0_throwBack_14 0 rfl ?_
    refine V_iload C dX0_throwBack_16 1 rfl ?_
    refine V_icmpn_ge (tgt := 49) C dX0_throwBack_18 (by decide) (by omega) (by decide) (fun hb1 => by exfalso; omega) (fun hb1 => ?_)
    refine V_aload C dX0_throwBack_21 2 rfl ?_
    refine V_iload C dX0_throwBack_23 0 rfl ?_
    rcases Nat.lt_or_ge k (hSc (cH σ j)) with hks | hks
    · skip
      refine V_aaldn (v := .ref (ad [i, 8, j, k])) C dX0_throwBack_25 rfl (PW_hs hj) (by omega) (by decide) (by rw [adN_lt hks]; rfl) ?_
      refine V_astore C [(8, .ref (ad [i, 8, j, k])), (7, .int (nI k)), (6, .int (nI 6)), (5, .ref (ad [i, 7, j])), (0, .ref (ad [i, 6, j])), (1, .int (nI click)), (2, .int (nI dm)), (3, .int (nI du)), (4, .ref (ad [i, 4]))] dX0_throwBack_26 (by decide) rfl ?_
      refine V_aload C dX0_throwBack_28 0 rfl ?_
      refine V_ifnull C dX0_throwBack_30 ?_
      refine V_aload C dX0_throwBack_33 0 rfl ?_
      refine V_iload_n C dX0_throwBack_35 5 rfl ?_
      refine V_iload_n C dX0_throwBack_36 6 rfl ?_
      refine V_iload_n C dX0_throwBack_37 7 rfl ?_
      refine V_aload C dX0_throwBack_38 8 rfl ?_
      refine V_callVN (r := (RX4, TX4, 2)) C RX6 [.int (nI click), .int (nI dm), .int (nI du), .ref (ad [i, 4])] dX0_throwBack_40 m_X4_throwRow k_X4_throwRow tw_334 rfl rfl rfl (PW_u hj hks) rfl rfl (Nat.le_of_ble_eq_true rfl) ⟨by omega, by omega, by omega, by omega⟩ (c_rowL hl (by omega) (PW_u hj hks) PW_l (by simp) (by simp) PW_a (hu.2.2.2.2 k hks).1 (hu.2.2.2.2 k hks).2.1 (hu.2.2.2.2 k hks).2.2 hdm hdu hcl) (kr_none ?_) kx_no
      refine V_wd (w' := PW i ad σ tl t ((rowsL dm du click (hSu (cH σ j))) k (upF (rowsL dm du click (hSu (cH σ j))) (min k (hSc (cH σ j))) lo)) o) PW_a' ?_
      refine V_iincn C [(7, .int (nI (k + 1))), (8, .ref (ad [i, 8, j, k])), (6, .int (nI 6)), (5, .ref (ad [i, 7, j])), (0, .ref (ad [i, 6, j])), (1, .int (nI click)), (2, .int (nI dm)), (3, .int (nI du)), (4, .ref (ad [i, 4]))] dX0_throwBack_43 1 rfl (by decide) rfl ?_
      refine V_goto (tgt := 14) C dX0_throwBack_46 (by decide) ?_
      refine V_wd (w' := PW i ad σ tl t (upF (rowsL dm du click (hSu (cH σ j))) (min (k + 1) (hSc (cH σ j))) lo) o) (by rw [upF_s hks]) ?_
      refine V_lv [0, 2, 3, 4, 5, 6, 7, 8] rfl ?_
      exact ih (k + 1) (by omega)
    · skip
      refine V_aaldn (v := .null) C dX0_throwBack_25 rfl (PW_hs hj) (by omega) (by decide) (by rw [adN_ge (Nat.not_lt.mpr hks)]; rfl) ?_
      refine V_astoreN C [(8, .null), (7, .int (nI k)), (6, .int (nI 6)), (5, .ref (ad [i, 7, j])), (0, .ref (ad [i, 6, j])), (1, .int (nI click)), (2, .int (nI dm)), (3, .int (nI du)), (4, .ref (ad [i, 4]))] dX0_throwBack_26 (by decide) rfl ?_
      refine V_aloadN C dX0_throwBack_28 0 rfl ?_
      refine V_ifnullN (tgt := 43) C dX0_throwBack_30 (by decide) ?_
      refine V_iincn C [(7, .int (nI (k + 1))), (8, .null), (6, .int (nI 6)), (5, .ref (ad [i, 7, j])), (0, .ref (ad [i, 6, j])), (1, .int (nI click)), (2, .int (nI dm)), (3, .int (nI du)), (4, .ref (ad [i, 4]))] dX0_throwBack_43 1 rfl (by decide) rfl ?_
      refine V_goto (tgt := 14) C dX0_throwBack_46 (by decide) ?_
      refine V_wd (w' := PW i ad σ tl t (upF (rowsL dm du click (hSu (cH σ j))) (min (k + 1) (hSc (cH σ j))) lo) o) (by rw [upF_e hks]) ?_
      refine V_lv [0, 2, 3, 4, 5, 6, 7, 8] rfl ?_
      exact ih (k + 1) (by omega)
set_option maxHeartbeats 4000000 in
theorem c_throwL {l : Launch} {D : va_G} {ba d : Nat} {ad : Adr} (hl : l.stackTraces = false) (hd : 5 ≤ d) {i : Nat} {σ : CS} {tl : Int32} {t : TT} {lo : Nat → Int32} {o : Wd} (hσ : cOK σ) {j : Nat} (hj : j < cN σ) {click dm du : Nat} (hdm : dm ≤ 90) (hdu : du ≤ 100) (hcl : click ≤ 1000)  : CT l yX0_throwBack (wsO yX0_throwBack cX0_throwBack 9 none) d 0 0 D ba [.ref (ad [i, 6, j]), .int (nI click), .int (nI dm), .int (nI du), .ref (ad [i, 4])] ad (PW i ad σ tl t lo o) (isR none ad (PW i ad σ tl t (upF (rowsL dm du click (hSu (cH σ j))) (hSc (cH σ j)) lo) o)) noX := by
  refine CT_of RX0 rfl (by decide +kernel) hl (Nat.le_of_ble_eq_true rfl) ?_
  intro p e s m args below meth c C hr hnm
  refine V_lvE (lv' := [(0, .ref (ad [i, 6, j])), (1, .int (nI click)), (2, .int (nI dm)), (3, .int (nI du)), (4, .ref (ad [i, 4]))]) rfl ?_
  have hu := hσ.2.2.1 j hj
  refine V_aload_n C dX0_throwBack_0 0 rfl ?_
  refine V_get (ci := 0) (k := 0) C dX0_throwBack_1 RX0 RX0 TX0 6 fw_X0 rfl (by decide) tw_196 rfl rfl (PW_h hj) rfl ?_
  refine V_astore C [(5, .ref (ad [i, 7, j])), (0, .ref (ad [i, 6, j])), (1, .int (nI click)), (2, .int (nI dm)), (3, .int (nI du)), (4, .ref (ad [i, 4]))] dX0_throwBack_4 (by decide) rfl ?_
  refine V_aload C dX0_throwBack_6 0 rfl ?_
  refine V_alen (v := nI 6) C dX0_throwBack_8 rfl (PW_hs hj) rfl ?_
  refine V_istore C [(6, .int (nI 6)), (5, .ref (ad [i, 7, j])), (0, .ref (ad [i, 6, j])), (1, .int (nI click)), (2, .int (nI dm)), (3, .int (nI du)), (4, .ref (ad [i, 4]))] dX0_throwBack_9 (by decide) rfl ?_
  refine V_iconst (v := nI 0) C dX0_throwBack_11 (by decide) ?_
  refine V_istore C [(7, .int (nI 0)), (6, .int (nI 6)), (5, .ref (ad [i, 7, j])), (0, .ref (ad [i, 6, j])), (1, .int (nI click)), (2, .int (nI dm)), (3, .int (nI du)), (4, .ref (ad [i, 4]))] dX0_throwBack_12 (by decide) rfl ?_
  refine V_wd (w' := PW i ad σ tl t (upF (rowsL dm du click (hSu (cH σ j))) (min 0 (hSc (cH σ j))) lo) o) (by rw [Nat.zero_min]; rfl) ?_
  refine V_lv [0, 1, 2, 3, 4, 5, 6, 7] rfl ?_
  exact lp_throwL C hl hr (by omega) hσ hj hdm hdu hcl ⟨rfl, rfl, rfl⟩ 6 0 (by omega)
set_option maxHeartbeats 4000000 in
theorem c_tallyOf {l : Launch} {D : va_G} {ba d : Nat} {ad : Adr} (hl : l.stackTraces = false) (hd : 6 ≤ d) {i : Nat} {σ : CS} {tl : Int32} {t : TT} {lo : Nat → Int32} {o : Wd} (hσ : cOK σ) {j click : Nat} (hj : j < cN σ) (hcl : click ≤ 1000) (x : Int32) : CT l yX6_tallyOf (wsO yX6_tallyOf cX6_tallyOf 4 (some (.object "EchoBureau$Tally"))) d 0 0 D ba [.ref (ad [i]), .ref (ad [i, 6, j]), .int (nI click), .int x] ad (PW i ad σ tl t lo o) (isR (some (.ref (ad [i, 3]))) ad (PW i ad σ x (upF (rowsT x (hDm (cH σ j)) (hDu (cH σ j)) click (hSu (cH σ j))) (hSc (cH σ j)) (nI 0, nI 0, -1, -1)) lo o)) noX := by
  refine CT_of RX6 rfl (by decide +kernel) hl (Nat.le_of_ble_eq_true rfl) ?_
  intro p e s m args below meth c C hr hnm
  refine V_lvE (lv' := [(0, .ref (ad [i])), (1, .ref (ad [i, 6, j])), (2, .int (nI click)), (3, .int x)]) rfl ?_
  have hu := hσ.2.2.1 j hj
  have hu2 := hu.2.1
  have hu3 := hu.2.2.1
  refine V_aload_n C dX6_tallyOf_0 0 rfl ?_
  refine V_get (ci := 5) (k := 6) C dX6_tallyOf_1 RX6 RX6 TX6 8 fw_X6 rfl (by decide) tw_76 rfl rfl PW_b rfl ?_
  refine V_iload_n C dX6_tallyOf_4 3 rfl ?_
  refine V_callVN (r := (RX5, TX5, 5)) C RX6 [.int x] dX6_tallyOf_5 m_X5_begin k_X5_begin tw_326 rfl rfl rfl PW_t rfl rfl (Nat.le_of_ble_eq_true rfl) ⟨by omega, by omega, by omega, by omega⟩ (c_tBegin hl (by omega) PW_t x) (kr_none ?_) kx_no
  refine V_wd (w' := PW i ad σ x (nI 0, nI 0, -1, -1) lo o) (PW_t' (t' := (nI 0, nI 0, -1, -1))) ?_
  refine V_aload_n C dX6_tallyOf_8 1 rfl ?_
  refine V_iload_n C dX6_tallyOf_9 2 rfl ?_
  refine V_aload_n C dX6_tallyOf_10 1 rfl ?_
  refine V_getN (ci := 0) (k := 2) C dX6_tallyOf_11 RX0 RX0 RX6 TX0 6 fw_X0 rfl (by decide) tw_201 rfl rfl (PW_h hj) rfl ?_
  refine V_aload_n C dX6_tallyOf_14 1 rfl ?_
  refine V_getN (ci := 0) (k := 3) C dX6_tallyOf_15 RX0 RX0 RX6 TX0 6 fw_X0 rfl (by decide) tw_202 rfl rfl (PW_h hj) rfl ?_
  refine V_aload_n C dX6_tallyOf_18 0 rfl ?_
  refine V_get (ci := 5) (k := 6) C dX6_tallyOf_19 RX6 RX6 TX6 8 fw_X6 rfl (by decide) tw_76 rfl rfl PW_b rfl ?_
  refine V_callVN (r := (RX0, TX0, 6)) C RX6 [.int (nI click), .int (nI (hDm (cH σ j))), .int (nI (hDu (cH σ j))), .ref (ad [i, 3])] dX6_tallyOf_22 m_X0_throwBack k_X0_throwBack tw_330 rfl rfl rfl (PW_h hj) rfl rfl (Nat.le_of_ble_eq_true rfl) ⟨by omega, by omega, by omega, by omega⟩ (c_throwT hl (by omega) hσ hj (by omega) (by omega) (by omega)) (kr_none ?_) kx_no
  refine V_aload_n C dX6_tallyOf_25 0 rfl ?_
  refine V_get (ci := 5) (k := 6) C dX6_tallyOf_26 RX6 RX6 TX6 8 fw_X6 rfl (by decide) tw_76 rfl rfl PW_b rfl ?_
  exact V_aret C "EchoBureau$Tally" dX6_tallyOf_29 hr ⟨rfl, rfl, rfl⟩ (by omega) (by omega)
set_option maxHeartbeats 4000000 in
theorem c_loudOf {l : Launch} {D : va_G} {ba d : Nat} {ad : Adr} (hl : l.stackTraces = false) (hd : 6 ≤ d) {i : Nat} {σ : CS} {tl : Int32} {t : TT} {lo : Nat → Int32} {o : Wd} (hσ : cOK σ) {j click : Nat} (hj : j < cN σ) (hcl : click ≤ 1000) : CT l yX6_loudnessesOf (wsO yX6_loudnessesOf cX6_loudnessesOf 3 (some (.object "EchoBureau$Loudnesses"))) d 0 0 D ba [.ref (ad [i]), .ref (ad [i, 6, j]), .int (nI click)] ad (PW i ad σ tl t lo o) (isR (some (.ref (ad [i, 4]))) ad (PW i ad σ tl t (upF (rowsL (hDm (cH σ j)) (hDu (cH σ j)) click (hSu (cH σ j))) (hSc (cH σ j)) (fillF (nI 0) lo 501)) o)) noX := by
  refine CT_of RX6 rfl (by decide +kernel) hl (Nat.le_of_ble_eq_true rfl) ?_
  intro p e s m args below meth c C hr hnm
  refine V_lvE (lv' := [(0, .ref (ad [i])), (1, .ref (ad [i, 6, j])), (2, .int (nI click))]) rfl ?_
  have hu := hσ.2.2.1 j hj
  have hu2 := hu.2.1
  have hu3 := hu.2.2.1
  refine V_aload_n C dX6_loudnessesOf_0 0 rfl ?_
  refine V_get (ci := 5) (k := 7) C dX6_loudnessesOf_1 RX6 RX6 TX6 8 fw_X6 rfl (by decide) tw_77 rfl rfl PW_b rfl ?_
  refine V_callVN (r := (RX2, TX2, 1)) C RX6 [] dX6_loudnessesOf_4 m_X2_begin k_X2_begin tw_376 rfl rfl rfl PW_l rfl rfl (Nat.le_of_ble_eq_true rfl) ⟨by omega, by omega, by omega, by omega⟩ (c_lBegin hl (by omega) PW_l PW_a) (kr_none ?_) kx_no
  refine V_wd (w' := PW i ad σ tl t (fillF (nI 0) lo 501) o) PW_a' ?_
  refine V_aload_n C dX6_loudnessesOf_7 1 rfl ?_
  refine V_iload_n C dX6_loudnessesOf_8 2 rfl ?_
  refine V_aload_n C dX6_loudnessesOf_9 1 rfl ?_
  refine V_getN (ci := 0) (k := 2) C dX6_loudnessesOf_10 RX0 RX0 RX6 TX0 6 fw_X0 rfl (by decide) tw_201 rfl rfl (PW_h hj) rfl ?_
  refine V_aload_n C dX6_loudnessesOf_13 1 rfl ?_
  refine V_getN (ci := 0) (k := 3) C dX6_loudnessesOf_14 RX0 RX0 RX6 TX0 6 fw_X0 rfl (by decide) tw_202 rfl rfl (PW_h hj) rfl ?_
  refine V_aload_n C dX6_loudnessesOf_17 0 rfl ?_
  refine V_get (ci := 5) (k := 7) C dX6_loudnessesOf_18 RX6 RX6 TX6 8 fw_X6 rfl (by decide) tw_77 rfl rfl PW_b rfl ?_
  refine V_callVN (r := (RX0, TX0, 6)) C RX6 [.int (nI click), .int (nI (hDm (cH σ j))), .int (nI (hDu (cH σ j))), .ref (ad [i, 4])] dX6_loudnessesOf_21 m_X0_throwBack k_X0_throwBack tw_330 rfl rfl rfl (PW_h hj) rfl rfl (Nat.le_of_ble_eq_true rfl) ⟨by omega, by omega, by omega, by omega⟩ (c_throwL hl (by omega) hσ hj (by omega) (by omega) (by omega)) (kr_none ?_) kx_no
  refine V_aload_n C dX6_loudnessesOf_24 0 rfl ?_
  refine V_get (ci := 5) (k := 7) C dX6_loudnessesOf_25 RX6 RX6 TX6 8 fw_X6 rfl (by decide) tw_77 rfl rfl PW_b rfl ?_
  exact V_aret C "EchoBureau$Loudnesses" dX6_loudnessesOf_28 hr ⟨rfl, rfl, rfl⟩ (by omega) (by omega)
def okT (s : StdS) (t : TT) : Nat := okS s.1 s.2.2.1 s.2.2.2.1 t.1 t.2.1 t.2.2.1 t.2.2.2
def tlyW (h : HallS) (s : StdS) (dm du : Nat) : TT := upF (rowsT (nI s.2.1) dm du 1000 (hSu h)) (hSc h) (nI 0, nI 0, -1, -1)
def metW (h : HallS) (s : StdS) (dm du : Nat) : Nat := okT s (tlyW h s dm du)
theorem metW_le (h : HallS) (s : StdS) (dm du : Nat) : metW h s dm du ≤ 1 := by
  unfold metW okT okS
  split <;> (try split) <;> (try split) <;> (try split) <;> omega
set_option maxHeartbeats 4000000 in
theorem c_would {l : Launch} {D : va_G} {ba d : Nat} {ad : Adr} (hl : l.stackTraces = false) (hd : 6 ≤ d) {i : Nat} {σ : CS} {tl : Int32} {t : TT} {lo : Nat → Int32} {o : Wd} (hσ : cOK σ) {j q dm du : Nat} (hj : j < cN σ) (hq : q < cK σ) (hdm : dm ≤ 90) (hdu : du ≤ 100) : CT l yX6_wouldMeet (wsO yX6_wouldMeet cX6_wouldMeet 5 (some .boolean)) d 0 0 D ba [.ref (ad [i]), .ref (ad [i, 6, j]), .ref (ad [i, 9, q]), .int (nI dm), .int (nI du)] ad (PW i ad σ tl t lo o) (isR (some (.int (nI (metW (cH σ j) (cS σ q) dm du)))) ad (PW i ad σ (nI (cS σ q).2.1) (tlyW (cH σ j) (cS σ q) dm du) lo o)) noX := by
  refine CT_of RX6 rfl (by decide +kernel) hl (Nat.le_of_ble_eq_true rfl) ?_
  intro p e s m args below meth c C hr hnm
  refine V_lvE (lv' := [(0, .ref (ad [i])), (1, .ref (ad [i, 6, j])), (2, .ref (ad [i, 9, q])), (3, .int (nI dm)), (4, .int (nI du))]) rfl ?_
  refine V_aload_n C dX6_wouldMeet_0 0 rfl ?_
  refine V_get (ci := 5) (k := 6) C dX6_wouldMeet_1 RX6 RX6 TX6 8 fw_X6 rfl (by decide) tw_76 rfl rfl PW_b rfl ?_
  refine V_aload_n C dX6_wouldMeet_4 2 rfl ?_
  refine V_getN (ci := 2) (k := 1) C dX6_wouldMeet_5 RX3 RX3 RX6 TX3 5 fw_X3 rfl (by decide) tw_584 rfl rfl (PW_d hq) rfl ?_
  refine V_callVN (r := (RX5, TX5, 5)) C RX6 [.int (nI ((cS σ q).2.1))] dX6_wouldMeet_8 m_X5_begin k_X5_begin tw_326 rfl rfl rfl PW_t rfl rfl (Nat.le_of_ble_eq_true rfl) ⟨by omega, by omega, by omega, by omega⟩ (c_tBegin hl (by omega) PW_t (nI ((cS σ q).2.1))) (kr_none ?_) kx_no
  refine V_wd (w' := PW i ad σ (nI ((cS σ q).2.1)) (nI 0, nI 0, -1, -1) lo o) (PW_t' (t' := (nI 0, nI 0, -1, -1))) ?_
  refine V_aload_n C dX6_wouldMeet_11 1 rfl ?_
  refine V_sipush (v := nI 1000) C dX6_wouldMeet_12 (by decide) ?_
  refine V_iload_n C dX6_wouldMeet_15 3 rfl ?_
  refine V_iload C dX6_wouldMeet_16 4 rfl ?_
  refine V_aload_n C dX6_wouldMeet_18 0 rfl ?_
  refine V_get (ci := 5) (k := 6) C dX6_wouldMeet_19 RX6 RX6 TX6 8 fw_X6 rfl (by decide) tw_76 rfl rfl PW_b rfl ?_
  refine V_callVN (r := (RX0, TX0, 6)) C RX6 [.int (nI 1000), .int (nI dm), .int (nI du), .ref (ad [i, 3])] dX6_wouldMeet_22 m_X0_throwBack k_X0_throwBack tw_330 rfl rfl rfl (PW_h hj) rfl rfl (Nat.le_of_ble_eq_true rfl) ⟨by omega, by omega, by omega, by omega⟩ (c_throwT hl (by omega) hσ hj (by omega) (by omega) (by omega)) (kr_none ?_) kx_no
  refine V_aload_n C dX6_wouldMeet_25 2 rfl ?_
  refine V_aload_n C dX6_wouldMeet_26 0 rfl ?_
  refine V_get (ci := 5) (k := 6) C dX6_wouldMeet_27 RX6 RX6 TX6 8 fw_X6 rfl (by decide) tw_76 rfl rfl PW_b rfl ?_
  refine V_callVN (r := (RX3, TX3, 5)) C RX6 [.ref (ad [i, 3])] dX6_wouldMeet_30 m_X3_allows k_X3_allows tw_405 rfl rfl rfl (PW_d hq) rfl rfl (Nat.le_of_ble_eq_true rfl) ⟨by omega, by omega, by omega, by omega⟩ (c_allows hl (by omega) PW_t (PW_d hq)) (kr_some (x := .int (nI (metW (cH σ j) (cS σ q) dm du))) ?_) kx_no
  exact V_iret C .boolean dX6_wouldMeet_33 hr (by rcases (show metW (cH σ j) (cS σ q) dm du = 0 ∨ metW (cH σ j) (cS σ q) dm du = 1 by have := metW_le (cH σ j) (cS σ q) dm du; omega) with z | z <;> rw [z] <;> rfl) ⟨rfl, rfl, rfl⟩ (by omega) (by omega)
set_option maxHeartbeats 4000000 in
theorem c_meetsNow {l : Launch} {D : va_G} {ba d : Nat} {ad : Adr} (hl : l.stackTraces = false) (hd : 7 ≤ d) {i : Nat} {σ : CS} {tl : Int32} {t : TT} {lo : Nat → Int32} {o : Wd} (hσ : cOK σ) {j q : Nat} (hj : j < cN σ) (hq : q < cK σ) : CT l yX6_meetsNow (wsO yX6_meetsNow cX6_meetsNow 3 (some .boolean)) d 0 0 D ba [.ref (ad [i]), .ref (ad [i, 6, j]), .ref (ad [i, 9, q])] ad (PW i ad σ tl t lo o) (isR (some (.int (nI (metW (cH σ j) (cS σ q) (hDm (cH σ j)) (hDu (cH σ j)))))) ad (PW i ad σ (nI (cS σ q).2.1) (tlyW (cH σ j) (cS σ q) (hDm (cH σ j)) (hDu (cH σ j))) lo o)) noX := by
  refine CT_of RX6 rfl (by decide +kernel) hl (Nat.le_of_ble_eq_true rfl) ?_
  intro p e s m args below meth c C hr hnm
  refine V_lvE (lv' := [(0, .ref (ad [i])), (1, .ref (ad [i, 6, j])), (2, .ref (ad [i, 9, q]))]) rfl ?_
  have hu := hσ.2.2.1 j hj
  have hu2 := hu.2.1
  have hu3 := hu.2.2.1
  refine V_aload_n C dX6_meetsNow_0 0 rfl ?_
  refine V_aload_n C dX6_meetsNow_1 1 rfl ?_
  refine V_aload_n C dX6_meetsNow_2 2 rfl ?_
  refine V_aload_n C dX6_meetsNow_3 1 rfl ?_
  refine V_getN (ci := 0) (k := 2) C dX6_meetsNow_4 RX0 RX0 RX6 TX0 6 fw_X0 rfl (by decide) tw_201 rfl rfl (PW_h hj) rfl ?_
  refine V_aload_n C dX6_meetsNow_7 1 rfl ?_
  refine V_getN (ci := 0) (k := 3) C dX6_meetsNow_8 RX0 RX0 RX6 TX0 6 fw_X0 rfl (by decide) tw_202 rfl rfl (PW_h hj) rfl ?_
  refine V_callV (r := (RX6, TX6, 8)) C [.ref (ad [i, 6, j]), .ref (ad [i, 9, q]), .int (nI (hDm (cH σ j))), .int (nI (hDu (cH σ j)))] dX6_meetsNow_11 m_X6_wouldMeet k_X6_wouldMeet tw_401 rfl rfl rfl PW_b rfl rfl (Nat.le_of_ble_eq_true rfl) ⟨by omega, by omega, by omega, by omega⟩ (c_would hl (by omega) hσ hj hq (by omega) (by omega)) (kr_some (x := .int (nI (metW (cH σ j) (cS σ q) (hDm (cH σ j)) (hDu (cH σ j))))) ?_) kx_no
  exact V_iret C .boolean dX6_meetsNow_14 hr (by rcases (show metW (cH σ j) (cS σ q) (hDm (cH σ j)) (hDu (cH σ j)) = 0 ∨ metW (cH σ j) (cS σ q) (hDm (cH σ j)) (hDu (cH σ j)) = 1 by have := metW_le (cH σ j) (cS σ q) (hDm (cH σ j)) (hDu (cH σ j)); omega) with z | z <;> rw [z] <;> rfl) ⟨rfl, rfl, rfl⟩ (by omega) (by omega)
