/-- what a wrapper says: k, and the bureau behind it -/
abbrev WR (ad : Adr) (σ : CS) (o : Wd) (k : Nat) : Option Value → Adr → Wd → Prop := fun v' ad' w' => v' = some (.int (nI k)) ∧ keeps 0 ad ad' ∧ ∃ tl t lo, w' = PW 0 ad' σ tl t lo o
theorem PW_o2 {ad : Adr} {σ : CS} {tl : Int32} {t : TT} {lo : Nat → Int32} {o : Wd} {e : Ent} : wset (PW 0 ad σ tl t lo o) [2] e = PW 0 ad σ tl t lo (wset o [2] e) := by
  funext L
  rcases L with _ | ⟨j, r⟩
  · rw [wset_n (by simp)]; rfl
  · show (if j :: r = [2] then some e else if j = 0 then WC 0 ad σ tl t lo r else o (j :: r)) = (if j = 0 then WC 0 ad σ tl t lo r else if j :: r = [2] then some e else o (j :: r))
    by_cases hj : j = 0
    · subst hj; rw [if_neg (by simp), if_pos rfl, if_pos rfl]
    · rw [if_neg hj, if_neg hj]
theorem PW_2 {ad : Adr} {σ : CS} {tl : Int32} {t : TT} {lo : Nat → Int32} {o : Wd} : PW 0 ad σ tl t lo o [2] = o [2] := rfl
section K31
variable {p : Program} {l : Launch} {e : Env} {s : State} {m : MethodId} {args : Array Value} {below : List Frame} {meth : Method} {c : Code} {D : va_G} {ba d mc ms nL npc pc cells slots : Nat} {ad : Adr} {Q : State → Prop} {lv : List (Nat × Value)} {rest : List Value} {i : Nat} {σ : CS} {o : Wd}
theorem kx_XP {E0 : String} (k : ∀ tl t lo, VX p l e s m args below meth c D ba d mc ms Q nL E0 ad (PW i ad σ tl t lo o) pc lv rest cells slots) : ∀ (E : String) (ad' : Adr) (w' : Wd), XP i ad σ o E0 E ad' w' → VX p l e s m args below meth c D ba d mc ms Q nL E ad' w' pc lv rest cells slots := by
  rintro E ad' w' ⟨rfl, rfl, tl, t, lo, rfl⟩
  exact k tl t lo
theorem kr_RPa {x : Value} (k : ∀ ad2, keeps i ad ad2 → ∀ tl t lo, V p l e s m args below meth c D ba d mc ms Q nL ad2 (PW i ad2 σ tl t lo o) npc lv (x :: rest) cells slots) : ∀ (v : Option Value) (ad' : Adr) (w' : Wd), RPa i ad σ o (some x) v ad' w' → V p l e s m args below meth c D ba d mc ms Q nL ad' w' npc lv (v.toList ++ rest) cells slots := by
  rintro v ad' w' ⟨rfl, h, tl, t, lo, rfl⟩
  exact k ad' h tl t lo
end K31
set_option maxHeartbeats 4000000 in
theorem w_addHall {l : Launch} {D : va_G} {ba d : Nat} {ad : Adr} (hl : l.stackTraces = false) (hd : 10 ≤ d) {σ : CS} {tl : Int32} {t : TT} {lo : Nat → Int32} {o : Wd} (hσ : cOK σ) {f0 : Nat → Int64} (ho2 : o [2] = some (eJ 1 f0)) {v : Nat} (hv : v ≤ 90) (hin : ¬ inR (nI v) (nI 0) (nI 90) = 0) (h8 : cN σ < 8)  : CT l yL_addHall (wsH yL_addHall cL_addHall 4 (some .int) [(0, 9, 12, 13), (0, 9, 15, 15)]) d 8 64 D ba [.ref (ad [0]), .int (nI v), .ref (ad [2])] ad (PW 0 ad σ tl t lo o) (WR ad (addH σ v) (wset o [2] (eJ 1 (vp_updL f0 0 ((nI (cN σ))).toInt64))) 0) noX := by
  refine CT_ofH RL rfl (by decide +kernel) hl (Nat.le_of_ble_eq_true rfl) ?_
  intro p e s m args below meth c C hr hnm
  refine V_lvE (lv' := [(0, .ref (ad [0])), (1, .int (nI v)), (2, .ref (ad [2]))]) rfl ?_
  have hσ1 := hσ.1
  have hσ2 := hσ.2.1
  refine V_aload_n C dL_addHall_0 2 rfl ?_
  refine V_iconst (v := nI 0) C dL_addHall_1 (by decide) ?_
  refine V_aload_n C dL_addHall_2 0 rfl ?_
  refine V_iload_n C dL_addHall_3 1 rfl ?_
  refine V_callV (r := (RX6, TX6, 8)) C [.int (nI v)] dL_addHall_4 m_X6_addHall k_X6_addHall tw_218 rfl rfl rfl PW_b rfl rfl (Nat.le_of_ble_eq_true rfl) ⟨by omega, by omega, by omega, by omega⟩ (p_addHall hl (by omega) hσ hv hin h8) (kr_RPa (x := .int (nI (cN σ))) (fun ad2 hK tl t lo => ?_)) kx_no
  have e2 : ad [2] = ad2 [2] := (hK.1 2 [] (by decide)).symm
  refine V_i2l C dL_addHall_7 rfl ?_
  refine V_lastn C dL_addHall_8 e2 (PW_2.trans ho2) (by decide) (by decide) ?_
  refine V_wd (w' := wset (PW 0 ad2 (addH σ v) tl t lo o) ([2]) (eJ 1 (vp_updL f0 0 ((nI (cN σ)).toInt64)))) rfl ?_
  refine V_goto (tgt := 18) C dL_addHall_9 (by decide) ?_
  refine V_iconst (v := nI 0) C dL_addHall_18 (by decide) ?_
  exact V_iret C .int dL_addHall_19 hr rfl ⟨rfl, hK, _, _, _, PW_o2⟩ (by omega) (by omega)
set_option maxHeartbeats 4000000 in
theorem w_addHall_bad {l : Launch} {D : va_G} {ba d : Nat} {ad : Adr} (hl : l.stackTraces = false) (hd : 10 ≤ d) {σ : CS} {tl : Int32} {t : TT} {lo : Nat → Int32} {o : Wd} (hσ : cOK σ) {f0 : Nat → Int64} (ho2 : o [2] = some (eJ 1 f0)) {x : Int32} (hin : inR x (nI 0) (nI 90) = 0)  : CT l yL_addHall (wsH yL_addHall cL_addHall 4 (some .int) [(0, 9, 12, 13), (0, 9, 15, 15)]) d 8 64 D ba [.ref (ad [0]), .int x, .ref (ad [2])] ad (PW 0 ad σ tl t lo o) (WR ad σ o 1) noX := by
  refine CT_ofH RL rfl (by decide +kernel) hl (Nat.le_of_ble_eq_true rfl) ?_
  intro p e s m args below meth c C hr hnm
  refine V_lvE (lv' := [(0, .ref (ad [0])), (1, .int x), (2, .ref (ad [2]))]) rfl ?_
  have hσ1 := hσ.1
  have hσ2 := hσ.2.1
  refine V_aload_n C dL_addHall_0 2 rfl ?_
  refine V_iconst (v := nI 0) C dL_addHall_1 (by decide) ?_
  refine V_aload_n C dL_addHall_2 0 rfl ?_
  refine V_iload_n C dL_addHall_3 1 rfl ?_
  refine V_callV (r := (RX6, TX6, 8)) C [.int x] dL_addHall_4 m_X6_addHall k_X6_addHall tw_218 rfl rfl rfl PW_b rfl rfl (Nat.le_of_ble_eq_true rfl) ⟨by omega, by omega, by omega, by omega⟩ (p_addHall_bad hl (by omega) hσ hin) kr_no (kx_XP (fun tl t lo => VX_catch C "java/lang/IllegalArgumentException" [] ⟨0, 9, 12, 13⟩ [⟨0, 9, 15, 15⟩] rfl (fun z hz => absurd hz (by simp)) rfl (by decide) tw_216 (by decide +kernel) (fun a9 => ?_)))
  refine V_astore_n C [(3, .ref a9), (0, .ref (ad [0])), (1, .int x), (2, .ref (ad [2]))] dL_addHall_12 (by decide) rfl ?_
  refine V_iconst (v := nI 1) C dL_addHall_13 (by decide) ?_
  exact V_iret C .int dL_addHall_14 hr rfl ⟨rfl, ⟨fun _ _ _ => rfl, rfl⟩, _, _, _, rfl⟩ (by omega) (by omega)
set_option maxHeartbeats 4000000 in
theorem w_addHall_full {l : Launch} {D : va_G} {ba d : Nat} {ad : Adr} (hl : l.stackTraces = false) (hd : 10 ≤ d) {σ : CS} {tl : Int32} {t : TT} {lo : Nat → Int32} {o : Wd} (hσ : cOK σ) {f0 : Nat → Int64} (ho2 : o [2] = some (eJ 1 f0)) {x : Int32} (hin : ¬ inR x (nI 0) (nI 90) = 0) (h8 : ¬ cN σ < 8)  : CT l yL_addHall (wsH yL_addHall cL_addHall 4 (some .int) [(0, 9, 12, 13), (0, 9, 15, 15)]) d 8 64 D ba [.ref (ad [0]), .int x, .ref (ad [2])] ad (PW 0 ad σ tl t lo o) (WR ad σ o 2) noX := by
  refine CT_ofH RL rfl (by decide +kernel) hl (Nat.le_of_ble_eq_true rfl) ?_
  intro p e s m args below meth c C hr hnm
  refine V_lvE (lv' := [(0, .ref (ad [0])), (1, .int x), (2, .ref (ad [2]))]) rfl ?_
  have hσ1 := hσ.1
  have hσ2 := hσ.2.1
  refine V_aload_n C dL_addHall_0 2 rfl ?_
  refine V_iconst (v := nI 0) C dL_addHall_1 (by decide) ?_
  refine V_aload_n C dL_addHall_2 0 rfl ?_
  refine V_iload_n C dL_addHall_3 1 rfl ?_
  refine V_callV (r := (RX6, TX6, 8)) C [.int x] dL_addHall_4 m_X6_addHall k_X6_addHall tw_218 rfl rfl rfl PW_b rfl rfl (Nat.le_of_ble_eq_true rfl) ⟨by omega, by omega, by omega, by omega⟩ (p_addHall_full hl (by omega) hσ hin h8) kr_no (kx_XP (fun tl t lo => VX_catch C "java/lang/IllegalStateException" [⟨0, 9, 12, 13⟩] ⟨0, 9, 15, 15⟩ [] rfl (fun z hz => by
        simp only [List.mem_cons, List.mem_nil_iff, or_false] at hz
        rcases hz with rfl
        · exact Or.inr ⟨by decide, "java/lang/IllegalArgumentException", tw_216, by decide⟩) rfl (by decide) tw_217 (by decide +kernel) (fun a9 => ?_)))
  refine V_astore_n C [(3, .ref a9), (0, .ref (ad [0])), (1, .int x), (2, .ref (ad [2]))] dL_addHall_15 (by decide) rfl ?_
  refine V_iconst (v := nI 2) C dL_addHall_16 (by decide) ?_
  exact V_iret C .int dL_addHall_17 hr rfl ⟨rfl, ⟨fun _ _ _ => rfl, rfl⟩, _, _, _, rfl⟩ (by omega) (by omega)
set_option maxHeartbeats 4000000 in
theorem w_addSurface {l : Launch} {D : va_G} {ba d : Nat} {ad : Adr} (hl : l.stackTraces = false) (hd : 10 ≤ d) {σ : CS} {tl : Int32} {t : TT} {lo : Nat → Int32} {o : Wd} (hσ : cOK σ) {f0 : Nat → Int64} (ho2 : o [2] = some (eJ 1 f0)) {j : Nat} (hj : j < cN σ) {a b : Nat} (ha : a ≤ 60) (hb : b ≤ 99) (hin1 : ¬ inR (nI a) (nI 1) (nI 60) = 0) (hin2 : ¬ inR (nI b) (nI 0) (nI 99) = 0) (h6 : hSc (cH σ j) < 6)  : CT l yL_addSurface (wsH yL_addSurface cL_addSurface 6 (some .int) [(0, 12, 15, 21), (0, 12, 19, 13), (0, 12, 23, 15)]) d 8 64 D ba [.ref (ad [0]), .int (nI j), .int (nI a), .int (nI b), .ref (ad [2])] ad (PW 0 ad σ tl t lo o) (WR ad (setH σ j (hSc (cH σ j) + 1, hDm (cH σ j), hDu (cH σ j), -1, 0, fup (hSu (cH σ j)) (hSc (cH σ j)) (b, a))) (wset o [2] (eJ 1 (vp_updL f0 0 ((nI (hSc (cH σ j)))).toInt64))) 0) noX := by
  refine CT_ofH RL rfl (by decide +kernel) hl (Nat.le_of_ble_eq_true rfl) ?_
  intro p e s m args below meth c C hr hnm
  refine V_lvE (lv' := [(0, .ref (ad [0])), (1, .int (nI j)), (2, .int (nI a)), (3, .int (nI b)), (4, .ref (ad [2]))]) rfl ?_
  have hσ1 := hσ.1
  have hσ2 := hσ.2.1
  refine V_aload C dL_addSurface_0 4 rfl ?_
  refine V_iconst (v := nI 0) C dL_addSurface_2 (by decide) ?_
  refine V_aload_n C dL_addSurface_3 0 rfl ?_
  refine V_iload_n C dL_addSurface_4 1 rfl ?_
  refine V_iload_n C dL_addSurface_5 2 rfl ?_
  refine V_iload_n C dL_addSurface_6 3 rfl ?_
  refine V_callV (r := (RX6, TX6, 8)) C [.int (nI j), .int (nI a), .int (nI b)] dL_addSurface_7 m_X6_addSurface k_X6_addSurface tw_347 rfl rfl rfl PW_b rfl rfl (Nat.le_of_ble_eq_true rfl) ⟨by omega, by omega, by omega, by omega⟩ (p_addSurface hl (by omega) hσ hj ha hb hin1 hin2 h6) (kr_RPa (x := .int (nI (hSc (cH σ j)))) (fun ad2 hK tl t lo => ?_)) kx_no
  have e2 : ad [2] = ad2 [2] := (hK.1 2 [] (by decide)).symm
  refine V_i2l C dL_addSurface_10 rfl ?_
  refine V_lastn C dL_addSurface_11 e2 (PW_2.trans ho2) (by decide) (by decide) ?_
  refine V_wd (w' := wset (PW 0 ad2 (setH σ j (hSc (cH σ j) + 1, hDm (cH σ j), hDu (cH σ j), -1, 0, fup (hSu (cH σ j)) (hSc (cH σ j)) (b, a))) tl t lo o) ([2]) (eJ 1 (vp_updL f0 0 ((nI (hSc (cH σ j))).toInt64)))) rfl ?_
  refine V_goto (tgt := 27) C dL_addSurface_12 (by decide) ?_
  refine V_iconst (v := nI 0) C dL_addSurface_27 (by decide) ?_
  exact V_iret C .int dL_addSurface_28 hr rfl ⟨rfl, hK, _, _, _, PW_o2⟩ (by omega) (by omega)
set_option maxHeartbeats 4000000 in
theorem w_addSurface_no {l : Launch} {D : va_G} {ba d : Nat} {ad : Adr} (hl : l.stackTraces = false) (hd : 10 ≤ d) {σ : CS} {tl : Int32} {t : TT} {lo : Nat → Int32} {o : Wd} (hσ : cOK σ) {f0 : Nat → Int64} (ho2 : o [2] = some (eJ 1 f0)) {x : Int32} (hx : ∀ j, j < cN σ → x ≠ nI j) (y z : Int32)  : CT l yL_addSurface (wsH yL_addSurface cL_addSurface 6 (some .int) [(0, 12, 15, 21), (0, 12, 19, 13), (0, 12, 23, 15)]) d 8 64 D ba [.ref (ad [0]), .int x, .int y, .int z, .ref (ad [2])] ad (PW 0 ad σ tl t lo o) (WR ad σ o 1) noX := by
  refine CT_ofH RL rfl (by decide +kernel) hl (Nat.le_of_ble_eq_true rfl) ?_
  intro p e s m args below meth c C hr hnm
  refine V_lvE (lv' := [(0, .ref (ad [0])), (1, .int x), (2, .int y), (3, .int z), (4, .ref (ad [2]))]) rfl ?_
  have hσ1 := hσ.1
  have hσ2 := hσ.2.1
  refine V_aload C dL_addSurface_0 4 rfl ?_
  refine V_iconst (v := nI 0) C dL_addSurface_2 (by decide) ?_
  refine V_aload_n C dL_addSurface_3 0 rfl ?_
  refine V_iload_n C dL_addSurface_4 1 rfl ?_
  refine V_iload_n C dL_addSurface_5 2 rfl ?_
  refine V_iload_n C dL_addSurface_6 3 rfl ?_
  refine V_callV (r := (RX6, TX6, 8)) C [.int x, .int y, .int z] dL_addSurface_7 m_X6_addSurface k_X6_addSurface tw_347 rfl rfl rfl PW_b rfl rfl (Nat.le_of_ble_eq_true rfl) ⟨by omega, by omega, by omega, by omega⟩ (p_addSurface_no hl (by omega) hσ hx y z) kr_no (kx_XP (fun tl t lo => VX_catch C "java/lang/IndexOutOfBoundsException" [] ⟨0, 12, 15, 21⟩ [⟨0, 12, 19, 13⟩, ⟨0, 12, 23, 15⟩] rfl (fun z hz => absurd hz (by simp)) rfl (by decide) tw_346 (by decide +kernel) (fun a9 => ?_)))
  refine V_astore C [(5, .ref a9), (0, .ref (ad [0])), (1, .int x), (2, .int y), (3, .int z), (4, .ref (ad [2]))] dL_addSurface_15 (by decide) rfl ?_
  refine V_iconst (v := nI 1) C dL_addSurface_17 (by decide) ?_
  exact V_iret C .int dL_addSurface_18 hr rfl ⟨rfl, ⟨fun _ _ _ => rfl, rfl⟩, _, _, _, rfl⟩ (by omega) (by omega)
set_option maxHeartbeats 4000000 in
theorem w_addSurface_bad {l : Launch} {D : va_G} {ba d : Nat} {ad : Adr} (hl : l.stackTraces = false) (hd : 10 ≤ d) {σ : CS} {tl : Int32} {t : TT} {lo : Nat → Int32} {o : Wd} (hσ : cOK σ) {f0 : Nat → Int64} (ho2 : o [2] = some (eJ 1 f0)) {j : Nat} (hj : j < cN σ) {y : Int32} (hin : inR y (nI 1) (nI 60) = 0) (z : Int32)  : CT l yL_addSurface (wsH yL_addSurface cL_addSurface 6 (some .int) [(0, 12, 15, 21), (0, 12, 19, 13), (0, 12, 23, 15)]) d 8 64 D ba [.ref (ad [0]), .int (nI j), .int y, .int z, .ref (ad [2])] ad (PW 0 ad σ tl t lo o) (WR ad σ o 2) noX := by
  refine CT_ofH RL rfl (by decide +kernel) hl (Nat.le_of_ble_eq_true rfl) ?_
  intro p e s m args below meth c C hr hnm
  refine V_lvE (lv' := [(0, .ref (ad [0])), (1, .int (nI j)), (2, .int y), (3, .int z), (4, .ref (ad [2]))]) rfl ?_
  have hσ1 := hσ.1
  have hσ2 := hσ.2.1
  refine V_aload C dL_addSurface_0 4 rfl ?_
  refine V_iconst (v := nI 0) C dL_addSurface_2 (by decide) ?_
  refine V_aload_n C dL_addSurface_3 0 rfl ?_
  refine V_iload_n C dL_addSurface_4 1 rfl ?_
  refine V_iload_n C dL_addSurface_5 2 rfl ?_
  refine V_iload_n C dL_addSurface_6 3 rfl ?_
  refine V_callV (r := (RX6, TX6, 8)) C [.int (nI j), .int y, .int z] dL_addSurface_7 m_X6_addSurface k_X6_addSurface tw_347 rfl rfl rfl PW_b rfl rfl (Nat.le_of_ble_eq_true rfl) ⟨by omega, by omega, by omega, by omega⟩ (p_addSurface_bad hl (by omega) hσ hj hin z) kr_no (kx_XP (fun tl t lo => VX_catch C "java/lang/IllegalArgumentException" [⟨0, 12, 15, 21⟩] ⟨0, 12, 19, 13⟩ [⟨0, 12, 23, 15⟩] rfl (fun z hz => by
        simp only [List.mem_cons, List.mem_nil_iff, or_false] at hz
        rcases hz with rfl
        · exact Or.inr ⟨by decide, "java/lang/IndexOutOfBoundsException", tw_346, by decide⟩) rfl (by decide) tw_216 (by decide +kernel) (fun a9 => ?_)))
  refine V_astore C [(5, .ref a9), (0, .ref (ad [0])), (1, .int (nI j)), (2, .int y), (3, .int z), (4, .ref (ad [2]))] dL_addSurface_19 (by decide) rfl ?_
  refine V_iconst (v := nI 2) C dL_addSurface_21 (by decide) ?_
  exact V_iret C .int dL_addSurface_22 hr rfl ⟨rfl, ⟨fun _ _ _ => rfl, rfl⟩, _, _, _, rfl⟩ (by omega) (by omega)
set_option maxHeartbeats 4000000 in
theorem w_addSurface_bad2 {l : Launch} {D : va_G} {ba d : Nat} {ad : Adr} (hl : l.stackTraces = false) (hd : 10 ≤ d) {σ : CS} {tl : Int32} {t : TT} {lo : Nat → Int32} {o : Wd} (hσ : cOK σ) {f0 : Nat → Int64} (ho2 : o [2] = some (eJ 1 f0)) {j : Nat} (hj : j < cN σ) {y z : Int32} (hin : ¬ inR y (nI 1) (nI 60) = 0) (hin2 : inR z (nI 0) (nI 99) = 0)  : CT l yL_addSurface (wsH yL_addSurface cL_addSurface 6 (some .int) [(0, 12, 15, 21), (0, 12, 19, 13), (0, 12, 23, 15)]) d 8 64 D ba [.ref (ad [0]), .int (nI j), .int y, .int z, .ref (ad [2])] ad (PW 0 ad σ tl t lo o) (WR ad σ o 2) noX := by
  refine CT_ofH RL rfl (by decide +kernel) hl (Nat.le_of_ble_eq_true rfl) ?_
  intro p e s m args below meth c C hr hnm
  refine V_lvE (lv' := [(0, .ref (ad [0])), (1, .int (nI j)), (2, .int y), (3, .int z), (4, .ref (ad [2]))]) rfl ?_
  have hσ1 := hσ.1
  have hσ2 := hσ.2.1
  refine V_aload C dL_addSurface_0 4 rfl ?_
  refine V_iconst (v := nI 0) C dL_addSurface_2 (by decide) ?_
  refine V_aload_n C dL_addSurface_3 0 rfl ?_
  refine V_iload_n C dL_addSurface_4 1 rfl ?_
  refine V_iload_n C dL_addSurface_5 2 rfl ?_
  refine V_iload_n C dL_addSurface_6 3 rfl ?_
  refine V_callV (r := (RX6, TX6, 8)) C [.int (nI j), .int y, .int z] dL_addSurface_7 m_X6_addSurface k_X6_addSurface tw_347 rfl rfl rfl PW_b rfl rfl (Nat.le_of_ble_eq_true rfl) ⟨by omega, by omega, by omega, by omega⟩ (p_addSurface_bad2 hl (by omega) hσ hj hin hin2) kr_no (kx_XP (fun tl t lo => VX_catch C "java/lang/IllegalArgumentException" [⟨0, 12, 15, 21⟩] ⟨0, 12, 19, 13⟩ [⟨0, 12, 23, 15⟩] rfl (fun z hz => by
        simp only [List.mem_cons, List.mem_nil_iff, or_false] at hz
        rcases hz with rfl
        · exact Or.inr ⟨by decide, "java/lang/IndexOutOfBoundsException", tw_346, by decide⟩) rfl (by decide) tw_216 (by decide +kernel) (fun a9 => ?_)))
  refine V_astore C [(5, .ref a9), (0, .ref (ad [0])), (1, .int (nI j)), (2, .int y), (3, .int z), (4, .ref (ad [2]))] dL_addSurface_19 (by decide) rfl ?_
  refine V_iconst (v := nI 2) C dL_addSurface_21 (by decide) ?_
  exact V_iret C .int dL_addSurface_22 hr rfl ⟨rfl, ⟨fun _ _ _ => rfl, rfl⟩, _, _, _, rfl⟩ (by omega) (by omega)
set_option maxHeartbeats 4000000 in
theorem w_addSurface_full {l : Launch} {D : va_G} {ba d : Nat} {ad : Adr} (hl : l.stackTraces = false) (hd : 10 ≤ d) {σ : CS} {tl : Int32} {t : TT} {lo : Nat → Int32} {o : Wd} (hσ : cOK σ) {f0 : Nat → Int64} (ho2 : o [2] = some (eJ 1 f0)) {j : Nat} (hj : j < cN σ) {y z : Int32} (hin : ¬ inR y (nI 1) (nI 60) = 0) (hin2 : ¬ inR z (nI 0) (nI 99) = 0) (h6 : ¬ hSc (cH σ j) < 6)  : CT l yL_addSurface (wsH yL_addSurface cL_addSurface 6 (some .int) [(0, 12, 15, 21), (0, 12, 19, 13), (0, 12, 23, 15)]) d 8 64 D ba [.ref (ad [0]), .int (nI j), .int y, .int z, .ref (ad [2])] ad (PW 0 ad σ tl t lo o) (WR ad σ o 3) noX := by
  refine CT_ofH RL rfl (by decide +kernel) hl (Nat.le_of_ble_eq_true rfl) ?_
  intro p e s m args below meth c C hr hnm
  refine V_lvE (lv' := [(0, .ref (ad [0])), (1, .int (nI j)), (2, .int y), (3, .int z), (4, .ref (ad [2]))]) rfl ?_
  have hσ1 := hσ.1
  have hσ2 := hσ.2.1
  refine V_aload C dL_addSurface_0 4 rfl ?_
  refine V_iconst (v := nI 0) C dL_addSurface_2 (by decide) ?_
  refine V_aload_n C dL_addSurface_3 0 rfl ?_
  refine V_iload_n C dL_addSurface_4 1 rfl ?_
  refine V_iload_n C dL_addSurface_5 2 rfl ?_
  refine V_iload_n C dL_addSurface_6 3 rfl ?_
  refine V_callV (r := (RX6, TX6, 8)) C [.int (nI j), .int y, .int z] dL_addSurface_7 m_X6_addSurface k_X6_addSurface tw_347 rfl rfl rfl PW_b rfl rfl (Nat.le_of_ble_eq_true rfl) ⟨by omega, by omega, by omega, by omega⟩ (p_addSurface_full hl (by omega) hσ hj hin hin2 h6) kr_no (kx_XP (fun tl t lo => VX_catch C "java/lang/IllegalStateException" [⟨0, 12, 15, 21⟩, ⟨0, 12, 19, 13⟩] ⟨0, 12, 23, 15⟩ [] rfl (fun z hz => by
        simp only [List.mem_cons, List.mem_nil_iff, or_false] at hz
        rcases hz with rfl | rfl
        · exact Or.inr ⟨by decide, "java/lang/IndexOutOfBoundsException", tw_346, by decide⟩
        · exact Or.inr ⟨by decide, "java/lang/IllegalArgumentException", tw_216, by decide⟩) rfl (by decide) tw_217 (by decide +kernel) (fun a9 => ?_)))
  refine V_astore C [(5, .ref a9), (0, .ref (ad [0])), (1, .int (nI j)), (2, .int y), (3, .int z), (4, .ref (ad [2]))] dL_addSurface_23 (by decide) rfl ?_
  refine V_iconst (v := nI 3) C dL_addSurface_25 (by decide) ?_
  exact V_iret C .int dL_addSurface_26 hr rfl ⟨rfl, ⟨fun _ _ _ => rfl, rfl⟩, _, _, _, rfl⟩ (by omega) (by omega)
set_option maxHeartbeats 4000000 in
theorem w_moveSurface {l : Launch} {D : va_G} {ba d : Nat} {ad : Adr} (hl : l.stackTraces = false) (hd : 10 ≤ d) {σ : CS} {tl : Int32} {t : TT} {lo : Nat → Int32} {o : Wd} (hσ : cOK σ) {f0 : Nat → Int64} (ho2 : o [2] = some (eJ 1 f0)) {j : Nat} (hj : j < cN σ) {k : Nat} (hk : k < hSc (cH σ j)) {v : Nat} (hv : v ≤ 60) (hin : ¬ inR (nI v) (nI 1) (nI 60) = 0)  : CT l yL_moveSurface (wsH yL_moveSurface cL_moveSurface 6 (some .int) [(0, 12, 15, 21), (0, 12, 19, 13)]) d 8 64 D ba [.ref (ad [0]), .int (nI j), .int (nI k), .int (nI v), .ref (ad [2])] ad (PW 0 ad σ tl t lo o) (WR ad (setH σ j (hSc (cH σ j), hDm (cH σ j), hDu (cH σ j), -1, 0, fup (hSu (cH σ j)) k ((hSu (cH σ j) k).1, v))) (wset o [2] (eJ 1 (vp_updL f0 0 ((nI ((hSu (cH σ j) k).2))).toInt64))) 0) noX := by
  refine CT_ofH RL rfl (by decide +kernel) hl (Nat.le_of_ble_eq_true rfl) ?_
  intro p e s m args below meth c C hr hnm
  refine V_lvE (lv' := [(0, .ref (ad [0])), (1, .int (nI j)), (2, .int (nI k)), (3, .int (nI v)), (4, .ref (ad [2]))]) rfl ?_
  have hσ1 := hσ.1
  have hσ2 := hσ.2.1
  refine V_aload C dL_moveSurface_0 4 rfl ?_
  refine V_iconst (v := nI 0) C dL_moveSurface_2 (by decide) ?_
  refine V_aload_n C dL_moveSurface_3 0 rfl ?_
  refine V_iload_n C dL_moveSurface_4 1 rfl ?_
  refine V_iload_n C dL_moveSurface_5 2 rfl ?_
  refine V_iload_n C dL_moveSurface_6 3 rfl ?_
  refine V_callV (r := (RX6, TX6, 8)) C [.int (nI j), .int (nI k), .int (nI v)] dL_moveSurface_7 m_X6_moveSurface k_X6_moveSurface tw_406 rfl rfl rfl PW_b rfl rfl (Nat.le_of_ble_eq_true rfl) ⟨by omega, by omega, by omega, by omega⟩ (p_move hl (by omega) hσ hj hk hv hin) (kr_RP (x := .int (nI ((hSu (cH σ j) k).2))) (fun tl t lo => ?_)) kx_no
  refine V_i2l C dL_moveSurface_10 rfl ?_
  refine V_lastn C dL_moveSurface_11 rfl (PW_2.trans ho2) (by decide) (by decide) ?_
  refine V_wd (w' := wset (PW 0 ad (setH σ j (hSc (cH σ j), hDm (cH σ j), hDu (cH σ j), -1, 0, fup (hSu (cH σ j)) k ((hSu (cH σ j) k).1, v))) tl t lo o) ([2]) (eJ 1 (vp_updL f0 0 ((nI ((hSu (cH σ j) k).2)).toInt64)))) rfl ?_
  refine V_goto (tgt := 23) C dL_moveSurface_12 (by decide) ?_
  refine V_iconst (v := nI 0) C dL_moveSurface_23 (by decide) ?_
  exact V_iret C .int dL_moveSurface_24 hr rfl ⟨rfl, ⟨fun _ _ _ => rfl, rfl⟩, _, _, _, PW_o2⟩ (by omega) (by omega)
set_option maxHeartbeats 4000000 in
theorem w_moveSurface_no {l : Launch} {D : va_G} {ba d : Nat} {ad : Adr} (hl : l.stackTraces = false) (hd : 9 ≤ d) {σ : CS} {tl : Int32} {t : TT} {lo : Nat → Int32} {o : Wd} (hσ : cOK σ) {f0 : Nat → Int64} (ho2 : o [2] = some (eJ 1 f0)) {x : Int32} (hx : ∀ j, j < cN σ → x ≠ nI j) (y z : Int32)  : CT l yL_moveSurface (wsH yL_moveSurface cL_moveSurface 6 (some .int) [(0, 12, 15, 21), (0, 12, 19, 13)]) d 8 64 D ba [.ref (ad [0]), .int x, .int y, .int z, .ref (ad [2])] ad (PW 0 ad σ tl t lo o) (WR ad σ o 1) noX := by
  refine CT_ofH RL rfl (by decide +kernel) hl (Nat.le_of_ble_eq_true rfl) ?_
  intro p e s m args below meth c C hr hnm
  refine V_lvE (lv' := [(0, .ref (ad [0])), (1, .int x), (2, .int y), (3, .int z), (4, .ref (ad [2]))]) rfl ?_
  have hσ1 := hσ.1
  have hσ2 := hσ.2.1
  refine V_aload C dL_moveSurface_0 4 rfl ?_
  refine V_iconst (v := nI 0) C dL_moveSurface_2 (by decide) ?_
  refine V_aload_n C dL_moveSurface_3 0 rfl ?_
  refine V_iload_n C dL_moveSurface_4 1 rfl ?_
  refine V_iload_n C dL_moveSurface_5 2 rfl ?_
  refine V_iload_n C dL_moveSurface_6 3 rfl ?_
  refine V_callV (r := (RX6, TX6, 8)) C [.int x, .int y, .int z] dL_moveSurface_7 m_X6_moveSurface k_X6_moveSurface tw_406 rfl rfl rfl PW_b rfl rfl (Nat.le_of_ble_eq_true rfl) ⟨by omega, by omega, by omega, by omega⟩ (p_move_no hl (by omega) hσ hx y z) kr_no (kx_XP (fun tl t lo => VX_catch C "java/lang/IndexOutOfBoundsException" [] ⟨0, 12, 15, 21⟩ [⟨0, 12, 19, 13⟩] rfl (fun z hz => absurd hz (by simp)) rfl (by decide) tw_346 (by decide +kernel) (fun a9 => ?_)))
  refine V_astore C [(5, .ref a9), (0, .ref (ad [0])), (1, .int x), (2, .int y), (3, .int z), (4, .ref (ad [2]))] dL_moveSurface_15 (by decide) rfl ?_
  refine V_iconst (v := nI 1) C dL_moveSurface_17 (by decide) ?_
  exact V_iret C .int dL_moveSurface_18 hr rfl ⟨rfl, ⟨fun _ _ _ => rfl, rfl⟩, _, _, _, rfl⟩ (by omega) (by omega)
set_option maxHeartbeats 4000000 in
theorem w_moveSurface_no2 {l : Launch} {D : va_G} {ba d : Nat} {ad : Adr} (hl : l.stackTraces = false) (hd : 9 ≤ d) {σ : CS} {tl : Int32} {t : TT} {lo : Nat → Int32} {o : Wd} (hσ : cOK σ) {f0 : Nat → Int64} (ho2 : o [2] = some (eJ 1 f0)) {j : Nat} (hj : j < cN σ) {x2 : Int32} (hx2 : ∀ k, k < hSc (cH σ j) → x2 ≠ nI k) (z : Int32)  : CT l yL_moveSurface (wsH yL_moveSurface cL_moveSurface 6 (some .int) [(0, 12, 15, 21), (0, 12, 19, 13)]) d 8 64 D ba [.ref (ad [0]), .int (nI j), .int x2, .int z, .ref (ad [2])] ad (PW 0 ad σ tl t lo o) (WR ad σ o 1) noX := by
  refine CT_ofH RL rfl (by decide +kernel) hl (Nat.le_of_ble_eq_true rfl) ?_
  intro p e s m args below meth c C hr hnm
  refine V_lvE (lv' := [(0, .ref (ad [0])), (1, .int (nI j)), (2, .int x2), (3, .int z), (4, .ref (ad [2]))]) rfl ?_
  have hσ1 := hσ.1
  have hσ2 := hσ.2.1
  refine V_aload C dL_moveSurface_0 4 rfl ?_
  refine V_iconst (v := nI 0) C dL_moveSurface_2 (by decide) ?_
  refine V_aload_n C dL_moveSurface_3 0 rfl ?_
  refine V_iload_n C dL_moveSurface_4 1 rfl ?_
  refine V_iload_n C dL_moveSurface_5 2 rfl ?_
  refine V_iload_n C dL_moveSurface_6 3 rfl ?_
  refine V_callV (r := (RX6, TX6, 8)) C [.int (nI j), .int x2, .int z] dL_moveSurface_7 m_X6_moveSurface k_X6_moveSurface tw_406 rfl rfl rfl PW_b rfl rfl (Nat.le_of_ble_eq_true rfl) ⟨by omega, by omega, by omega, by omega⟩ (p_move_no2 hl (by omega) hσ hj hx2 z) kr_no (kx_XP (fun tl t lo => VX_catch C "java/lang/IndexOutOfBoundsException" [] ⟨0, 12, 15, 21⟩ [⟨0, 12, 19, 13⟩] rfl (fun z hz => absurd hz (by simp)) rfl (by decide) tw_346 (by decide +kernel) (fun a9 => ?_)))
  refine V_astore C [(5, .ref a9), (0, .ref (ad [0])), (1, .int (nI j)), (2, .int x2), (3, .int z), (4, .ref (ad [2]))] dL_moveSurface_15 (by decide) rfl ?_
  refine V_iconst (v := nI 1) C dL_moveSurface_17 (by decide) ?_
  exact V_iret C .int dL_moveSurface_18 hr rfl ⟨rfl, ⟨fun _ _ _ => rfl, rfl⟩, _, _, _, rfl⟩ (by omega) (by omega)
set_option maxHeartbeats 4000000 in
theorem w_moveSurface_bad {l : Launch} {D : va_G} {ba d : Nat} {ad : Adr} (hl : l.stackTraces = false) (hd : 10 ≤ d) {σ : CS} {tl : Int32} {t : TT} {lo : Nat → Int32} {o : Wd} (hσ : cOK σ) {f0 : Nat → Int64} (ho2 : o [2] = some (eJ 1 f0)) {j : Nat} (hj : j < cN σ) {k : Nat} (hk : k < hSc (cH σ j)) {y : Int32} (hin : inR y (nI 1) (nI 60) = 0)  : CT l yL_moveSurface (wsH yL_moveSurface cL_moveSurface 6 (some .int) [(0, 12, 15, 21), (0, 12, 19, 13)]) d 8 64 D ba [.ref (ad [0]), .int (nI j), .int (nI k), .int y, .ref (ad [2])] ad (PW 0 ad σ tl t lo o) (WR ad σ o 2) noX := by
  refine CT_ofH RL rfl (by decide +kernel) hl (Nat.le_of_ble_eq_true rfl) ?_
  intro p e s m args below meth c C hr hnm
  refine V_lvE (lv' := [(0, .ref (ad [0])), (1, .int (nI j)), (2, .int (nI k)), (3, .int y), (4, .ref (ad [2]))]) rfl ?_
  have hσ1 := hσ.1
  have hσ2 := hσ.2.1
  refine V_aload C dL_moveSurface_0 4 rfl ?_
  refine V_iconst (v := nI 0) C dL_moveSurface_2 (by decide) ?_
  refine V_aload_n C dL_moveSurface_3 0 rfl ?_
  refine V_iload_n C dL_moveSurface_4 1 rfl ?_
  refine V_iload_n C dL_moveSurface_5 2 rfl ?_
  refine V_iload_n C dL_moveSurface_6 3 rfl ?_
  refine V_callV (r := (RX6, TX6, 8)) C [.int (nI j), .int (nI k), .int y] dL_moveSurface_7 m_X6_moveSurface k_X6_moveSurface tw_406 rfl rfl rfl PW_b rfl rfl (Nat.le_of_ble_eq_true rfl) ⟨by omega, by omega, by omega, by omega⟩ (p_move_bad hl (by omega) hσ hj hk hin) kr_no (kx_XP (fun tl t lo => VX_catch C "java/lang/IllegalArgumentException" [⟨0, 12, 15, 21⟩] ⟨0, 12, 19, 13⟩ [] rfl (fun z hz => by
        simp only [List.mem_cons, List.mem_nil_iff, or_false] at hz
        rcases hz with rfl
        · exact Or.inr ⟨by decide, "java/lang/IndexOutOfBoundsException", tw_346, by decide⟩) rfl (by decide) tw_216 (by decide +kernel) (fun a9 => ?_)))
  refine V_astore C [(5, .ref a9), (0, .ref (ad [0])), (1, .int (nI j)), (2, .int (nI k)), (3, .int y), (4, .ref (ad [2]))] dL_moveSurface_19 (by decide) rfl ?_
  refine V_iconst (v := nI 2) C dL_moveSurface_21 (by decide) ?_
  exact V_iret C .int dL_moveSurface_22 hr rfl ⟨rfl, ⟨fun _ _ _ => rfl, rfl⟩, _, _, _, rfl⟩ (by omega) (by omega)
set_option maxHeartbeats 4000000 in
theorem w_setDamping {l : Launch} {D : va_G} {ba d : Nat} {ad : Adr} (hl : l.stackTraces = false) (hd : 10 ≤ d) {σ : CS} {tl : Int32} {t : TT} {lo : Nat → Int32} {o : Wd} (hσ : cOK σ) {f0 : Nat → Int64} (ho2 : o [2] = some (eJ 1 f0)) {j : Nat} (hj : j < cN σ) {v : Nat} (hv : v ≤ 90) (hin : ¬ inR (nI v) (nI 0) (nI 90) = 0)  : CT l yL_setDamping (wsH yL_setDamping cL_setDamping 5 (some .int) [(0, 10, 13, 21), (0, 10, 17, 13)]) d 8 64 D ba [.ref (ad [0]), .int (nI j), .int (nI v), .ref (ad [2])] ad (PW 0 ad σ tl t lo o) (WR ad (setH σ j (hSc (cH σ j), v, hDu (cH σ j), -1, 0, hSu (cH σ j))) (wset o [2] (eJ 1 (vp_updL f0 0 ((nI (hDm (cH σ j)))).toInt64))) 0) noX := by
  refine CT_ofH RL rfl (by decide +kernel) hl (Nat.le_of_ble_eq_true rfl) ?_
  intro p e s m args below meth c C hr hnm
  refine V_lvE (lv' := [(0, .ref (ad [0])), (1, .int (nI j)), (2, .int (nI v)), (3, .ref (ad [2]))]) rfl ?_
  have hσ1 := hσ.1
  have hσ2 := hσ.2.1
  refine V_aload_n C dL_setDamping_0 3 rfl ?_
  refine V_iconst (v := nI 0) C dL_setDamping_1 (by decide) ?_
  refine V_aload_n C dL_setDamping_2 0 rfl ?_
  refine V_iload_n C dL_setDamping_3 1 rfl ?_
  refine V_iload_n C dL_setDamping_4 2 rfl ?_
  refine V_callV (r := (RX6, TX6, 8)) C [.int (nI j), .int (nI v)] dL_setDamping_5 m_X6_setDamping k_X6_setDamping tw_418 rfl rfl rfl PW_b rfl rfl (Nat.le_of_ble_eq_true rfl) ⟨by omega, by omega, by omega, by omega⟩ (p_setDamping hl (by omega) hσ hj hv hin) (kr_RP (x := .int (nI (hDm (cH σ j)))) (fun tl t lo => ?_)) kx_no
  refine V_i2l C dL_setDamping_8 rfl ?_
  refine V_lastn C dL_setDamping_9 rfl (PW_2.trans ho2) (by decide) (by decide) ?_
  refine V_wd (w' := wset (PW 0 ad (setH σ j (hSc (cH σ j), v, hDu (cH σ j), -1, 0, hSu (cH σ j))) tl t lo o) ([2]) (eJ 1 (vp_updL f0 0 ((nI (hDm (cH σ j))).toInt64)))) rfl ?_
  refine V_goto (tgt := 21) C dL_setDamping_10 (by decide) ?_
  refine V_iconst (v := nI 0) C dL_setDamping_21 (by decide) ?_
  exact V_iret C .int dL_setDamping_22 hr rfl ⟨rfl, ⟨fun _ _ _ => rfl, rfl⟩, _, _, _, PW_o2⟩ (by omega) (by omega)
set_option maxHeartbeats 4000000 in
theorem w_setDamping_no {l : Launch} {D : va_G} {ba d : Nat} {ad : Adr} (hl : l.stackTraces = false) (hd : 9 ≤ d) {σ : CS} {tl : Int32} {t : TT} {lo : Nat → Int32} {o : Wd} (hσ : cOK σ) {f0 : Nat → Int64} (ho2 : o [2] = some (eJ 1 f0)) {x : Int32} (hx : ∀ j, j < cN σ → x ≠ nI j) (y : Int32)  : CT l yL_setDamping (wsH yL_setDamping cL_setDamping 5 (some .int) [(0, 10, 13, 21), (0, 10, 17, 13)]) d 8 64 D ba [.ref (ad [0]), .int x, .int y, .ref (ad [2])] ad (PW 0 ad σ tl t lo o) (WR ad σ o 1) noX := by
  refine CT_ofH RL rfl (by decide +kernel) hl (Nat.le_of_ble_eq_true rfl) ?_
  intro p e s m args below meth c C hr hnm
  refine V_lvE (lv' := [(0, .ref (ad [0])), (1, .int x), (2, .int y), (3, .ref (ad [2]))]) rfl ?_
  have hσ1 := hσ.1
  have hσ2 := hσ.2.1
  refine V_aload_n C dL_setDamping_0 3 rfl ?_
  refine V_iconst (v := nI 0) C dL_setDamping_1 (by decide) ?_
  refine V_aload_n C dL_setDamping_2 0 rfl ?_
  refine V_iload_n C dL_setDamping_3 1 rfl ?_
  refine V_iload_n C dL_setDamping_4 2 rfl ?_
  refine V_callV (r := (RX6, TX6, 8)) C [.int x, .int y] dL_setDamping_5 m_X6_setDamping k_X6_setDamping tw_418 rfl rfl rfl PW_b rfl rfl (Nat.le_of_ble_eq_true rfl) ⟨by omega, by omega, by omega, by omega⟩ (p_setDamping_no hl (by omega) hσ hx y) kr_no (kx_XP (fun tl t lo => VX_catch C "java/lang/IndexOutOfBoundsException" [] ⟨0, 10, 13, 21⟩ [⟨0, 10, 17, 13⟩] rfl (fun z hz => absurd hz (by simp)) rfl (by decide) tw_346 (by decide +kernel) (fun a9 => ?_)))
  refine V_astore C [(4, .ref a9), (0, .ref (ad [0])), (1, .int x), (2, .int y), (3, .ref (ad [2]))] dL_setDamping_13 (by decide) rfl ?_
  refine V_iconst (v := nI 1) C dL_setDamping_15 (by decide) ?_
  exact V_iret C .int dL_setDamping_16 hr rfl ⟨rfl, ⟨fun _ _ _ => rfl, rfl⟩, _, _, _, rfl⟩ (by omega) (by omega)
set_option maxHeartbeats 4000000 in
theorem w_setDamping_bad {l : Launch} {D : va_G} {ba d : Nat} {ad : Adr} (hl : l.stackTraces = false) (hd : 10 ≤ d) {σ : CS} {tl : Int32} {t : TT} {lo : Nat → Int32} {o : Wd} (hσ : cOK σ) {f0 : Nat → Int64} (ho2 : o [2] = some (eJ 1 f0)) {j : Nat} (hj : j < cN σ) {y : Int32} (hin : inR y (nI 0) (nI 90) = 0)  : CT l yL_setDamping (wsH yL_setDamping cL_setDamping 5 (some .int) [(0, 10, 13, 21), (0, 10, 17, 13)]) d 8 64 D ba [.ref (ad [0]), .int (nI j), .int y, .ref (ad [2])] ad (PW 0 ad σ tl t lo o) (WR ad σ o 2) noX := by
  refine CT_ofH RL rfl (by decide +kernel) hl (Nat.le_of_ble_eq_true rfl) ?_
  intro p e s m args below meth c C hr hnm
  refine V_lvE (lv' := [(0, .ref (ad [0])), (1, .int (nI j)), (2, .int y), (3, .ref (ad [2]))]) rfl ?_
  have hσ1 := hσ.1
  have hσ2 := hσ.2.1
  refine V_aload_n C dL_setDamping_0 3 rfl ?_
  refine V_iconst (v := nI 0) C dL_setDamping_1 (by decide) ?_
  refine V_aload_n C dL_setDamping_2 0 rfl ?_
  refine V_iload_n C dL_setDamping_3 1 rfl ?_
  refine V_iload_n C dL_setDamping_4 2 rfl ?_
  refine V_callV (r := (RX6, TX6, 8)) C [.int (nI j), .int y] dL_setDamping_5 m_X6_setDamping k_X6_setDamping tw_418 rfl rfl rfl PW_b rfl rfl (Nat.le_of_ble_eq_true rfl) ⟨by omega, by omega, by omega, by omega⟩ (p_setDamping_bad hl (by omega) hσ hj hin) kr_no (kx_XP (fun tl t lo => VX_catch C "java/lang/IllegalArgumentException" [⟨0, 10, 13, 21⟩] ⟨0, 10, 17, 13⟩ [] rfl (fun z hz => by
        simp only [List.mem_cons, List.mem_nil_iff, or_false] at hz
        rcases hz with rfl
        · exact Or.inr ⟨by decide, "java/lang/IndexOutOfBoundsException", tw_346, by decide⟩) rfl (by decide) tw_216 (by decide +kernel) (fun a9 => ?_)))
  refine V_astore C [(4, .ref a9), (0, .ref (ad [0])), (1, .int (nI j)), (2, .int y), (3, .ref (ad [2]))] dL_setDamping_17 (by decide) rfl ?_
  refine V_iconst (v := nI 2) C dL_setDamping_19 (by decide) ?_
  exact V_iret C .int dL_setDamping_20 hr rfl ⟨rfl, ⟨fun _ _ _ => rfl, rfl⟩, _, _, _, rfl⟩ (by omega) (by omega)
set_option maxHeartbeats 4000000 in
theorem w_clean {l : Launch} {D : va_G} {ba d : Nat} {ad : Adr} (hl : l.stackTraces = false) (hd : 9 ≤ d) {σ : CS} {tl : Int32} {t : TT} {lo : Nat → Int32} {o : Wd} (hσ : cOK σ) {f0 : Nat → Int64} (ho2 : o [2] = some (eJ 1 f0)) {j : Nat} (hj : j < cN σ)  : CT l yL_clean (wsH yL_clean cL_clean 4 (some .int) [(0, 9, 12, 21)]) d 8 64 D ba [.ref (ad [0]), .int (nI j), .ref (ad [2])] ad (PW 0 ad σ tl t lo o) (WR ad (setH σ j (hSc (cH σ j), hDm (cH σ j), 0, hCe (cH σ j), hDy (cH σ j), hSu (cH σ j))) (wset o [2] (eJ 1 (vp_updL f0 0 ((nI (hDu (cH σ j)))).toInt64))) 0) noX := by
  refine CT_ofH RL rfl (by decide +kernel) hl (Nat.le_of_ble_eq_true rfl) ?_
  intro p e s m args below meth c C hr hnm
  refine V_lvE (lv' := [(0, .ref (ad [0])), (1, .int (nI j)), (2, .ref (ad [2]))]) rfl ?_
  have hσ1 := hσ.1
  have hσ2 := hσ.2.1
  refine V_aload_n C dL_clean_0 2 rfl ?_
  refine V_iconst (v := nI 0) C dL_clean_1 (by decide) ?_
  refine V_aload_n C dL_clean_2 0 rfl ?_
  refine V_iload_n C dL_clean_3 1 rfl ?_
  refine V_callV (r := (RX6, TX6, 8)) C [.int (nI j)] dL_clean_4 m_X6_clean k_X6_clean tw_425 rfl rfl rfl PW_b rfl rfl (Nat.le_of_ble_eq_true rfl) ⟨by omega, by omega, by omega, by omega⟩ (p_clean hl (by omega) hσ hj) (kr_RP (x := .int (nI (hDu (cH σ j)))) (fun tl t lo => ?_)) kx_no
  refine V_i2l C dL_clean_7 rfl ?_
  refine V_lastn C dL_clean_8 rfl (PW_2.trans ho2) (by decide) (by decide) ?_
  refine V_wd (w' := wset (PW 0 ad (setH σ j (hSc (cH σ j), hDm (cH σ j), 0, hCe (cH σ j), hDy (cH σ j), hSu (cH σ j))) tl t lo o) ([2]) (eJ 1 (vp_updL f0 0 ((nI (hDu (cH σ j))).toInt64)))) rfl ?_
  refine V_goto (tgt := 15) C dL_clean_9 (by decide) ?_
  refine V_iconst (v := nI 0) C dL_clean_15 (by decide) ?_
  exact V_iret C .int dL_clean_16 hr rfl ⟨rfl, ⟨fun _ _ _ => rfl, rfl⟩, _, _, _, PW_o2⟩ (by omega) (by omega)
set_option maxHeartbeats 4000000 in
theorem w_clean_no {l : Launch} {D : va_G} {ba d : Nat} {ad : Adr} (hl : l.stackTraces = false) (hd : 9 ≤ d) {σ : CS} {tl : Int32} {t : TT} {lo : Nat → Int32} {o : Wd} (hσ : cOK σ) {f0 : Nat → Int64} (ho2 : o [2] = some (eJ 1 f0)) {x : Int32} (hx : ∀ j, j < cN σ → x ≠ nI j)  : CT l yL_clean (wsH yL_clean cL_clean 4 (some .int) [(0, 9, 12, 21)]) d 8 64 D ba [.ref (ad [0]), .int x, .ref (ad [2])] ad (PW 0 ad σ tl t lo o) (WR ad σ o 1) noX := by
  refine CT_ofH RL rfl (by decide +kernel) hl (Nat.le_of_ble_eq_true rfl) ?_
  intro p e s m args below meth c C hr hnm
  refine V_lvE (lv' := [(0, .ref (ad [0])), (1, .int x), (2, .ref (ad [2]))]) rfl ?_
  have hσ1 := hσ.1
  have hσ2 := hσ.2.1
  refine V_aload_n C dL_clean_0 2 rfl ?_
  refine V_iconst (v := nI 0) C dL_clean_1 (by decide) ?_
  refine V_aload_n C dL_clean_2 0 rfl ?_
  refine V_iload_n C dL_clean_3 1 rfl ?_
  refine V_callV (r := (RX6, TX6, 8)) C [.int x] dL_clean_4 m_X6_clean k_X6_clean tw_425 rfl rfl rfl PW_b rfl rfl (Nat.le_of_ble_eq_true rfl) ⟨by omega, by omega, by omega, by omega⟩ (p_clean_no hl (by omega) hσ hx) kr_no (kx_XP (fun tl t lo => VX_catch C "java/lang/IndexOutOfBoundsException" [] ⟨0, 9, 12, 21⟩ [] rfl (fun z hz => absurd hz (by simp)) rfl (by decide) tw_346 (by decide +kernel) (fun a9 => ?_)))
  refine V_astore_n C [(3, .ref a9), (0, .ref (ad [0])), (1, .int x), (2, .ref (ad [2]))] dL_clean_12 (by decide) rfl ?_
  refine V_iconst (v := nI 1) C dL_clean_13 (by decide) ?_
  exact V_iret C .int dL_clean_14 hr rfl ⟨rfl, ⟨fun _ _ _ => rfl, rfl⟩, _, _, _, rfl⟩ (by omega) (by omega)
set_option maxHeartbeats 4000000 in
theorem w_addStandard {l : Launch} {D : va_G} {ba d : Nat} {ad : Adr} (hl : l.stackTraces = false) (hd : 10 ≤ d) {σ : CS} {tl : Int32} {t : TT} {lo : Nat → Int32} {o : Wd} (hσ : cOK σ) {f0 : Nat → Int64} (ho2 : o [2] = some (eJ 1 f0)) {ea li mo lt dy : Nat} (h_ea : ea ≤ 500) (h_li : li ≤ 1000) (h_mo : mo ≤ 99) (h_lt : lt ≤ 3000) (h_dy : dy ≤ 100) (g_ea : ¬ inR (nI ea) (nI 0) (nI 500) = 0) (g_li : ¬ inR (nI li) (nI 1) (nI 1000) = 0) (g_mo : ¬ inR (nI mo) (nI 0) (nI 99) = 0) (g_lt : ¬ inR (nI lt) (nI 0) (nI 3000) = 0) (g_dy : ¬ inR (nI dy) (nI 1) (nI 100) = 0) (h5 : cK σ < 5)  : CT l yL_addStandard (wsH yL_addStandard cL_addStandard 8 (some .int) [(0, 16, 19, 13), (0, 16, 23, 15)]) d 8 64 D ba [.ref (ad [0]), .int (nI ea), .int (nI li), .int (nI mo), .int (nI lt), .int (nI dy), .ref (ad [2])] ad (PW 0 ad σ tl t lo o) (WR ad (addD σ (ea, li, mo, lt, dy)) (wset o [2] (eJ 1 (vp_updL f0 0 ((nI (cK σ))).toInt64))) 0) noX := by
  refine CT_ofH RL rfl (by decide +kernel) hl (Nat.le_of_ble_eq_true rfl) ?_
  intro p e s m args below meth c C hr hnm
  refine V_lvE (lv' := [(0, .ref (ad [0])), (1, .int (nI ea)), (2, .int (nI li)), (3, .int (nI mo)), (4, .int (nI lt)), (5, .int (nI dy)), (6, .ref (ad [2]))]) rfl ?_
  have hσ1 := hσ.1
  have hσ2 := hσ.2.1
  refine V_aload C dL_addStandard_0 6 rfl ?_
  refine V_iconst (v := nI 0) C dL_addStandard_2 (by decide) ?_
  refine V_aload_n C dL_addStandard_3 0 rfl ?_
  refine V_iload_n C dL_addStandard_4 1 rfl ?_
  refine V_iload_n C dL_addStandard_5 2 rfl ?_
  refine V_iload_n C dL_addStandard_6 3 rfl ?_
  refine V_iload C dL_addStandard_7 4 rfl ?_
  refine V_iload C dL_addStandard_9 5 rfl ?_
  refine V_callV (r := (RX6, TX6, 8)) C [.int (nI ea), .int (nI li), .int (nI mo), .int (nI lt), .int (nI dy)] dL_addStandard_11 m_X6_addStandard k_X6_addStandard tw_432 rfl rfl rfl PW_b rfl rfl (Nat.le_of_ble_eq_true rfl) ⟨by omega, by omega, by omega, by omega⟩ (p_addStd hl (by omega) hσ h_ea h_li h_mo h_lt h_dy g_ea g_li g_mo g_lt g_dy h5) (kr_RPa (x := .int (nI (cK σ))) (fun ad2 hK tl t lo => ?_)) kx_no
  have e2 : ad [2] = ad2 [2] := (hK.1 2 [] (by decide)).symm
  refine V_i2l C dL_addStandard_14 rfl ?_
  refine V_lastn C dL_addStandard_15 e2 (PW_2.trans ho2) (by decide) (by decide) ?_
  refine V_wd (w' := wset (PW 0 ad2 (addD σ (ea, li, mo, lt, dy)) tl t lo o) ([2]) (eJ 1 (vp_updL f0 0 ((nI (cK σ)).toInt64)))) rfl ?_
  refine V_goto (tgt := 27) C dL_addStandard_16 (by decide) ?_
  refine V_iconst (v := nI 0) C dL_addStandard_27 (by decide) ?_
  exact V_iret C .int dL_addStandard_28 hr rfl ⟨rfl, hK, _, _, _, PW_o2⟩ (by omega) (by omega)
set_option maxHeartbeats 4000000 in
theorem w_addStandard_bad {l : Launch} {D : va_G} {ba d : Nat} {ad : Adr} (hl : l.stackTraces = false) (hd : 10 ≤ d) {σ : CS} {tl : Int32} {t : TT} {lo : Nat → Int32} {o : Wd} (hσ : cOK σ) {f0 : Nat → Int64} (ho2 : o [2] = some (eJ 1 f0)) {ea li mo lt dy : Int32} (hin : inR ea (nI 0) (nI 500) = 0 ∨ inR li (nI 1) (nI 1000) = 0 ∨ inR mo (nI 0) (nI 99) = 0 ∨ inR lt (nI 0) (nI 3000) = 0 ∨ inR dy (nI 1) (nI 100) = 0)  : CT l yL_addStandard (wsH yL_addStandard cL_addStandard 8 (some .int) [(0, 16, 19, 13), (0, 16, 23, 15)]) d 8 64 D ba [.ref (ad [0]), .int ea, .int li, .int mo, .int lt, .int dy, .ref (ad [2])] ad (PW 0 ad σ tl t lo o) (WR ad σ o 1) noX := by
  refine CT_ofH RL rfl (by decide +kernel) hl (Nat.le_of_ble_eq_true rfl) ?_
  intro p e s m args below meth c C hr hnm
  refine V_lvE (lv' := [(0, .ref (ad [0])), (1, .int ea), (2, .int li), (3, .int mo), (4, .int lt), (5, .int dy), (6, .ref (ad [2]))]) rfl ?_
  have hσ1 := hσ.1
  have hσ2 := hσ.2.1
  refine V_aload C dL_addStandard_0 6 rfl ?_
  refine V_iconst (v := nI 0) C dL_addStandard_2 (by decide) ?_
  refine V_aload_n C dL_addStandard_3 0 rfl ?_
  refine V_iload_n C dL_addStandard_4 1 rfl ?_
  refine V_iload_n C dL_addStandard_5 2 rfl ?_
  refine V_iload_n C dL_addStandard_6 3 rfl ?_
  refine V_iload C dL_addStandard_7 4 rfl ?_
  refine V_iload C dL_addStandard_9 5 rfl ?_
  refine V_callV (r := (RX6, TX6, 8)) C [.int ea, .int li, .int mo, .int lt, .int dy] dL_addStandard_11 m_X6_addStandard k_X6_addStandard tw_432 rfl rfl rfl PW_b rfl rfl (Nat.le_of_ble_eq_true rfl) ⟨by omega, by omega, by omega, by omega⟩ (p_addStd_bad hl (by omega) hσ hin) kr_no (kx_XP (fun tl t lo => VX_catch C "java/lang/IllegalArgumentException" [] ⟨0, 16, 19, 13⟩ [⟨0, 16, 23, 15⟩] rfl (fun z hz => absurd hz (by simp)) rfl (by decide) tw_216 (by decide +kernel) (fun a9 => ?_)))
  refine V_astore C [(7, .ref a9), (0, .ref (ad [0])), (1, .int ea), (2, .int li), (3, .int mo), (4, .int lt), (5, .int dy), (6, .ref (ad [2]))] dL_addStandard_19 (by decide) rfl ?_
  refine V_iconst (v := nI 1) C dL_addStandard_21 (by decide) ?_
  exact V_iret C .int dL_addStandard_22 hr rfl ⟨rfl, ⟨fun _ _ _ => rfl, rfl⟩, _, _, _, rfl⟩ (by omega) (by omega)
set_option maxHeartbeats 4000000 in
theorem w_addStandard_full {l : Launch} {D : va_G} {ba d : Nat} {ad : Adr} (hl : l.stackTraces = false) (hd : 10 ≤ d) {σ : CS} {tl : Int32} {t : TT} {lo : Nat → Int32} {o : Wd} (hσ : cOK σ) {f0 : Nat → Int64} (ho2 : o [2] = some (eJ 1 f0)) {ea li mo lt dy : Int32} (g_ea : ¬ inR ea (nI 0) (nI 500) = 0) (g_li : ¬ inR li (nI 1) (nI 1000) = 0) (g_mo : ¬ inR mo (nI 0) (nI 99) = 0) (g_lt : ¬ inR lt (nI 0) (nI 3000) = 0) (g_dy : ¬ inR dy (nI 1) (nI 100) = 0) (h5 : ¬ cK σ < 5)  : CT l yL_addStandard (wsH yL_addStandard cL_addStandard 8 (some .int) [(0, 16, 19, 13), (0, 16, 23, 15)]) d 8 64 D ba [.ref (ad [0]), .int ea, .int li, .int mo, .int lt, .int dy, .ref (ad [2])] ad (PW 0 ad σ tl t lo o) (WR ad σ o 2) noX := by
  refine CT_ofH RL rfl (by decide +kernel) hl (Nat.le_of_ble_eq_true rfl) ?_
  intro p e s m args below meth c C hr hnm
  refine V_lvE (lv' := [(0, .ref (ad [0])), (1, .int ea), (2, .int li), (3, .int mo), (4, .int lt), (5, .int dy), (6, .ref (ad [2]))]) rfl ?_
  have hσ1 := hσ.1
  have hσ2 := hσ.2.1
  refine V_aload C dL_addStandard_0 6 rfl ?_
  refine V_iconst (v := nI 0) C dL_addStandard_2 (by decide) ?_
  refine V_aload_n C dL_addStandard_3 0 rfl ?_
  refine V_iload_n C dL_addStandard_4 1 rfl ?_
  refine V_iload_n C dL_addStandard_5 2 rfl ?_
  refine V_iload_n C dL_addStandard_6 3 rfl ?_
  refine V_iload C dL_addStandard_7 4 rfl ?_
  refine V_iload C dL_addStandard_9 5 rfl ?_
  refine V_callV (r := (RX6, TX6, 8)) C [.int ea, .int li, .int mo, .int lt, .int dy] dL_addStandard_11 m_X6_addStandard k_X6_addStandard tw_432 rfl rfl rfl PW_b rfl rfl (Nat.le_of_ble_eq_true rfl) ⟨by omega, by omega, by omega, by omega⟩ (p_addStd_full hl (by omega) hσ g_ea g_li g_mo g_lt g_dy h5) kr_no (kx_XP (fun tl t lo => VX_catch C "java/lang/IllegalStateException" [⟨0, 16, 19, 13⟩] ⟨0, 16, 23, 15⟩ [] rfl (fun z hz => by
        simp only [List.mem_cons, List.mem_nil_iff, or_false] at hz
        rcases hz with rfl
        · exact Or.inr ⟨by decide, "java/lang/IllegalArgumentException", tw_216, by decide⟩) rfl (by decide) tw_217 (by decide +kernel) (fun a9 => ?_)))
  refine V_astore C [(7, .ref a9), (0, .ref (ad [0])), (1, .int ea), (2, .int li), (3, .int mo), (4, .int lt), (5, .int dy), (6, .ref (ad [2]))] dL_addStandard_23 (by decide) rfl ?_
  refine V_iconst (v := nI 2) C dL_addStandard_25 (by decide) ?_
  exact V_iret C .int dL_addStandard_26 hr rfl ⟨rfl, ⟨fun _ _ _ => rfl, rfl⟩, _, _, _, rfl⟩ (by omega) (by omega)
set_option maxHeartbeats 4000000 in
theorem w_revoke {l : Launch} {D : va_G} {ba d : Nat} {ad : Adr} (hl : l.stackTraces = false) (hd : 10 ≤ d) {σ : CS} {tl : Int32} {t : TT} {lo : Nat → Int32} {o : Wd} (hσ : cOK σ) {f0 : Nat → Int64} (ho2 : o [2] = some (eJ 1 f0)) {j : Nat} (hj : j < cN σ) (hc : ¬ hCe (cH σ j) = -1)  : CT l yL_revoke (wsH yL_revoke cL_revoke 4 (some .int) [(0, 9, 12, 21), (0, 9, 15, 15)]) d 8 64 D ba [.ref (ad [0]), .int (nI j), .ref (ad [2])] ad (PW 0 ad σ tl t lo o) (WR ad (setH σ j (hSc (cH σ j), hDm (cH σ j), hDu (cH σ j), -1, 0, hSu (cH σ j))) (wset o [2] (eJ 1 (vp_updL f0 0 ((nI (hDy (cH σ j)))).toInt64))) 0) noX := by
  refine CT_ofH RL rfl (by decide +kernel) hl (Nat.le_of_ble_eq_true rfl) ?_
  intro p e s m args below meth c C hr hnm
  refine V_lvE (lv' := [(0, .ref (ad [0])), (1, .int (nI j)), (2, .ref (ad [2]))]) rfl ?_
  have hσ1 := hσ.1
  have hσ2 := hσ.2.1
  refine V_aload_n C dL_revoke_0 2 rfl ?_
  refine V_iconst (v := nI 0) C dL_revoke_1 (by decide) ?_
  refine V_aload_n C dL_revoke_2 0 rfl ?_
  refine V_iload_n C dL_revoke_3 1 rfl ?_
  refine V_callV (r := (RX6, TX6, 8)) C [.int (nI j)] dL_revoke_4 m_X6_revoke k_X6_revoke tw_480 rfl rfl rfl PW_b rfl rfl (Nat.le_of_ble_eq_true rfl) ⟨by omega, by omega, by omega, by omega⟩ (p_revoke hl (by omega) hσ hj hc) (kr_RP (x := .int (nI (hDy (cH σ j)))) (fun tl t lo => ?_)) kx_no
  refine V_i2l C dL_revoke_7 rfl ?_
  refine V_lastn C dL_revoke_8 rfl (PW_2.trans ho2) (by decide) (by decide) ?_
  refine V_wd (w' := wset (PW 0 ad (setH σ j (hSc (cH σ j), hDm (cH σ j), hDu (cH σ j), -1, 0, hSu (cH σ j))) tl t lo o) ([2]) (eJ 1 (vp_updL f0 0 ((nI (hDy (cH σ j))).toInt64)))) rfl ?_
  refine V_goto (tgt := 18) C dL_revoke_9 (by decide) ?_
  refine V_iconst (v := nI 0) C dL_revoke_18 (by decide) ?_
  exact V_iret C .int dL_revoke_19 hr rfl ⟨rfl, ⟨fun _ _ _ => rfl, rfl⟩, _, _, _, PW_o2⟩ (by omega) (by omega)
set_option maxHeartbeats 4000000 in
theorem w_revoke_no {l : Launch} {D : va_G} {ba d : Nat} {ad : Adr} (hl : l.stackTraces = false) (hd : 9 ≤ d) {σ : CS} {tl : Int32} {t : TT} {lo : Nat → Int32} {o : Wd} (hσ : cOK σ) {f0 : Nat → Int64} (ho2 : o [2] = some (eJ 1 f0)) {x : Int32} (hx : ∀ j, j < cN σ → x ≠ nI j)  : CT l yL_revoke (wsH yL_revoke cL_revoke 4 (some .int) [(0, 9, 12, 21), (0, 9, 15, 15)]) d 8 64 D ba [.ref (ad [0]), .int x, .ref (ad [2])] ad (PW 0 ad σ tl t lo o) (WR ad σ o 1) noX := by
  refine CT_ofH RL rfl (by decide +kernel) hl (Nat.le_of_ble_eq_true rfl) ?_
  intro p e s m args below meth c C hr hnm
  refine V_lvE (lv' := [(0, .ref (ad [0])), (1, .int x), (2, .ref (ad [2]))]) rfl ?_
  have hσ1 := hσ.1
  have hσ2 := hσ.2.1
  refine V_aload_n C dL_revoke_0 2 rfl ?_
  refine V_iconst (v := nI 0) C dL_revoke_1 (by decide) ?_
  refine V_aload_n C dL_revoke_2 0 rfl ?_
  refine V_iload_n C dL_revoke_3 1 rfl ?_
  refine V_callV (r := (RX6, TX6, 8)) C [.int x] dL_revoke_4 m_X6_revoke k_X6_revoke tw_480 rfl rfl rfl PW_b rfl rfl (Nat.le_of_ble_eq_true rfl) ⟨by omega, by omega, by omega, by omega⟩ (p_revoke_no hl (by omega) hσ hx) kr_no (kx_XP (fun tl t lo => VX_catch C "java/lang/IndexOutOfBoundsException" [] ⟨0, 9, 12, 21⟩ [⟨0, 9, 15, 15⟩] rfl (fun z hz => absurd hz (by simp)) rfl (by decide) tw_346 (by decide +kernel) (fun a9 => ?_)))
  refine V_astore_n C [(3, .ref a9), (0, .ref (ad [0])), (1, .int x), (2, .ref (ad [2]))] dL_revoke_12 (by decide) rfl ?_
  refine V_iconst (v := nI 1) C dL_revoke_13 (by decide) ?_
  exact V_iret C .int dL_revoke_14 hr rfl ⟨rfl, ⟨fun _ _ _ => rfl, rfl⟩, _, _, _, rfl⟩ (by omega) (by omega)
set_option maxHeartbeats 4000000 in
theorem w_revoke_none {l : Launch} {D : va_G} {ba d : Nat} {ad : Adr} (hl : l.stackTraces = false) (hd : 10 ≤ d) {σ : CS} {tl : Int32} {t : TT} {lo : Nat → Int32} {o : Wd} (hσ : cOK σ) {f0 : Nat → Int64} (ho2 : o [2] = some (eJ 1 f0)) {j : Nat} (hj : j < cN σ) (hc : hCe (cH σ j) = -1)  : CT l yL_revoke (wsH yL_revoke cL_revoke 4 (some .int) [(0, 9, 12, 21), (0, 9, 15, 15)]) d 8 64 D ba [.ref (ad [0]), .int (nI j), .ref (ad [2])] ad (PW 0 ad σ tl t lo o) (WR ad σ o 2) noX := by
  refine CT_ofH RL rfl (by decide +kernel) hl (Nat.le_of_ble_eq_true rfl) ?_
  intro p e s m args below meth c C hr hnm
  refine V_lvE (lv' := [(0, .ref (ad [0])), (1, .int (nI j)), (2, .ref (ad [2]))]) rfl ?_
  have hσ1 := hσ.1
  have hσ2 := hσ.2.1
  refine V_aload_n C dL_revoke_0 2 rfl ?_
  refine V_iconst (v := nI 0) C dL_revoke_1 (by decide) ?_
  refine V_aload_n C dL_revoke_2 0 rfl ?_
  refine V_iload_n C dL_revoke_3 1 rfl ?_
  refine V_callV (r := (RX6, TX6, 8)) C [.int (nI j)] dL_revoke_4 m_X6_revoke k_X6_revoke tw_480 rfl rfl rfl PW_b rfl rfl (Nat.le_of_ble_eq_true rfl) ⟨by omega, by omega, by omega, by omega⟩ (p_revoke_none hl (by omega) hσ hj hc) kr_no (kx_XP (fun tl t lo => VX_catch C "java/lang/IllegalStateException" [⟨0, 9, 12, 21⟩] ⟨0, 9, 15, 15⟩ [] rfl (fun z hz => by
        simp only [List.mem_cons, List.mem_nil_iff, or_false] at hz
        rcases hz with rfl
        · exact Or.inr ⟨by decide, "java/lang/IndexOutOfBoundsException", tw_346, by decide⟩) rfl (by decide) tw_217 (by decide +kernel) (fun a9 => ?_)))
  refine V_astore_n C [(3, .ref a9), (0, .ref (ad [0])), (1, .int (nI j)), (2, .ref (ad [2]))] dL_revoke_15 (by decide) rfl ?_
  refine V_iconst (v := nI 2) C dL_revoke_16 (by decide) ?_
  exact V_iret C .int dL_revoke_17 hr rfl ⟨rfl, ⟨fun _ _ _ => rfl, rfl⟩, _, _, _, rfl⟩ (by omega) (by omega)
set_option maxHeartbeats 4000000 in
theorem w_passDays {l : Launch} {D : va_G} {ba d : Nat} {ad : Adr} (hl : l.stackTraces = false) (hd : 10 ≤ d) {σ : CS} {tl : Int32} {t : TT} {lo : Nat → Int32} {o : Wd} (hσ : cOK σ) {f0 : Nat → Int64} (ho2 : o [2] = some (eJ 1 f0)) {v : Nat} (hv : v ≤ 100) (hin : ¬ inR (nI v) (nI 1) (nI 100) = 0)  : CT l yL_passDays (wsH yL_passDays cL_passDays 4 (some .int) [(0, 9, 12, 13)]) d 8 64 D ba [.ref (ad [0]), .int (nI v), .ref (ad [2])] ad (PW 0 ad σ tl t lo o) (WR ad (cN σ, cK σ, cDay σ + nI v, cIns σ, olderH v (cH σ) (cN σ), cS σ) (wset o [2] (eJ 1 (vp_updL f0 0 ((nI (certs (olderH v (cH σ) (cN σ)) (cN σ)))).toInt64))) 0) noX := by
  refine CT_ofH RL rfl (by decide +kernel) hl (Nat.le_of_ble_eq_true rfl) ?_
  intro p e s m args below meth c C hr hnm
  refine V_lvE (lv' := [(0, .ref (ad [0])), (1, .int (nI v)), (2, .ref (ad [2]))]) rfl ?_
  have hσ1 := hσ.1
  have hσ2 := hσ.2.1
  refine V_aload_n C dL_passDays_0 2 rfl ?_
  refine V_iconst (v := nI 0) C dL_passDays_1 (by decide) ?_
  refine V_aload_n C dL_passDays_2 0 rfl ?_
  refine V_iload_n C dL_passDays_3 1 rfl ?_
  refine V_callV (r := (RX6, TX6, 8)) C [.int (nI v)] dL_passDays_4 m_X6_passDays k_X6_passDays tw_491 rfl rfl rfl PW_b rfl rfl (Nat.le_of_ble_eq_true rfl) ⟨by omega, by omega, by omega, by omega⟩ (p_pass hl (by omega) hσ hv hin) (kr_RP (x := .int (nI (certs (olderH v (cH σ) (cN σ)) (cN σ)))) (fun tl t lo => ?_)) kx_no
  refine V_i2l C dL_passDays_7 rfl ?_
  refine V_lastn C dL_passDays_8 rfl (PW_2.trans ho2) (by decide) (by decide) ?_
  refine V_wd (w' := wset (PW 0 ad (cN σ, cK σ, cDay σ + nI v, cIns σ, olderH v (cH σ) (cN σ), cS σ) tl t lo o) ([2]) (eJ 1 (vp_updL f0 0 ((nI (certs (olderH v (cH σ) (cN σ)) (cN σ))).toInt64)))) rfl ?_
  refine V_goto (tgt := 15) C dL_passDays_9 (by decide) ?_
  refine V_iconst (v := nI 0) C dL_passDays_15 (by decide) ?_
  exact V_iret C .int dL_passDays_16 hr rfl ⟨rfl, ⟨fun _ _ _ => rfl, rfl⟩, _, _, _, PW_o2⟩ (by omega) (by omega)
set_option maxHeartbeats 4000000 in
theorem w_passDays_bad {l : Launch} {D : va_G} {ba d : Nat} {ad : Adr} (hl : l.stackTraces = false) (hd : 10 ≤ d) {σ : CS} {tl : Int32} {t : TT} {lo : Nat → Int32} {o : Wd} (hσ : cOK σ) {f0 : Nat → Int64} (ho2 : o [2] = some (eJ 1 f0)) {x : Int32} (hin : inR x (nI 1) (nI 100) = 0)  : CT l yL_passDays (wsH yL_passDays cL_passDays 4 (some .int) [(0, 9, 12, 13)]) d 8 64 D ba [.ref (ad [0]), .int x, .ref (ad [2])] ad (PW 0 ad σ tl t lo o) (WR ad σ o 1) noX := by
  refine CT_ofH RL rfl (by decide +kernel) hl (Nat.le_of_ble_eq_true rfl) ?_
  intro p e s m args below meth c C hr hnm
  refine V_lvE (lv' := [(0, .ref (ad [0])), (1, .int x), (2, .ref (ad [2]))]) rfl ?_
  have hσ1 := hσ.1
  have hσ2 := hσ.2.1
  refine V_aload_n C dL_passDays_0 2 rfl ?_
  refine V_iconst (v := nI 0) C dL_passDays_1 (by decide) ?_
  refine V_aload_n C dL_passDays_2 0 rfl ?_
  refine V_iload_n C dL_passDays_3 1 rfl ?_
  refine V_callV (r := (RX6, TX6, 8)) C [.int x] dL_passDays_4 m_X6_passDays k_X6_passDays tw_491 rfl rfl rfl PW_b rfl rfl (Nat.le_of_ble_eq_true rfl) ⟨by omega, by omega, by omega, by omega⟩ (p_pass_bad hl (by omega) hσ hin) kr_no (kx_XP (fun tl t lo => VX_catch C "java/lang/IllegalArgumentException" [] ⟨0, 9, 12, 13⟩ [] rfl (fun z hz => absurd hz (by simp)) rfl (by decide) tw_216 (by decide +kernel) (fun a9 => ?_)))
  refine V_astore_n C [(3, .ref a9), (0, .ref (ad [0])), (1, .int x), (2, .ref (ad [2]))] dL_passDays_12 (by decide) rfl ?_
  refine V_iconst (v := nI 1) C dL_passDays_13 (by decide) ?_
  exact V_iret C .int dL_passDays_14 hr rfl ⟨rfl, ⟨fun _ _ _ => rfl, rfl⟩, _, _, _, rfl⟩ (by omega) (by omega)
set_option maxHeartbeats 4000000 in
theorem w_surfacesOf {l : Launch} {D : va_G} {ba d : Nat} {ad : Adr} (hl : l.stackTraces = false) (hd : 9 ≤ d) {σ : CS} {tl : Int32} {t : TT} {lo : Nat → Int32} {o : Wd} (hσ : cOK σ) {f0 : Nat → Int64} (ho2 : o [2] = some (eJ 1 f0)) {j : Nat} (hj : j < cN σ)  : CT l yL_surfacesOf (wsH yL_surfacesOf cL_surfacesOf 4 (some .int) [(0, 9, 12, 21)]) d 8 64 D ba [.ref (ad [0]), .int (nI j), .ref (ad [2])] ad (PW 0 ad σ tl t lo o) (WR ad σ (wset o [2] (eJ 1 (vp_updL f0 0 ((nI (hSc (cH σ j)))).toInt64))) 0) noX := by
  refine CT_ofH RL rfl (by decide +kernel) hl (Nat.le_of_ble_eq_true rfl) ?_
  intro p e s m args below meth c C hr hnm
  refine V_lvE (lv' := [(0, .ref (ad [0])), (1, .int (nI j)), (2, .ref (ad [2]))]) rfl ?_
  have hσ1 := hσ.1
  have hσ2 := hσ.2.1
  refine V_aload_n C dL_surfacesOf_0 2 rfl ?_
  refine V_iconst (v := nI 0) C dL_surfacesOf_1 (by decide) ?_
  refine V_aload_n C dL_surfacesOf_2 0 rfl ?_
  refine V_iload_n C dL_surfacesOf_3 1 rfl ?_
  refine V_callV (r := (RX6, TX6, 8)) C [.int (nI j)] dL_surfacesOf_4 m_X6_surfacesOf k_X6_surfacesOf tw_511 rfl rfl rfl PW_b rfl rfl (Nat.le_of_ble_eq_true rfl) ⟨by omega, by omega, by omega, by omega⟩ (p_surfacesOf hl (by omega) hσ hj) (kr_RP (x := .int (nI (hSc (cH σ j)))) (fun tl t lo => ?_)) kx_no
  refine V_i2l C dL_surfacesOf_7 rfl ?_
  refine V_lastn C dL_surfacesOf_8 rfl (PW_2.trans ho2) (by decide) (by decide) ?_
  refine V_wd (w' := wset (PW 0 ad σ tl t lo o) ([2]) (eJ 1 (vp_updL f0 0 ((nI (hSc (cH σ j))).toInt64)))) rfl ?_
  refine V_goto (tgt := 15) C dL_surfacesOf_9 (by decide) ?_
  refine V_iconst (v := nI 0) C dL_surfacesOf_15 (by decide) ?_
  exact V_iret C .int dL_surfacesOf_16 hr rfl ⟨rfl, ⟨fun _ _ _ => rfl, rfl⟩, _, _, _, PW_o2⟩ (by omega) (by omega)
set_option maxHeartbeats 4000000 in
theorem w_surfacesOf_no {l : Launch} {D : va_G} {ba d : Nat} {ad : Adr} (hl : l.stackTraces = false) (hd : 9 ≤ d) {σ : CS} {tl : Int32} {t : TT} {lo : Nat → Int32} {o : Wd} (hσ : cOK σ) {f0 : Nat → Int64} (ho2 : o [2] = some (eJ 1 f0)) {x : Int32} (hx : ∀ j, j < cN σ → x ≠ nI j)  : CT l yL_surfacesOf (wsH yL_surfacesOf cL_surfacesOf 4 (some .int) [(0, 9, 12, 21)]) d 8 64 D ba [.ref (ad [0]), .int x, .ref (ad [2])] ad (PW 0 ad σ tl t lo o) (WR ad σ o 1) noX := by
  refine CT_ofH RL rfl (by decide +kernel) hl (Nat.le_of_ble_eq_true rfl) ?_
  intro p e s m args below meth c C hr hnm
  refine V_lvE (lv' := [(0, .ref (ad [0])), (1, .int x), (2, .ref (ad [2]))]) rfl ?_
  have hσ1 := hσ.1
  have hσ2 := hσ.2.1
  refine V_aload_n C dL_surfacesOf_0 2 rfl ?_
  refine V_iconst (v := nI 0) C dL_surfacesOf_1 (by decide) ?_
  refine V_aload_n C dL_surfacesOf_2 0 rfl ?_
  refine V_iload_n C dL_surfacesOf_3 1 rfl ?_
  refine V_callV (r := (RX6, TX6, 8)) C [.int x] dL_surfacesOf_4 m_X6_surfacesOf k_X6_surfacesOf tw_511 rfl rfl rfl PW_b rfl rfl (Nat.le_of_ble_eq_true rfl) ⟨by omega, by omega, by omega, by omega⟩ (p_surfacesOf_no hl (by omega) hσ hx) kr_no (kx_XP (fun tl t lo => VX_catch C "java/lang/IndexOutOfBoundsException" [] ⟨0, 9, 12, 21⟩ [] rfl (fun z hz => absurd hz (by simp)) rfl (by decide) tw_346 (by decide +kernel) (fun a9 => ?_)))
  refine V_astore_n C [(3, .ref a9), (0, .ref (ad [0])), (1, .int x), (2, .ref (ad [2]))] dL_surfacesOf_12 (by decide) rfl ?_
  refine V_iconst (v := nI 1) C dL_surfacesOf_13 (by decide) ?_
  exact V_iret C .int dL_surfacesOf_14 hr rfl ⟨rfl, ⟨fun _ _ _ => rfl, rfl⟩, _, _, _, rfl⟩ (by omega) (by omega)
set_option maxHeartbeats 4000000 in
theorem w_distanceOf {l : Launch} {D : va_G} {ba d : Nat} {ad : Adr} (hl : l.stackTraces = false) (hd : 9 ≤ d) {σ : CS} {tl : Int32} {t : TT} {lo : Nat → Int32} {o : Wd} (hσ : cOK σ) {f0 : Nat → Int64} (ho2 : o [2] = some (eJ 1 f0)) {j : Nat} (hj : j < cN σ) {k : Nat} (hk : k < hSc (cH σ j))  : CT l yL_distanceOf (wsH yL_distanceOf cL_distanceOf 5 (some .int) [(0, 10, 13, 21)]) d 8 64 D ba [.ref (ad [0]), .int (nI j), .int (nI k), .ref (ad [2])] ad (PW 0 ad σ tl t lo o) (WR ad σ (wset o [2] (eJ 1 (vp_updL f0 0 ((nI ((hSu (cH σ j) k).2))).toInt64))) 0) noX := by
  refine CT_ofH RL rfl (by decide +kernel) hl (Nat.le_of_ble_eq_true rfl) ?_
  intro p e s m args below meth c C hr hnm
  refine V_lvE (lv' := [(0, .ref (ad [0])), (1, .int (nI j)), (2, .int (nI k)), (3, .ref (ad [2]))]) rfl ?_
  have hσ1 := hσ.1
  have hσ2 := hσ.2.1
  refine V_aload_n C dL_distanceOf_0 3 rfl ?_
  refine V_iconst (v := nI 0) C dL_distanceOf_1 (by decide) ?_
  refine V_aload_n C dL_distanceOf_2 0 rfl ?_
  refine V_iload_n C dL_distanceOf_3 1 rfl ?_
  refine V_iload_n C dL_distanceOf_4 2 rfl ?_
  refine V_callV (r := (RX6, TX6, 8)) C [.int (nI j), .int (nI k)] dL_distanceOf_5 m_X6_distanceOf k_X6_distanceOf tw_518 rfl rfl rfl PW_b rfl rfl (Nat.le_of_ble_eq_true rfl) ⟨by omega, by omega, by omega, by omega⟩ (p_distanceOf hl (by omega) hσ hj hk) (kr_RP (x := .int (nI ((hSu (cH σ j) k).2))) (fun tl t lo => ?_)) kx_no
  refine V_i2l C dL_distanceOf_8 rfl ?_
  refine V_lastn C dL_distanceOf_9 rfl (PW_2.trans ho2) (by decide) (by decide) ?_
  refine V_wd (w' := wset (PW 0 ad σ tl t lo o) ([2]) (eJ 1 (vp_updL f0 0 ((nI ((hSu (cH σ j) k).2)).toInt64)))) rfl ?_
  refine V_goto (tgt := 17) C dL_distanceOf_10 (by decide) ?_
  refine V_iconst (v := nI 0) C dL_distanceOf_17 (by decide) ?_
  exact V_iret C .int dL_distanceOf_18 hr rfl ⟨rfl, ⟨fun _ _ _ => rfl, rfl⟩, _, _, _, PW_o2⟩ (by omega) (by omega)
set_option maxHeartbeats 4000000 in
theorem w_distanceOf_no {l : Launch} {D : va_G} {ba d : Nat} {ad : Adr} (hl : l.stackTraces = false) (hd : 9 ≤ d) {σ : CS} {tl : Int32} {t : TT} {lo : Nat → Int32} {o : Wd} (hσ : cOK σ) {f0 : Nat → Int64} (ho2 : o [2] = some (eJ 1 f0)) {x : Int32} (hx : ∀ j, j < cN σ → x ≠ nI j) (y : Int32)  : CT l yL_distanceOf (wsH yL_distanceOf cL_distanceOf 5 (some .int) [(0, 10, 13, 21)]) d 8 64 D ba [.ref (ad [0]), .int x, .int y, .ref (ad [2])] ad (PW 0 ad σ tl t lo o) (WR ad σ o 1) noX := by
  refine CT_ofH RL rfl (by decide +kernel) hl (Nat.le_of_ble_eq_true rfl) ?_
  intro p e s m args below meth c C hr hnm
  refine V_lvE (lv' := [(0, .ref (ad [0])), (1, .int x), (2, .int y), (3, .ref (ad [2]))]) rfl ?_
  have hσ1 := hσ.1
  have hσ2 := hσ.2.1
  refine V_aload_n C dL_distanceOf_0 3 rfl ?_
  refine V_iconst (v := nI 0) C dL_distanceOf_1 (by decide) ?_
  refine V_aload_n C dL_distanceOf_2 0 rfl ?_
  refine V_iload_n C dL_distanceOf_3 1 rfl ?_
  refine V_iload_n C dL_distanceOf_4 2 rfl ?_
  refine V_callV (r := (RX6, TX6, 8)) C [.int x, .int y] dL_distanceOf_5 m_X6_distanceOf k_X6_distanceOf tw_518 rfl rfl rfl PW_b rfl rfl (Nat.le_of_ble_eq_true rfl) ⟨by omega, by omega, by omega, by omega⟩ (p_distanceOf_no hl (by omega) hσ hx y) kr_no (kx_XP (fun tl t lo => VX_catch C "java/lang/IndexOutOfBoundsException" [] ⟨0, 10, 13, 21⟩ [] rfl (fun z hz => absurd hz (by simp)) rfl (by decide) tw_346 (by decide +kernel) (fun a9 => ?_)))
  refine V_astore C [(4, .ref a9), (0, .ref (ad [0])), (1, .int x), (2, .int y), (3, .ref (ad [2]))] dL_distanceOf_13 (by decide) rfl ?_
  refine V_iconst (v := nI 1) C dL_distanceOf_15 (by decide) ?_
  exact V_iret C .int dL_distanceOf_16 hr rfl ⟨rfl, ⟨fun _ _ _ => rfl, rfl⟩, _, _, _, rfl⟩ (by omega) (by omega)
set_option maxHeartbeats 4000000 in
theorem w_distanceOf_no2 {l : Launch} {D : va_G} {ba d : Nat} {ad : Adr} (hl : l.stackTraces = false) (hd : 9 ≤ d) {σ : CS} {tl : Int32} {t : TT} {lo : Nat → Int32} {o : Wd} (hσ : cOK σ) {f0 : Nat → Int64} (ho2 : o [2] = some (eJ 1 f0)) {j : Nat} (hj : j < cN σ) {x2 : Int32} (hx2 : ∀ k, k < hSc (cH σ j) → x2 ≠ nI k)  : CT l yL_distanceOf (wsH yL_distanceOf cL_distanceOf 5 (some .int) [(0, 10, 13, 21)]) d 8 64 D ba [.ref (ad [0]), .int (nI j), .int x2, .ref (ad [2])] ad (PW 0 ad σ tl t lo o) (WR ad σ o 1) noX := by
  refine CT_ofH RL rfl (by decide +kernel) hl (Nat.le_of_ble_eq_true rfl) ?_
  intro p e s m args below meth c C hr hnm
  refine V_lvE (lv' := [(0, .ref (ad [0])), (1, .int (nI j)), (2, .int x2), (3, .ref (ad [2]))]) rfl ?_
  have hσ1 := hσ.1
  have hσ2 := hσ.2.1
  refine V_aload_n C dL_distanceOf_0 3 rfl ?_
  refine V_iconst (v := nI 0) C dL_distanceOf_1 (by decide) ?_
  refine V_aload_n C dL_distanceOf_2 0 rfl ?_
  refine V_iload_n C dL_distanceOf_3 1 rfl ?_
  refine V_iload_n C dL_distanceOf_4 2 rfl ?_
  refine V_callV (r := (RX6, TX6, 8)) C [.int (nI j), .int x2] dL_distanceOf_5 m_X6_distanceOf k_X6_distanceOf tw_518 rfl rfl rfl PW_b rfl rfl (Nat.le_of_ble_eq_true rfl) ⟨by omega, by omega, by omega, by omega⟩ (p_distanceOf_no2 hl (by omega) hσ hj hx2) kr_no (kx_XP (fun tl t lo => VX_catch C "java/lang/IndexOutOfBoundsException" [] ⟨0, 10, 13, 21⟩ [] rfl (fun z hz => absurd hz (by simp)) rfl (by decide) tw_346 (by decide +kernel) (fun a9 => ?_)))
  refine V_astore C [(4, .ref a9), (0, .ref (ad [0])), (1, .int (nI j)), (2, .int x2), (3, .ref (ad [2]))] dL_distanceOf_13 (by decide) rfl ?_
  refine V_iconst (v := nI 1) C dL_distanceOf_15 (by decide) ?_
  exact V_iret C .int dL_distanceOf_16 hr rfl ⟨rfl, ⟨fun _ _ _ => rfl, rfl⟩, _, _, _, rfl⟩ (by omega) (by omega)
set_option maxHeartbeats 4000000 in
theorem w_hardnessOf {l : Launch} {D : va_G} {ba d : Nat} {ad : Adr} (hl : l.stackTraces = false) (hd : 9 ≤ d) {σ : CS} {tl : Int32} {t : TT} {lo : Nat → Int32} {o : Wd} (hσ : cOK σ) {f0 : Nat → Int64} (ho2 : o [2] = some (eJ 1 f0)) {j : Nat} (hj : j < cN σ) {k : Nat} (hk : k < hSc (cH σ j))  : CT l yL_hardnessOf (wsH yL_hardnessOf cL_hardnessOf 5 (some .int) [(0, 10, 13, 21)]) d 8 64 D ba [.ref (ad [0]), .int (nI j), .int (nI k), .ref (ad [2])] ad (PW 0 ad σ tl t lo o) (WR ad σ (wset o [2] (eJ 1 (vp_updL f0 0 ((nI ((hSu (cH σ j) k).1 - hDu (cH σ j) / 5))).toInt64))) 0) noX := by
  refine CT_ofH RL rfl (by decide +kernel) hl (Nat.le_of_ble_eq_true rfl) ?_
  intro p e s m args below meth c C hr hnm
  refine V_lvE (lv' := [(0, .ref (ad [0])), (1, .int (nI j)), (2, .int (nI k)), (3, .ref (ad [2]))]) rfl ?_
  have hσ1 := hσ.1
  have hσ2 := hσ.2.1
  refine V_aload_n C dL_hardnessOf_0 3 rfl ?_
  refine V_iconst (v := nI 0) C dL_hardnessOf_1 (by decide) ?_
  refine V_aload_n C dL_hardnessOf_2 0 rfl ?_
  refine V_iload_n C dL_hardnessOf_3 1 rfl ?_
  refine V_iload_n C dL_hardnessOf_4 2 rfl ?_
  refine V_callV (r := (RX6, TX6, 8)) C [.int (nI j), .int (nI k)] dL_hardnessOf_5 m_X6_hardnessOf k_X6_hardnessOf tw_525 rfl rfl rfl PW_b rfl rfl (Nat.le_of_ble_eq_true rfl) ⟨by omega, by omega, by omega, by omega⟩ (p_hardnessOf hl (by omega) hσ hj hk) (kr_RP (x := .int (nI ((hSu (cH σ j) k).1 - hDu (cH σ j) / 5))) (fun tl t lo => ?_)) kx_no
  refine V_i2l C dL_hardnessOf_8 rfl ?_
  refine V_lastn C dL_hardnessOf_9 rfl (PW_2.trans ho2) (by decide) (by decide) ?_
  refine V_wd (w' := wset (PW 0 ad σ tl t lo o) ([2]) (eJ 1 (vp_updL f0 0 ((nI ((hSu (cH σ j) k).1 - hDu (cH σ j) / 5)).toInt64)))) rfl ?_
  refine V_goto (tgt := 17) C dL_hardnessOf_10 (by decide) ?_
  refine V_iconst (v := nI 0) C dL_hardnessOf_17 (by decide) ?_
  exact V_iret C .int dL_hardnessOf_18 hr rfl ⟨rfl, ⟨fun _ _ _ => rfl, rfl⟩, _, _, _, PW_o2⟩ (by omega) (by omega)
set_option maxHeartbeats 4000000 in
theorem w_hardnessOf_no {l : Launch} {D : va_G} {ba d : Nat} {ad : Adr} (hl : l.stackTraces = false) (hd : 9 ≤ d) {σ : CS} {tl : Int32} {t : TT} {lo : Nat → Int32} {o : Wd} (hσ : cOK σ) {f0 : Nat → Int64} (ho2 : o [2] = some (eJ 1 f0)) {x : Int32} (hx : ∀ j, j < cN σ → x ≠ nI j) (y : Int32)  : CT l yL_hardnessOf (wsH yL_hardnessOf cL_hardnessOf 5 (some .int) [(0, 10, 13, 21)]) d 8 64 D ba [.ref (ad [0]), .int x, .int y, .ref (ad [2])] ad (PW 0 ad σ tl t lo o) (WR ad σ o 1) noX := by
  refine CT_ofH RL rfl (by decide +kernel) hl (Nat.le_of_ble_eq_true rfl) ?_
  intro p e s m args below meth c C hr hnm
  refine V_lvE (lv' := [(0, .ref (ad [0])), (1, .int x), (2, .int y), (3, .ref (ad [2]))]) rfl ?_
  have hσ1 := hσ.1
  have hσ2 := hσ.2.1
  refine V_aload_n C dL_hardnessOf_0 3 rfl ?_
  refine V_iconst (v := nI 0) C dL_hardnessOf_1 (by decide) ?_
  refine V_aload_n C dL_hardnessOf_2 0 rfl ?_
  refine V_iload_n C dL_hardnessOf_3 1 rfl ?_
  refine V_iload_n C dL_hardnessOf_4 2 rfl ?_
  refine V_callV (r := (RX6, TX6, 8)) C [.int x, .int y] dL_hardnessOf_5 m_X6_hardnessOf k_X6_hardnessOf tw_525 rfl rfl rfl PW_b rfl rfl (Nat.le_of_ble_eq_true rfl) ⟨by omega, by omega, by omega, by omega⟩ (p_hardnessOf_no hl (by omega) hσ hx y) kr_no (kx_XP (fun tl t lo => VX_catch C "java/lang/IndexOutOfBoundsException" [] ⟨0, 10, 13, 21⟩ [] rfl (fun z hz => absurd hz (by simp)) rfl (by decide) tw_346 (by decide +kernel) (fun a9 => ?_)))
  refine V_astore C [(4, .ref a9), (0, .ref (ad [0])), (1, .int x), (2, .int y), (3, .ref (ad [2]))] dL_hardnessOf_13 (by decide) rfl ?_
  refine V_iconst (v := nI 1) C dL_hardnessOf_15 (by decide) ?_
  exact V_iret C .int dL_hardnessOf_16 hr rfl ⟨rfl, ⟨fun _ _ _ => rfl, rfl⟩, _, _, _, rfl⟩ (by omega) (by omega)
set_option maxHeartbeats 4000000 in
theorem w_hardnessOf_no2 {l : Launch} {D : va_G} {ba d : Nat} {ad : Adr} (hl : l.stackTraces = false) (hd : 9 ≤ d) {σ : CS} {tl : Int32} {t : TT} {lo : Nat → Int32} {o : Wd} (hσ : cOK σ) {f0 : Nat → Int64} (ho2 : o [2] = some (eJ 1 f0)) {j : Nat} (hj : j < cN σ) {x2 : Int32} (hx2 : ∀ k, k < hSc (cH σ j) → x2 ≠ nI k)  : CT l yL_hardnessOf (wsH yL_hardnessOf cL_hardnessOf 5 (some .int) [(0, 10, 13, 21)]) d 8 64 D ba [.ref (ad [0]), .int (nI j), .int x2, .ref (ad [2])] ad (PW 0 ad σ tl t lo o) (WR ad σ o 1) noX := by
  refine CT_ofH RL rfl (by decide +kernel) hl (Nat.le_of_ble_eq_true rfl) ?_
  intro p e s m args below meth c C hr hnm
  refine V_lvE (lv' := [(0, .ref (ad [0])), (1, .int (nI j)), (2, .int x2), (3, .ref (ad [2]))]) rfl ?_
  have hσ1 := hσ.1
  have hσ2 := hσ.2.1
  refine V_aload_n C dL_hardnessOf_0 3 rfl ?_
  refine V_iconst (v := nI 0) C dL_hardnessOf_1 (by decide) ?_
  refine V_aload_n C dL_hardnessOf_2 0 rfl ?_
  refine V_iload_n C dL_hardnessOf_3 1 rfl ?_
  refine V_iload_n C dL_hardnessOf_4 2 rfl ?_
  refine V_callV (r := (RX6, TX6, 8)) C [.int (nI j), .int x2] dL_hardnessOf_5 m_X6_hardnessOf k_X6_hardnessOf tw_525 rfl rfl rfl PW_b rfl rfl (Nat.le_of_ble_eq_true rfl) ⟨by omega, by omega, by omega, by omega⟩ (p_hardnessOf_no2 hl (by omega) hσ hj hx2) kr_no (kx_XP (fun tl t lo => VX_catch C "java/lang/IndexOutOfBoundsException" [] ⟨0, 10, 13, 21⟩ [] rfl (fun z hz => absurd hz (by simp)) rfl (by decide) tw_346 (by decide +kernel) (fun a9 => ?_)))
  refine V_astore C [(4, .ref a9), (0, .ref (ad [0])), (1, .int (nI j)), (2, .int x2), (3, .ref (ad [2]))] dL_hardnessOf_13 (by decide) rfl ?_
  refine V_iconst (v := nI 1) C dL_hardnessOf_15 (by decide) ?_
  exact V_iret C .int dL_hardnessOf_16 hr rfl ⟨rfl, ⟨fun _ _ _ => rfl, rfl⟩, _, _, _, rfl⟩ (by omega) (by omega)
set_option maxHeartbeats 4000000 in
theorem w_dampingOf {l : Launch} {D : va_G} {ba d : Nat} {ad : Adr} (hl : l.stackTraces = false) (hd : 9 ≤ d) {σ : CS} {tl : Int32} {t : TT} {lo : Nat → Int32} {o : Wd} (hσ : cOK σ) {f0 : Nat → Int64} (ho2 : o [2] = some (eJ 1 f0)) {j : Nat} (hj : j < cN σ)  : CT l yL_dampingOf (wsH yL_dampingOf cL_dampingOf 4 (some .int) [(0, 9, 12, 21)]) d 8 64 D ba [.ref (ad [0]), .int (nI j), .ref (ad [2])] ad (PW 0 ad σ tl t lo o) (WR ad σ (wset o [2] (eJ 1 (vp_updL f0 0 ((nI (hDm (cH σ j)))).toInt64))) 0) noX := by
  refine CT_ofH RL rfl (by decide +kernel) hl (Nat.le_of_ble_eq_true rfl) ?_
  intro p e s m args below meth c C hr hnm
  refine V_lvE (lv' := [(0, .ref (ad [0])), (1, .int (nI j)), (2, .ref (ad [2]))]) rfl ?_
  have hσ1 := hσ.1
  have hσ2 := hσ.2.1
  refine V_aload_n C dL_dampingOf_0 2 rfl ?_
  refine V_iconst (v := nI 0) C dL_dampingOf_1 (by decide) ?_
  refine V_aload_n C dL_dampingOf_2 0 rfl ?_
  refine V_iload_n C dL_dampingOf_3 1 rfl ?_
  refine V_callV (r := (RX6, TX6, 8)) C [.int (nI j)] dL_dampingOf_4 m_X6_dampingOf k_X6_dampingOf tw_532 rfl rfl rfl PW_b rfl rfl (Nat.le_of_ble_eq_true rfl) ⟨by omega, by omega, by omega, by omega⟩ (p_dampingOf hl (by omega) hσ hj) (kr_RP (x := .int (nI (hDm (cH σ j)))) (fun tl t lo => ?_)) kx_no
  refine V_i2l C dL_dampingOf_7 rfl ?_
  refine V_lastn C dL_dampingOf_8 rfl (PW_2.trans ho2) (by decide) (by decide) ?_
  refine V_wd (w' := wset (PW 0 ad σ tl t lo o) ([2]) (eJ 1 (vp_updL f0 0 ((nI (hDm (cH σ j))).toInt64)))) rfl ?_
  refine V_goto (tgt := 15) C dL_dampingOf_9 (by decide) ?_
  refine V_iconst (v := nI 0) C dL_dampingOf_15 (by decide) ?_
  exact V_iret C .int dL_dampingOf_16 hr rfl ⟨rfl, ⟨fun _ _ _ => rfl, rfl⟩, _, _, _, PW_o2⟩ (by omega) (by omega)
set_option maxHeartbeats 4000000 in
theorem w_dampingOf_no {l : Launch} {D : va_G} {ba d : Nat} {ad : Adr} (hl : l.stackTraces = false) (hd : 9 ≤ d) {σ : CS} {tl : Int32} {t : TT} {lo : Nat → Int32} {o : Wd} (hσ : cOK σ) {f0 : Nat → Int64} (ho2 : o [2] = some (eJ 1 f0)) {x : Int32} (hx : ∀ j, j < cN σ → x ≠ nI j)  : CT l yL_dampingOf (wsH yL_dampingOf cL_dampingOf 4 (some .int) [(0, 9, 12, 21)]) d 8 64 D ba [.ref (ad [0]), .int x, .ref (ad [2])] ad (PW 0 ad σ tl t lo o) (WR ad σ o 1) noX := by
  refine CT_ofH RL rfl (by decide +kernel) hl (Nat.le_of_ble_eq_true rfl) ?_
  intro p e s m args below meth c C hr hnm
  refine V_lvE (lv' := [(0, .ref (ad [0])), (1, .int x), (2, .ref (ad [2]))]) rfl ?_
  have hσ1 := hσ.1
  have hσ2 := hσ.2.1
  refine V_aload_n C dL_dampingOf_0 2 rfl ?_
  refine V_iconst (v := nI 0) C dL_dampingOf_1 (by decide) ?_
  refine V_aload_n C dL_dampingOf_2 0 rfl ?_
  refine V_iload_n C dL_dampingOf_3 1 rfl ?_
  refine V_callV (r := (RX6, TX6, 8)) C [.int x] dL_dampingOf_4 m_X6_dampingOf k_X6_dampingOf tw_532 rfl rfl rfl PW_b rfl rfl (Nat.le_of_ble_eq_true rfl) ⟨by omega, by omega, by omega, by omega⟩ (p_dampingOf_no hl (by omega) hσ hx) kr_no (kx_XP (fun tl t lo => VX_catch C "java/lang/IndexOutOfBoundsException" [] ⟨0, 9, 12, 21⟩ [] rfl (fun z hz => absurd hz (by simp)) rfl (by decide) tw_346 (by decide +kernel) (fun a9 => ?_)))
  refine V_astore_n C [(3, .ref a9), (0, .ref (ad [0])), (1, .int x), (2, .ref (ad [2]))] dL_dampingOf_12 (by decide) rfl ?_
  refine V_iconst (v := nI 1) C dL_dampingOf_13 (by decide) ?_
  exact V_iret C .int dL_dampingOf_14 hr rfl ⟨rfl, ⟨fun _ _ _ => rfl, rfl⟩, _, _, _, rfl⟩ (by omega) (by omega)
set_option maxHeartbeats 4000000 in
theorem w_dustOf {l : Launch} {D : va_G} {ba d : Nat} {ad : Adr} (hl : l.stackTraces = false) (hd : 9 ≤ d) {σ : CS} {tl : Int32} {t : TT} {lo : Nat → Int32} {o : Wd} (hσ : cOK σ) {f0 : Nat → Int64} (ho2 : o [2] = some (eJ 1 f0)) {j : Nat} (hj : j < cN σ)  : CT l yL_dustOf (wsH yL_dustOf cL_dustOf 4 (some .int) [(0, 9, 12, 21)]) d 8 64 D ba [.ref (ad [0]), .int (nI j), .ref (ad [2])] ad (PW 0 ad σ tl t lo o) (WR ad σ (wset o [2] (eJ 1 (vp_updL f0 0 ((nI (hDu (cH σ j)))).toInt64))) 0) noX := by
  refine CT_ofH RL rfl (by decide +kernel) hl (Nat.le_of_ble_eq_true rfl) ?_
  intro p e s m args below meth c C hr hnm
  refine V_lvE (lv' := [(0, .ref (ad [0])), (1, .int (nI j)), (2, .ref (ad [2]))]) rfl ?_
  have hσ1 := hσ.1
  have hσ2 := hσ.2.1
  refine V_aload_n C dL_dustOf_0 2 rfl ?_
  refine V_iconst (v := nI 0) C dL_dustOf_1 (by decide) ?_
  refine V_aload_n C dL_dustOf_2 0 rfl ?_
  refine V_iload_n C dL_dustOf_3 1 rfl ?_
  refine V_callV (r := (RX6, TX6, 8)) C [.int (nI j)] dL_dustOf_4 m_X6_dustOf k_X6_dustOf tw_539 rfl rfl rfl PW_b rfl rfl (Nat.le_of_ble_eq_true rfl) ⟨by omega, by omega, by omega, by omega⟩ (p_dustOf hl (by omega) hσ hj) (kr_RP (x := .int (nI (hDu (cH σ j)))) (fun tl t lo => ?_)) kx_no
  refine V_i2l C dL_dustOf_7 rfl ?_
  refine V_lastn C dL_dustOf_8 rfl (PW_2.trans ho2) (by decide) (by decide) ?_
  refine V_wd (w' := wset (PW 0 ad σ tl t lo o) ([2]) (eJ 1 (vp_updL f0 0 ((nI (hDu (cH σ j))).toInt64)))) rfl ?_
  refine V_goto (tgt := 15) C dL_dustOf_9 (by decide) ?_
  refine V_iconst (v := nI 0) C dL_dustOf_15 (by decide) ?_
  exact V_iret C .int dL_dustOf_16 hr rfl ⟨rfl, ⟨fun _ _ _ => rfl, rfl⟩, _, _, _, PW_o2⟩ (by omega) (by omega)
set_option maxHeartbeats 4000000 in
theorem w_dustOf_no {l : Launch} {D : va_G} {ba d : Nat} {ad : Adr} (hl : l.stackTraces = false) (hd : 9 ≤ d) {σ : CS} {tl : Int32} {t : TT} {lo : Nat → Int32} {o : Wd} (hσ : cOK σ) {f0 : Nat → Int64} (ho2 : o [2] = some (eJ 1 f0)) {x : Int32} (hx : ∀ j, j < cN σ → x ≠ nI j)  : CT l yL_dustOf (wsH yL_dustOf cL_dustOf 4 (some .int) [(0, 9, 12, 21)]) d 8 64 D ba [.ref (ad [0]), .int x, .ref (ad [2])] ad (PW 0 ad σ tl t lo o) (WR ad σ o 1) noX := by
  refine CT_ofH RL rfl (by decide +kernel) hl (Nat.le_of_ble_eq_true rfl) ?_
  intro p e s m args below meth c C hr hnm
  refine V_lvE (lv' := [(0, .ref (ad [0])), (1, .int x), (2, .ref (ad [2]))]) rfl ?_
  have hσ1 := hσ.1
  have hσ2 := hσ.2.1
  refine V_aload_n C dL_dustOf_0 2 rfl ?_
  refine V_iconst (v := nI 0) C dL_dustOf_1 (by decide) ?_
  refine V_aload_n C dL_dustOf_2 0 rfl ?_
  refine V_iload_n C dL_dustOf_3 1 rfl ?_
  refine V_callV (r := (RX6, TX6, 8)) C [.int x] dL_dustOf_4 m_X6_dustOf k_X6_dustOf tw_539 rfl rfl rfl PW_b rfl rfl (Nat.le_of_ble_eq_true rfl) ⟨by omega, by omega, by omega, by omega⟩ (p_dustOf_no hl (by omega) hσ hx) kr_no (kx_XP (fun tl t lo => VX_catch C "java/lang/IndexOutOfBoundsException" [] ⟨0, 9, 12, 21⟩ [] rfl (fun z hz => absurd hz (by simp)) rfl (by decide) tw_346 (by decide +kernel) (fun a9 => ?_)))
  refine V_astore_n C [(3, .ref a9), (0, .ref (ad [0])), (1, .int x), (2, .ref (ad [2]))] dL_dustOf_12 (by decide) rfl ?_
  refine V_iconst (v := nI 1) C dL_dustOf_13 (by decide) ?_
  exact V_iret C .int dL_dustOf_14 hr rfl ⟨rfl, ⟨fun _ _ _ => rfl, rfl⟩, _, _, _, rfl⟩ (by omega) (by omega)
set_option maxHeartbeats 4000000 in
theorem w_echoes {l : Launch} {D : va_G} {ba d : Nat} {ad : Adr} (hl : l.stackTraces = false) (hd : 10 ≤ d) {σ : CS} {tl : Int32} {t : TT} {lo : Nat → Int32} {o : Wd} (hσ : cOK σ) {f0 : Nat → Int64} (ho2 : o [2] = some (eJ 1 f0)) {j : Nat} (hj : j < cN σ) {v : Nat} (hv : v ≤ 1000) (hin : ¬ inR (nI v) (nI 1) (nI 1000) = 0)  : CT l yL_echoes (wsH yL_echoes cL_echoes 5 (some .int) [(0, 10, 13, 21), (0, 10, 17, 13)]) d 8 64 D ba [.ref (ad [0]), .int (nI j), .int (nI v), .ref (ad [2])] ad (PW 0 ad σ tl t lo o) (WR ad σ (wset o [2] (eJ 1 (vp_updL f0 0 (((tly (cH σ j) (nI 1) v).1)).toInt64))) 0) noX := by
  refine CT_ofH RL rfl (by decide +kernel) hl (Nat.le_of_ble_eq_true rfl) ?_
  intro p e s m args below meth c C hr hnm
  refine V_lvE (lv' := [(0, .ref (ad [0])), (1, .int (nI j)), (2, .int (nI v)), (3, .ref (ad [2]))]) rfl ?_
  have hσ1 := hσ.1
  have hσ2 := hσ.2.1
  refine V_aload_n C dL_echoes_0 3 rfl ?_
  refine V_iconst (v := nI 0) C dL_echoes_1 (by decide) ?_
  refine V_aload_n C dL_echoes_2 0 rfl ?_
  refine V_iload_n C dL_echoes_3 1 rfl ?_
  refine V_iload_n C dL_echoes_4 2 rfl ?_
  refine V_callV (r := (RX6, TX6, 8)) C [.int (nI j), .int (nI v)] dL_echoes_5 m_X6_echoes k_X6_echoes tw_546 rfl rfl rfl PW_b rfl rfl (Nat.le_of_ble_eq_true rfl) ⟨by omega, by omega, by omega, by omega⟩ (p_echoes hl (by omega) hσ hj hv hin) (kr_RP (x := .int ((tly (cH σ j) (nI 1) v).1)) (fun tl t lo => ?_)) kx_no
  refine V_i2l C dL_echoes_8 rfl ?_
  refine V_lastn C dL_echoes_9 rfl (PW_2.trans ho2) (by decide) (by decide) ?_
  refine V_wd (w' := wset (PW 0 ad σ tl t lo o) ([2]) (eJ 1 (vp_updL f0 0 (((tly (cH σ j) (nI 1) v).1).toInt64)))) rfl ?_
  refine V_goto (tgt := 21) C dL_echoes_10 (by decide) ?_
  refine V_iconst (v := nI 0) C dL_echoes_21 (by decide) ?_
  exact V_iret C .int dL_echoes_22 hr rfl ⟨rfl, ⟨fun _ _ _ => rfl, rfl⟩, _, _, _, PW_o2⟩ (by omega) (by omega)
set_option maxHeartbeats 4000000 in
theorem w_echoes_no {l : Launch} {D : va_G} {ba d : Nat} {ad : Adr} (hl : l.stackTraces = false) (hd : 10 ≤ d) {σ : CS} {tl : Int32} {t : TT} {lo : Nat → Int32} {o : Wd} (hσ : cOK σ) {f0 : Nat → Int64} (ho2 : o [2] = some (eJ 1 f0)) {x : Int32} (hx : ∀ j, j < cN σ → x ≠ nI j) (y : Int32)  : CT l yL_echoes (wsH yL_echoes cL_echoes 5 (some .int) [(0, 10, 13, 21), (0, 10, 17, 13)]) d 8 64 D ba [.ref (ad [0]), .int x, .int y, .ref (ad [2])] ad (PW 0 ad σ tl t lo o) (WR ad σ o 1) noX := by
  refine CT_ofH RL rfl (by decide +kernel) hl (Nat.le_of_ble_eq_true rfl) ?_
  intro p e s m args below meth c C hr hnm
  refine V_lvE (lv' := [(0, .ref (ad [0])), (1, .int x), (2, .int y), (3, .ref (ad [2]))]) rfl ?_
  have hσ1 := hσ.1
  have hσ2 := hσ.2.1
  refine V_aload_n C dL_echoes_0 3 rfl ?_
  refine V_iconst (v := nI 0) C dL_echoes_1 (by decide) ?_
  refine V_aload_n C dL_echoes_2 0 rfl ?_
  refine V_iload_n C dL_echoes_3 1 rfl ?_
  refine V_iload_n C dL_echoes_4 2 rfl ?_
  refine V_callV (r := (RX6, TX6, 8)) C [.int x, .int y] dL_echoes_5 m_X6_echoes k_X6_echoes tw_546 rfl rfl rfl PW_b rfl rfl (Nat.le_of_ble_eq_true rfl) ⟨by omega, by omega, by omega, by omega⟩ (p_echoes_no hl (by omega) hσ hx y) kr_no (kx_XP (fun tl t lo => VX_catch C "java/lang/IndexOutOfBoundsException" [] ⟨0, 10, 13, 21⟩ [⟨0, 10, 17, 13⟩] rfl (fun z hz => absurd hz (by simp)) rfl (by decide) tw_346 (by decide +kernel) (fun a9 => ?_)))
  refine V_astore C [(4, .ref a9), (0, .ref (ad [0])), (1, .int x), (2, .int y), (3, .ref (ad [2]))] dL_echoes_13 (by decide) rfl ?_
  refine V_iconst (v := nI 1) C dL_echoes_15 (by decide) ?_
  exact V_iret C .int dL_echoes_16 hr rfl ⟨rfl, ⟨fun _ _ _ => rfl, rfl⟩, _, _, _, rfl⟩ (by omega) (by omega)
set_option maxHeartbeats 4000000 in
theorem w_echoes_bad {l : Launch} {D : va_G} {ba d : Nat} {ad : Adr} (hl : l.stackTraces = false) (hd : 11 ≤ d) {σ : CS} {tl : Int32} {t : TT} {lo : Nat → Int32} {o : Wd} (hσ : cOK σ) {f0 : Nat → Int64} (ho2 : o [2] = some (eJ 1 f0)) {j : Nat} (hj : j < cN σ) {y : Int32} (hin : inR y (nI 1) (nI 1000) = 0)  : CT l yL_echoes (wsH yL_echoes cL_echoes 5 (some .int) [(0, 10, 13, 21), (0, 10, 17, 13)]) d 8 64 D ba [.ref (ad [0]), .int (nI j), .int y, .ref (ad [2])] ad (PW 0 ad σ tl t lo o) (WR ad σ o 2) noX := by
  refine CT_ofH RL rfl (by decide +kernel) hl (Nat.le_of_ble_eq_true rfl) ?_
  intro p e s m args below meth c C hr hnm
  refine V_lvE (lv' := [(0, .ref (ad [0])), (1, .int (nI j)), (2, .int y), (3, .ref (ad [2]))]) rfl ?_
  have hσ1 := hσ.1
  have hσ2 := hσ.2.1
  refine V_aload_n C dL_echoes_0 3 rfl ?_
  refine V_iconst (v := nI 0) C dL_echoes_1 (by decide) ?_
  refine V_aload_n C dL_echoes_2 0 rfl ?_
  refine V_iload_n C dL_echoes_3 1 rfl ?_
  refine V_iload_n C dL_echoes_4 2 rfl ?_
  refine V_callV (r := (RX6, TX6, 8)) C [.int (nI j), .int y] dL_echoes_5 m_X6_echoes k_X6_echoes tw_546 rfl rfl rfl PW_b rfl rfl (Nat.le_of_ble_eq_true rfl) ⟨by omega, by omega, by omega, by omega⟩ (p_echoes_bad hl (by omega) hσ hj hin) kr_no (kx_XP (fun tl t lo => VX_catch C "java/lang/IllegalArgumentException" [⟨0, 10, 13, 21⟩] ⟨0, 10, 17, 13⟩ [] rfl (fun z hz => by
        simp only [List.mem_cons, List.mem_nil_iff, or_false] at hz
        rcases hz with rfl
        · exact Or.inr ⟨by decide, "java/lang/IndexOutOfBoundsException", tw_346, by decide⟩) rfl (by decide) tw_216 (by decide +kernel) (fun a9 => ?_)))
  refine V_astore C [(4, .ref a9), (0, .ref (ad [0])), (1, .int (nI j)), (2, .int y), (3, .ref (ad [2]))] dL_echoes_17 (by decide) rfl ?_
  refine V_iconst (v := nI 2) C dL_echoes_19 (by decide) ?_
  exact V_iret C .int dL_echoes_20 hr rfl ⟨rfl, ⟨fun _ _ _ => rfl, rfl⟩, _, _, _, rfl⟩ (by omega) (by omega)
set_option maxHeartbeats 4000000 in
theorem w_loudEchoes {l : Launch} {D : va_G} {ba d : Nat} {ad : Adr} (hl : l.stackTraces = false) (hd : 10 ≤ d) {σ : CS} {tl : Int32} {t : TT} {lo : Nat → Int32} {o : Wd} (hσ : cOK σ) {f0 : Nat → Int64} (ho2 : o [2] = some (eJ 1 f0)) {j : Nat} (hj : j < cN σ) {v : Nat} (hv : v ≤ 1000) (hin : ¬ inR (nI v) (nI 1) (nI 1000) = 0) {z : Int32} (hin2 : ¬ inR z (nI 1) (nI 1000) = 0)  : CT l yL_loudEchoes (wsH yL_loudEchoes cL_loudEchoes 6 (some .int) [(0, 12, 15, 21), (0, 12, 19, 13)]) d 8 64 D ba [.ref (ad [0]), .int (nI j), .int (nI v), .int z, .ref (ad [2])] ad (PW 0 ad σ tl t lo o) (WR ad σ (wset o [2] (eJ 1 (vp_updL f0 0 (((tly (cH σ j) z v).2.1)).toInt64))) 0) noX := by
  refine CT_ofH RL rfl (by decide +kernel) hl (Nat.le_of_ble_eq_true rfl) ?_
  intro p e s m args below meth c C hr hnm
  refine V_lvE (lv' := [(0, .ref (ad [0])), (1, .int (nI j)), (2, .int (nI v)), (3, .int z), (4, .ref (ad [2]))]) rfl ?_
  have hσ1 := hσ.1
  have hσ2 := hσ.2.1
  refine V_aload C dL_loudEchoes_0 4 rfl ?_
  refine V_iconst (v := nI 0) C dL_loudEchoes_2 (by decide) ?_
  refine V_aload_n C dL_loudEchoes_3 0 rfl ?_
  refine V_iload_n C dL_loudEchoes_4 1 rfl ?_
  refine V_iload_n C dL_loudEchoes_5 2 rfl ?_
  refine V_iload_n C dL_loudEchoes_6 3 rfl ?_
  refine V_callV (r := (RX6, TX6, 8)) C [.int (nI j), .int (nI v), .int z] dL_loudEchoes_7 m_X6_loudEchoes k_X6_loudEchoes tw_561 rfl rfl rfl PW_b rfl rfl (Nat.le_of_ble_eq_true rfl) ⟨by omega, by omega, by omega, by omega⟩ (p_loudEchoes hl (by omega) hσ hj hv hin hin2) (kr_RP (x := .int ((tly (cH σ j) z v).2.1)) (fun tl t lo => ?_)) kx_no
  refine V_i2l C dL_loudEchoes_10 rfl ?_
  refine V_lastn C dL_loudEchoes_11 rfl (PW_2.trans ho2) (by decide) (by decide) ?_
  refine V_wd (w' := wset (PW 0 ad σ tl t lo o) ([2]) (eJ 1 (vp_updL f0 0 (((tly (cH σ j) z v).2.1).toInt64)))) rfl ?_
  refine V_goto (tgt := 23) C dL_loudEchoes_12 (by decide) ?_
  refine V_iconst (v := nI 0) C dL_loudEchoes_23 (by decide) ?_
  exact V_iret C .int dL_loudEchoes_24 hr rfl ⟨rfl, ⟨fun _ _ _ => rfl, rfl⟩, _, _, _, PW_o2⟩ (by omega) (by omega)
set_option maxHeartbeats 4000000 in
theorem w_loudEchoes_no {l : Launch} {D : va_G} {ba d : Nat} {ad : Adr} (hl : l.stackTraces = false) (hd : 10 ≤ d) {σ : CS} {tl : Int32} {t : TT} {lo : Nat → Int32} {o : Wd} (hσ : cOK σ) {f0 : Nat → Int64} (ho2 : o [2] = some (eJ 1 f0)) {x : Int32} (hx : ∀ j, j < cN σ → x ≠ nI j) (y z : Int32)  : CT l yL_loudEchoes (wsH yL_loudEchoes cL_loudEchoes 6 (some .int) [(0, 12, 15, 21), (0, 12, 19, 13)]) d 8 64 D ba [.ref (ad [0]), .int x, .int y, .int z, .ref (ad [2])] ad (PW 0 ad σ tl t lo o) (WR ad σ o 1) noX := by
  refine CT_ofH RL rfl (by decide +kernel) hl (Nat.le_of_ble_eq_true rfl) ?_
  intro p e s m args below meth c C hr hnm
  refine V_lvE (lv' := [(0, .ref (ad [0])), (1, .int x), (2, .int y), (3, .int z), (4, .ref (ad [2]))]) rfl ?_
  have hσ1 := hσ.1
  have hσ2 := hσ.2.1
  refine V_aload C dL_loudEchoes_0 4 rfl ?_
  refine V_iconst (v := nI 0) C dL_loudEchoes_2 (by decide) ?_
  refine V_aload_n C dL_loudEchoes_3 0 rfl ?_
  refine V_iload_n C dL_loudEchoes_4 1 rfl ?_
  refine V_iload_n C dL_loudEchoes_5 2 rfl ?_
  refine V_iload_n C dL_loudEchoes_6 3 rfl ?_
  refine V_callV (r := (RX6, TX6, 8)) C [.int x, .int y, .int z] dL_loudEchoes_7 m_X6_loudEchoes k_X6_loudEchoes tw_561 rfl rfl rfl PW_b rfl rfl (Nat.le_of_ble_eq_true rfl) ⟨by omega, by omega, by omega, by omega⟩ (p_loudEchoes_no hl (by omega) hσ hx y z) kr_no (kx_XP (fun tl t lo => VX_catch C "java/lang/IndexOutOfBoundsException" [] ⟨0, 12, 15, 21⟩ [⟨0, 12, 19, 13⟩] rfl (fun z hz => absurd hz (by simp)) rfl (by decide) tw_346 (by decide +kernel) (fun a9 => ?_)))
  refine V_astore C [(5, .ref a9), (0, .ref (ad [0])), (1, .int x), (2, .int y), (3, .int z), (4, .ref (ad [2]))] dL_loudEchoes_15 (by decide) rfl ?_
  refine V_iconst (v := nI 1) C dL_loudEchoes_17 (by decide) ?_
  exact V_iret C .int dL_loudEchoes_18 hr rfl ⟨rfl, ⟨fun _ _ _ => rfl, rfl⟩, _, _, _, rfl⟩ (by omega) (by omega)
set_option maxHeartbeats 4000000 in
theorem w_loudEchoes_bad {l : Launch} {D : va_G} {ba d : Nat} {ad : Adr} (hl : l.stackTraces = false) (hd : 10 ≤ d) {σ : CS} {tl : Int32} {t : TT} {lo : Nat → Int32} {o : Wd} (hσ : cOK σ) {f0 : Nat → Int64} (ho2 : o [2] = some (eJ 1 f0)) {j : Nat} (hj : j < cN σ) {y : Int32} (hin : inR y (nI 1) (nI 1000) = 0) (z : Int32)  : CT l yL_loudEchoes (wsH yL_loudEchoes cL_loudEchoes 6 (some .int) [(0, 12, 15, 21), (0, 12, 19, 13)]) d 8 64 D ba [.ref (ad [0]), .int (nI j), .int y, .int z, .ref (ad [2])] ad (PW 0 ad σ tl t lo o) (WR ad σ o 2) noX := by
  refine CT_ofH RL rfl (by decide +kernel) hl (Nat.le_of_ble_eq_true rfl) ?_
  intro p e s m args below meth c C hr hnm
  refine V_lvE (lv' := [(0, .ref (ad [0])), (1, .int (nI j)), (2, .int y), (3, .int z), (4, .ref (ad [2]))]) rfl ?_
  have hσ1 := hσ.1
  have hσ2 := hσ.2.1
  refine V_aload C dL_loudEchoes_0 4 rfl ?_
  refine V_iconst (v := nI 0) C dL_loudEchoes_2 (by decide) ?_
  refine V_aload_n C dL_loudEchoes_3 0 rfl ?_
  refine V_iload_n C dL_loudEchoes_4 1 rfl ?_
  refine V_iload_n C dL_loudEchoes_5 2 rfl ?_
  refine V_iload_n C dL_loudEchoes_6 3 rfl ?_
  refine V_callV (r := (RX6, TX6, 8)) C [.int (nI j), .int y, .int z] dL_loudEchoes_7 m_X6_loudEchoes k_X6_loudEchoes tw_561 rfl rfl rfl PW_b rfl rfl (Nat.le_of_ble_eq_true rfl) ⟨by omega, by omega, by omega, by omega⟩ (p_loudEchoes_bad hl (by omega) hσ hj hin z) kr_no (kx_XP (fun tl t lo => VX_catch C "java/lang/IllegalArgumentException" [⟨0, 12, 15, 21⟩] ⟨0, 12, 19, 13⟩ [] rfl (fun z hz => by
        simp only [List.mem_cons, List.mem_nil_iff, or_false] at hz
        rcases hz with rfl
        · exact Or.inr ⟨by decide, "java/lang/IndexOutOfBoundsException", tw_346, by decide⟩) rfl (by decide) tw_216 (by decide +kernel) (fun a9 => ?_)))
  refine V_astore C [(5, .ref a9), (0, .ref (ad [0])), (1, .int (nI j)), (2, .int y), (3, .int z), (4, .ref (ad [2]))] dL_loudEchoes_19 (by decide) rfl ?_
  refine V_iconst (v := nI 2) C dL_loudEchoes_21 (by decide) ?_
  exact V_iret C .int dL_loudEchoes_22 hr rfl ⟨rfl, ⟨fun _ _ _ => rfl, rfl⟩, _, _, _, rfl⟩ (by omega) (by omega)
set_option maxHeartbeats 4000000 in
theorem w_loudEchoes_bad2 {l : Launch} {D : va_G} {ba d : Nat} {ad : Adr} (hl : l.stackTraces = false) (hd : 10 ≤ d) {σ : CS} {tl : Int32} {t : TT} {lo : Nat → Int32} {o : Wd} (hσ : cOK σ) {f0 : Nat → Int64} (ho2 : o [2] = some (eJ 1 f0)) {j : Nat} (hj : j < cN σ) {v : Nat} (hv : v ≤ 1000) (hin : ¬ inR (nI v) (nI 1) (nI 1000) = 0) {z : Int32} (hin2 : inR z (nI 1) (nI 1000) = 0)  : CT l yL_loudEchoes (wsH yL_loudEchoes cL_loudEchoes 6 (some .int) [(0, 12, 15, 21), (0, 12, 19, 13)]) d 8 64 D ba [.ref (ad [0]), .int (nI j), .int (nI v), .int z, .ref (ad [2])] ad (PW 0 ad σ tl t lo o) (WR ad σ o 2) noX := by
  refine CT_ofH RL rfl (by decide +kernel) hl (Nat.le_of_ble_eq_true rfl) ?_
  intro p e s m args below meth c C hr hnm
  refine V_lvE (lv' := [(0, .ref (ad [0])), (1, .int (nI j)), (2, .int (nI v)), (3, .int z), (4, .ref (ad [2]))]) rfl ?_
  have hσ1 := hσ.1
  have hσ2 := hσ.2.1
  refine V_aload C dL_loudEchoes_0 4 rfl ?_
  refine V_iconst (v := nI 0) C dL_loudEchoes_2 (by decide) ?_
  refine V_aload_n C dL_loudEchoes_3 0 rfl ?_
  refine V_iload_n C dL_loudEchoes_4 1 rfl ?_
  refine V_iload_n C dL_loudEchoes_5 2 rfl ?_
  refine V_iload_n C dL_loudEchoes_6 3 rfl ?_
  refine V_callV (r := (RX6, TX6, 8)) C [.int (nI j), .int (nI v), .int z] dL_loudEchoes_7 m_X6_loudEchoes k_X6_loudEchoes tw_561 rfl rfl rfl PW_b rfl rfl (Nat.le_of_ble_eq_true rfl) ⟨by omega, by omega, by omega, by omega⟩ (p_loudEchoes_bad2 hl (by omega) hσ hj hv hin hin2) kr_no (kx_XP (fun tl t lo => VX_catch C "java/lang/IllegalArgumentException" [⟨0, 12, 15, 21⟩] ⟨0, 12, 19, 13⟩ [] rfl (fun z hz => by
        simp only [List.mem_cons, List.mem_nil_iff, or_false] at hz
        rcases hz with rfl
        · exact Or.inr ⟨by decide, "java/lang/IndexOutOfBoundsException", tw_346, by decide⟩) rfl (by decide) tw_216 (by decide +kernel) (fun a9 => ?_)))
  refine V_astore C [(5, .ref a9), (0, .ref (ad [0])), (1, .int (nI j)), (2, .int (nI v)), (3, .int z), (4, .ref (ad [2]))] dL_loudEchoes_19 (by decide) rfl ?_
  refine V_iconst (v := nI 2) C dL_loudEchoes_21 (by decide) ?_
  exact V_iret C .int dL_loudEchoes_22 hr rfl ⟨rfl, ⟨fun _ _ _ => rfl, rfl⟩, _, _, _, rfl⟩ (by omega) (by omega)
set_option maxHeartbeats 4000000 in
theorem w_firstEcho {l : Launch} {D : va_G} {ba d : Nat} {ad : Adr} (hl : l.stackTraces = false) (hd : 10 ≤ d) {σ : CS} {tl : Int32} {t : TT} {lo : Nat → Int32} {o : Wd} (hσ : cOK σ) {f0 : Nat → Int64} (ho2 : o [2] = some (eJ 1 f0)) {j : Nat} (hj : j < cN σ) {v : Nat} (hv : v ≤ 1000) (hin : ¬ inR (nI v) (nI 1) (nI 1000) = 0)  : CT l yL_firstEcho (wsH yL_firstEcho cL_firstEcho 5 (some .int) [(0, 10, 13, 21), (0, 10, 17, 13)]) d 8 64 D ba [.ref (ad [0]), .int (nI j), .int (nI v), .ref (ad [2])] ad (PW 0 ad σ tl t lo o) (WR ad σ (wset o [2] (eJ 1 (vp_updL f0 0 (((tly (cH σ j) (nI 1) v).2.2.1)).toInt64))) 0) noX := by
  refine CT_ofH RL rfl (by decide +kernel) hl (Nat.le_of_ble_eq_true rfl) ?_
  intro p e s m args below meth c C hr hnm
  refine V_lvE (lv' := [(0, .ref (ad [0])), (1, .int (nI j)), (2, .int (nI v)), (3, .ref (ad [2]))]) rfl ?_
  have hσ1 := hσ.1
  have hσ2 := hσ.2.1
  refine V_aload_n C dL_firstEcho_0 3 rfl ?_
  refine V_iconst (v := nI 0) C dL_firstEcho_1 (by decide) ?_
  refine V_aload_n C dL_firstEcho_2 0 rfl ?_
  refine V_iload_n C dL_firstEcho_3 1 rfl ?_
  refine V_iload_n C dL_firstEcho_4 2 rfl ?_
  refine V_callV (r := (RX6, TX6, 8)) C [.int (nI j), .int (nI v)] dL_firstEcho_5 m_X6_firstEcho k_X6_firstEcho tw_568 rfl rfl rfl PW_b rfl rfl (Nat.le_of_ble_eq_true rfl) ⟨by omega, by omega, by omega, by omega⟩ (p_firstEcho hl (by omega) hσ hj hv hin) (kr_RP (x := .int ((tly (cH σ j) (nI 1) v).2.2.1)) (fun tl t lo => ?_)) kx_no
  refine V_i2l C dL_firstEcho_8 rfl ?_
  refine V_lastn C dL_firstEcho_9 rfl (PW_2.trans ho2) (by decide) (by decide) ?_
  refine V_wd (w' := wset (PW 0 ad σ tl t lo o) ([2]) (eJ 1 (vp_updL f0 0 (((tly (cH σ j) (nI 1) v).2.2.1).toInt64)))) rfl ?_
  refine V_goto (tgt := 21) C dL_firstEcho_10 (by decide) ?_
  refine V_iconst (v := nI 0) C dL_firstEcho_21 (by decide) ?_
  exact V_iret C .int dL_firstEcho_22 hr rfl ⟨rfl, ⟨fun _ _ _ => rfl, rfl⟩, _, _, _, PW_o2⟩ (by omega) (by omega)
set_option maxHeartbeats 4000000 in
theorem w_firstEcho_no {l : Launch} {D : va_G} {ba d : Nat} {ad : Adr} (hl : l.stackTraces = false) (hd : 10 ≤ d) {σ : CS} {tl : Int32} {t : TT} {lo : Nat → Int32} {o : Wd} (hσ : cOK σ) {f0 : Nat → Int64} (ho2 : o [2] = some (eJ 1 f0)) {x : Int32} (hx : ∀ j, j < cN σ → x ≠ nI j) (y : Int32)  : CT l yL_firstEcho (wsH yL_firstEcho cL_firstEcho 5 (some .int) [(0, 10, 13, 21), (0, 10, 17, 13)]) d 8 64 D ba [.ref (ad [0]), .int x, .int y, .ref (ad [2])] ad (PW 0 ad σ tl t lo o) (WR ad σ o 1) noX := by
  refine CT_ofH RL rfl (by decide +kernel) hl (Nat.le_of_ble_eq_true rfl) ?_
  intro p e s m args below meth c C hr hnm
  refine V_lvE (lv' := [(0, .ref (ad [0])), (1, .int x), (2, .int y), (3, .ref (ad [2]))]) rfl ?_
  have hσ1 := hσ.1
  have hσ2 := hσ.2.1
  refine V_aload_n C dL_firstEcho_0 3 rfl ?_
  refine V_iconst (v := nI 0) C dL_firstEcho_1 (by decide) ?_
  refine V_aload_n C dL_firstEcho_2 0 rfl ?_
  refine V_iload_n C dL_firstEcho_3 1 rfl ?_
  refine V_iload_n C dL_firstEcho_4 2 rfl ?_
  refine V_callV (r := (RX6, TX6, 8)) C [.int x, .int y] dL_firstEcho_5 m_X6_firstEcho k_X6_firstEcho tw_568 rfl rfl rfl PW_b rfl rfl (Nat.le_of_ble_eq_true rfl) ⟨by omega, by omega, by omega, by omega⟩ (p_firstEcho_no hl (by omega) hσ hx y) kr_no (kx_XP (fun tl t lo => VX_catch C "java/lang/IndexOutOfBoundsException" [] ⟨0, 10, 13, 21⟩ [⟨0, 10, 17, 13⟩] rfl (fun z hz => absurd hz (by simp)) rfl (by decide) tw_346 (by decide +kernel) (fun a9 => ?_)))
  refine V_astore C [(4, .ref a9), (0, .ref (ad [0])), (1, .int x), (2, .int y), (3, .ref (ad [2]))] dL_firstEcho_13 (by decide) rfl ?_
  refine V_iconst (v := nI 1) C dL_firstEcho_15 (by decide) ?_
  exact V_iret C .int dL_firstEcho_16 hr rfl ⟨rfl, ⟨fun _ _ _ => rfl, rfl⟩, _, _, _, rfl⟩ (by omega) (by omega)
set_option maxHeartbeats 4000000 in
theorem w_firstEcho_bad {l : Launch} {D : va_G} {ba d : Nat} {ad : Adr} (hl : l.stackTraces = false) (hd : 11 ≤ d) {σ : CS} {tl : Int32} {t : TT} {lo : Nat → Int32} {o : Wd} (hσ : cOK σ) {f0 : Nat → Int64} (ho2 : o [2] = some (eJ 1 f0)) {j : Nat} (hj : j < cN σ) {y : Int32} (hin : inR y (nI 1) (nI 1000) = 0)  : CT l yL_firstEcho (wsH yL_firstEcho cL_firstEcho 5 (some .int) [(0, 10, 13, 21), (0, 10, 17, 13)]) d 8 64 D ba [.ref (ad [0]), .int (nI j), .int y, .ref (ad [2])] ad (PW 0 ad σ tl t lo o) (WR ad σ o 2) noX := by
  refine CT_ofH RL rfl (by decide +kernel) hl (Nat.le_of_ble_eq_true rfl) ?_
  intro p e s m args below meth c C hr hnm
  refine V_lvE (lv' := [(0, .ref (ad [0])), (1, .int (nI j)), (2, .int y), (3, .ref (ad [2]))]) rfl ?_
  have hσ1 := hσ.1
  have hσ2 := hσ.2.1
  refine V_aload_n C dL_firstEcho_0 3 rfl ?_
  refine V_iconst (v := nI 0) C dL_firstEcho_1 (by decide) ?_
  refine V_aload_n C dL_firstEcho_2 0 rfl ?_
  refine V_iload_n C dL_firstEcho_3 1 rfl ?_
  refine V_iload_n C dL_firstEcho_4 2 rfl ?_
  refine V_callV (r := (RX6, TX6, 8)) C [.int (nI j), .int y] dL_firstEcho_5 m_X6_firstEcho k_X6_firstEcho tw_568 rfl rfl rfl PW_b rfl rfl (Nat.le_of_ble_eq_true rfl) ⟨by omega, by omega, by omega, by omega⟩ (p_firstEcho_bad hl (by omega) hσ hj hin) kr_no (kx_XP (fun tl t lo => VX_catch C "java/lang/IllegalArgumentException" [⟨0, 10, 13, 21⟩] ⟨0, 10, 17, 13⟩ [] rfl (fun z hz => by
        simp only [List.mem_cons, List.mem_nil_iff, or_false] at hz
        rcases hz with rfl
        · exact Or.inr ⟨by decide, "java/lang/IndexOutOfBoundsException", tw_346, by decide⟩) rfl (by decide) tw_216 (by decide +kernel) (fun a9 => ?_)))
  refine V_astore C [(4, .ref a9), (0, .ref (ad [0])), (1, .int (nI j)), (2, .int y), (3, .ref (ad [2]))] dL_firstEcho_17 (by decide) rfl ?_
  refine V_iconst (v := nI 2) C dL_firstEcho_19 (by decide) ?_
  exact V_iret C .int dL_firstEcho_20 hr rfl ⟨rfl, ⟨fun _ _ _ => rfl, rfl⟩, _, _, _, rfl⟩ (by omega) (by omega)
set_option maxHeartbeats 4000000 in
theorem w_lastEcho {l : Launch} {D : va_G} {ba d : Nat} {ad : Adr} (hl : l.stackTraces = false) (hd : 10 ≤ d) {σ : CS} {tl : Int32} {t : TT} {lo : Nat → Int32} {o : Wd} (hσ : cOK σ) {f0 : Nat → Int64} (ho2 : o [2] = some (eJ 1 f0)) {j : Nat} (hj : j < cN σ) {v : Nat} (hv : v ≤ 1000) (hin : ¬ inR (nI v) (nI 1) (nI 1000) = 0)  : CT l yL_lastEcho (wsH yL_lastEcho cL_lastEcho 5 (some .int) [(0, 10, 13, 21), (0, 10, 17, 13)]) d 8 64 D ba [.ref (ad [0]), .int (nI j), .int (nI v), .ref (ad [2])] ad (PW 0 ad σ tl t lo o) (WR ad σ (wset o [2] (eJ 1 (vp_updL f0 0 (((tly (cH σ j) (nI 1) v).2.2.2)).toInt64))) 0) noX := by
  refine CT_ofH RL rfl (by decide +kernel) hl (Nat.le_of_ble_eq_true rfl) ?_
  intro p e s m args below meth c C hr hnm
  refine V_lvE (lv' := [(0, .ref (ad [0])), (1, .int (nI j)), (2, .int (nI v)), (3, .ref (ad [2]))]) rfl ?_
  have hσ1 := hσ.1
  have hσ2 := hσ.2.1
  refine V_aload_n C dL_lastEcho_0 3 rfl ?_
  refine V_iconst (v := nI 0) C dL_lastEcho_1 (by decide) ?_
  refine V_aload_n C dL_lastEcho_2 0 rfl ?_
  refine V_iload_n C dL_lastEcho_3 1 rfl ?_
  refine V_iload_n C dL_lastEcho_4 2 rfl ?_
  refine V_callV (r := (RX6, TX6, 8)) C [.int (nI j), .int (nI v)] dL_lastEcho_5 m_X6_lastEcho k_X6_lastEcho tw_575 rfl rfl rfl PW_b rfl rfl (Nat.le_of_ble_eq_true rfl) ⟨by omega, by omega, by omega, by omega⟩ (p_lastEcho hl (by omega) hσ hj hv hin) (kr_RP (x := .int ((tly (cH σ j) (nI 1) v).2.2.2)) (fun tl t lo => ?_)) kx_no
  refine V_i2l C dL_lastEcho_8 rfl ?_
  refine V_lastn C dL_lastEcho_9 rfl (PW_2.trans ho2) (by decide) (by decide) ?_
  refine V_wd (w' := wset (PW 0 ad σ tl t lo o) ([2]) (eJ 1 (vp_updL f0 0 (((tly (cH σ j) (nI 1) v).2.2.2).toInt64)))) rfl ?_
  refine V_goto (tgt := 21) C dL_lastEcho_10 (by decide) ?_
  refine V_iconst (v := nI 0) C dL_lastEcho_21 (by decide) ?_
  exact V_iret C .int dL_lastEcho_22 hr rfl ⟨rfl, ⟨fun _ _ _ => rfl, rfl⟩, _, _, _, PW_o2⟩ (by omega) (by omega)
set_option maxHeartbeats 4000000 in
theorem w_lastEcho_no {l : Launch} {D : va_G} {ba d : Nat} {ad : Adr} (hl : l.stackTraces = false) (hd : 10 ≤ d) {σ : CS} {tl : Int32} {t : TT} {lo : Nat → Int32} {o : Wd} (hσ : cOK σ) {f0 : Nat → Int64} (ho2 : o [2] = some (eJ 1 f0)) {x : Int32} (hx : ∀ j, j < cN σ → x ≠ nI j) (y : Int32)  : CT l yL_lastEcho (wsH yL_lastEcho cL_lastEcho 5 (some .int) [(0, 10, 13, 21), (0, 10, 17, 13)]) d 8 64 D ba [.ref (ad [0]), .int x, .int y, .ref (ad [2])] ad (PW 0 ad σ tl t lo o) (WR ad σ o 1) noX := by
  refine CT_ofH RL rfl (by decide +kernel) hl (Nat.le_of_ble_eq_true rfl) ?_
  intro p e s m args below meth c C hr hnm
  refine V_lvE (lv' := [(0, .ref (ad [0])), (1, .int x), (2, .int y), (3, .ref (ad [2]))]) rfl ?_
  have hσ1 := hσ.1
  have hσ2 := hσ.2.1
  refine V_aload_n C dL_lastEcho_0 3 rfl ?_
  refine V_iconst (v := nI 0) C dL_lastEcho_1 (by decide) ?_
  refine V_aload_n C dL_lastEcho_2 0 rfl ?_
  refine V_iload_n C dL_lastEcho_3 1 rfl ?_
  refine V_iload_n C dL_lastEcho_4 2 rfl ?_
  refine V_callV (r := (RX6, TX6, 8)) C [.int x, .int y] dL_lastEcho_5 m_X6_lastEcho k_X6_lastEcho tw_575 rfl rfl rfl PW_b rfl rfl (Nat.le_of_ble_eq_true rfl) ⟨by omega, by omega, by omega, by omega⟩ (p_lastEcho_no hl (by omega) hσ hx y) kr_no (kx_XP (fun tl t lo => VX_catch C "java/lang/IndexOutOfBoundsException" [] ⟨0, 10, 13, 21⟩ [⟨0, 10, 17, 13⟩] rfl (fun z hz => absurd hz (by simp)) rfl (by decide) tw_346 (by decide +kernel) (fun a9 => ?_)))
  refine V_astore C [(4, .ref a9), (0, .ref (ad [0])), (1, .int x), (2, .int y), (3, .ref (ad [2]))] dL_lastEcho_13 (by decide) rfl ?_
  refine V_iconst (v := nI 1) C dL_lastEcho_15 (by decide) ?_
  exact V_iret C .int dL_lastEcho_16 hr rfl ⟨rfl, ⟨fun _ _ _ => rfl, rfl⟩, _, _, _, rfl⟩ (by omega) (by omega)
set_option maxHeartbeats 4000000 in
theorem w_lastEcho_bad {l : Launch} {D : va_G} {ba d : Nat} {ad : Adr} (hl : l.stackTraces = false) (hd : 11 ≤ d) {σ : CS} {tl : Int32} {t : TT} {lo : Nat → Int32} {o : Wd} (hσ : cOK σ) {f0 : Nat → Int64} (ho2 : o [2] = some (eJ 1 f0)) {j : Nat} (hj : j < cN σ) {y : Int32} (hin : inR y (nI 1) (nI 1000) = 0)  : CT l yL_lastEcho (wsH yL_lastEcho cL_lastEcho 5 (some .int) [(0, 10, 13, 21), (0, 10, 17, 13)]) d 8 64 D ba [.ref (ad [0]), .int (nI j), .int y, .ref (ad [2])] ad (PW 0 ad σ tl t lo o) (WR ad σ o 2) noX := by
  refine CT_ofH RL rfl (by decide +kernel) hl (Nat.le_of_ble_eq_true rfl) ?_
  intro p e s m args below meth c C hr hnm
  refine V_lvE (lv' := [(0, .ref (ad [0])), (1, .int (nI j)), (2, .int y), (3, .ref (ad [2]))]) rfl ?_
  have hσ1 := hσ.1
  have hσ2 := hσ.2.1
  refine V_aload_n C dL_lastEcho_0 3 rfl ?_
  refine V_iconst (v := nI 0) C dL_lastEcho_1 (by decide) ?_
  refine V_aload_n C dL_lastEcho_2 0 rfl ?_
  refine V_iload_n C dL_lastEcho_3 1 rfl ?_
  refine V_iload_n C dL_lastEcho_4 2 rfl ?_
  refine V_callV (r := (RX6, TX6, 8)) C [.int (nI j), .int y] dL_lastEcho_5 m_X6_lastEcho k_X6_lastEcho tw_575 rfl rfl rfl PW_b rfl rfl (Nat.le_of_ble_eq_true rfl) ⟨by omega, by omega, by omega, by omega⟩ (p_lastEcho_bad hl (by omega) hσ hj hin) kr_no (kx_XP (fun tl t lo => VX_catch C "java/lang/IllegalArgumentException" [⟨0, 10, 13, 21⟩] ⟨0, 10, 17, 13⟩ [] rfl (fun z hz => by
        simp only [List.mem_cons, List.mem_nil_iff, or_false] at hz
        rcases hz with rfl
        · exact Or.inr ⟨by decide, "java/lang/IndexOutOfBoundsException", tw_346, by decide⟩) rfl (by decide) tw_216 (by decide +kernel) (fun a9 => ?_)))
  refine V_astore C [(4, .ref a9), (0, .ref (ad [0])), (1, .int (nI j)), (2, .int y), (3, .ref (ad [2]))] dL_lastEcho_17 (by decide) rfl ?_
  refine V_iconst (v := nI 2) C dL_lastEcho_19 (by decide) ?_
  exact V_iret C .int dL_lastEcho_20 hr rfl ⟨rfl, ⟨fun _ _ _ => rfl, rfl⟩, _, _, _, rfl⟩ (by omega) (by omega)
set_option maxHeartbeats 4000000 in
theorem w_loudnessAt {l : Launch} {D : va_G} {ba d : Nat} {ad : Adr} (hl : l.stackTraces = false) (hd : 10 ≤ d) {σ : CS} {tl : Int32} {t : TT} {lo : Nat → Int32} {o : Wd} (hσ : cOK σ) {f0 : Nat → Int64} (ho2 : o [2] = some (eJ 1 f0)) {j : Nat} (hj : j < cN σ) {v : Nat} (hv : v ≤ 1000) (hin : ¬ inR (nI v) (nI 1) (nI 1000) = 0) {m1 : Nat} (hm : m1 ≤ 3000) (hin2 : ¬ inR (nI m1) (nI 0) (nI 3000) = 0)  : CT l yL_loudnessAt (wsH yL_loudnessAt cL_loudnessAt 6 (some .int) [(0, 12, 15, 21), (0, 12, 19, 13)]) d 8 64 D ba [.ref (ad [0]), .int (nI j), .int (nI v), .int (nI m1), .ref (ad [2])] ad (PW 0 ad σ tl t lo o) (WR ad σ (wset o [2] (eJ 1 (vp_updL f0 0 ((if m1 % 6 = 0 then ldz (cH σ j) v (m1 / 6) else nI 0)).toInt64))) 0) noX := by
  refine CT_ofH RL rfl (by decide +kernel) hl (Nat.le_of_ble_eq_true rfl) ?_
  intro p e s m args below meth c C hr hnm
  refine V_lvE (lv' := [(0, .ref (ad [0])), (1, .int (nI j)), (2, .int (nI v)), (3, .int (nI m1)), (4, .ref (ad [2]))]) rfl ?_
  have hσ1 := hσ.1
  have hσ2 := hσ.2.1
  refine V_aload C dL_loudnessAt_0 4 rfl ?_
  refine V_iconst (v := nI 0) C dL_loudnessAt_2 (by decide) ?_
  refine V_aload_n C dL_loudnessAt_3 0 rfl ?_
  refine V_iload_n C dL_loudnessAt_4 1 rfl ?_
  refine V_iload_n C dL_loudnessAt_5 2 rfl ?_
  refine V_iload_n C dL_loudnessAt_6 3 rfl ?_
  refine V_callV (r := (RX6, TX6, 8)) C [.int (nI j), .int (nI v), .int (nI m1)] dL_loudnessAt_7 m_X6_loudnessAt k_X6_loudnessAt tw_582 rfl rfl rfl PW_b rfl rfl (Nat.le_of_ble_eq_true rfl) ⟨by omega, by omega, by omega, by omega⟩ (p_loudnessAt hl (by omega) hσ hj hv hin hm hin2) (kr_RP (x := .int (if m1 % 6 = 0 then ldz (cH σ j) v (m1 / 6) else nI 0)) (fun tl t lo => ?_)) kx_no
  refine V_i2l C dL_loudnessAt_10 rfl ?_
  refine V_lastn C dL_loudnessAt_11 rfl (PW_2.trans ho2) (by decide) (by decide) ?_
  refine V_wd (w' := wset (PW 0 ad σ tl t lo o) ([2]) (eJ 1 (vp_updL f0 0 ((if m1 % 6 = 0 then ldz (cH σ j) v (m1 / 6) else nI 0).toInt64)))) rfl ?_
  refine V_goto (tgt := 23) C dL_loudnessAt_12 (by decide) ?_
  refine V_iconst (v := nI 0) C dL_loudnessAt_23 (by decide) ?_
  exact V_iret C .int dL_loudnessAt_24 hr rfl ⟨rfl, ⟨fun _ _ _ => rfl, rfl⟩, _, _, _, PW_o2⟩ (by omega) (by omega)
set_option maxHeartbeats 4000000 in
theorem w_loudnessAt_no {l : Launch} {D : va_G} {ba d : Nat} {ad : Adr} (hl : l.stackTraces = false) (hd : 10 ≤ d) {σ : CS} {tl : Int32} {t : TT} {lo : Nat → Int32} {o : Wd} (hσ : cOK σ) {f0 : Nat → Int64} (ho2 : o [2] = some (eJ 1 f0)) {x : Int32} (hx : ∀ j, j < cN σ → x ≠ nI j) (y z : Int32)  : CT l yL_loudnessAt (wsH yL_loudnessAt cL_loudnessAt 6 (some .int) [(0, 12, 15, 21), (0, 12, 19, 13)]) d 8 64 D ba [.ref (ad [0]), .int x, .int y, .int z, .ref (ad [2])] ad (PW 0 ad σ tl t lo o) (WR ad σ o 1) noX := by
  refine CT_ofH RL rfl (by decide +kernel) hl (Nat.le_of_ble_eq_true rfl) ?_
  intro p e s m args below meth c C hr hnm
  refine V_lvE (lv' := [(0, .ref (ad [0])), (1, .int x), (2, .int y), (3, .int z), (4, .ref (ad [2]))]) rfl ?_
  have hσ1 := hσ.1
  have hσ2 := hσ.2.1
  refine V_aload C dL_loudnessAt_0 4 rfl ?_
  refine V_iconst (v := nI 0) C dL_loudnessAt_2 (by decide) ?_
  refine V_aload_n C dL_loudnessAt_3 0 rfl ?_
  refine V_iload_n C dL_loudnessAt_4 1 rfl ?_
  refine V_iload_n C dL_loudnessAt_5 2 rfl ?_
  refine V_iload_n C dL_loudnessAt_6 3 rfl ?_
  refine V_callV (r := (RX6, TX6, 8)) C [.int x, .int y, .int z] dL_loudnessAt_7 m_X6_loudnessAt k_X6_loudnessAt tw_582 rfl rfl rfl PW_b rfl rfl (Nat.le_of_ble_eq_true rfl) ⟨by omega, by omega, by omega, by omega⟩ (p_loudnessAt_no hl (by omega) hσ hx y z) kr_no (kx_XP (fun tl t lo => VX_catch C "java/lang/IndexOutOfBoundsException" [] ⟨0, 12, 15, 21⟩ [⟨0, 12, 19, 13⟩] rfl (fun z hz => absurd hz (by simp)) rfl (by decide) tw_346 (by decide +kernel) (fun a9 => ?_)))
  refine V_astore C [(5, .ref a9), (0, .ref (ad [0])), (1, .int x), (2, .int y), (3, .int z), (4, .ref (ad [2]))] dL_loudnessAt_15 (by decide) rfl ?_
  refine V_iconst (v := nI 1) C dL_loudnessAt_17 (by decide) ?_
  exact V_iret C .int dL_loudnessAt_18 hr rfl ⟨rfl, ⟨fun _ _ _ => rfl, rfl⟩, _, _, _, rfl⟩ (by omega) (by omega)
set_option maxHeartbeats 4000000 in
theorem w_loudnessAt_bad {l : Launch} {D : va_G} {ba d : Nat} {ad : Adr} (hl : l.stackTraces = false) (hd : 10 ≤ d) {σ : CS} {tl : Int32} {t : TT} {lo : Nat → Int32} {o : Wd} (hσ : cOK σ) {f0 : Nat → Int64} (ho2 : o [2] = some (eJ 1 f0)) {j : Nat} (hj : j < cN σ) {y : Int32} (hin : inR y (nI 1) (nI 1000) = 0) (z : Int32)  : CT l yL_loudnessAt (wsH yL_loudnessAt cL_loudnessAt 6 (some .int) [(0, 12, 15, 21), (0, 12, 19, 13)]) d 8 64 D ba [.ref (ad [0]), .int (nI j), .int y, .int z, .ref (ad [2])] ad (PW 0 ad σ tl t lo o) (WR ad σ o 2) noX := by
  refine CT_ofH RL rfl (by decide +kernel) hl (Nat.le_of_ble_eq_true rfl) ?_
  intro p e s m args below meth c C hr hnm
  refine V_lvE (lv' := [(0, .ref (ad [0])), (1, .int (nI j)), (2, .int y), (3, .int z), (4, .ref (ad [2]))]) rfl ?_
  have hσ1 := hσ.1
  have hσ2 := hσ.2.1
  refine V_aload C dL_loudnessAt_0 4 rfl ?_
  refine V_iconst (v := nI 0) C dL_loudnessAt_2 (by decide) ?_
  refine V_aload_n C dL_loudnessAt_3 0 rfl ?_
  refine V_iload_n C dL_loudnessAt_4 1 rfl ?_
  refine V_iload_n C dL_loudnessAt_5 2 rfl ?_
  refine V_iload_n C dL_loudnessAt_6 3 rfl ?_
  refine V_callV (r := (RX6, TX6, 8)) C [.int (nI j), .int y, .int z] dL_loudnessAt_7 m_X6_loudnessAt k_X6_loudnessAt tw_582 rfl rfl rfl PW_b rfl rfl (Nat.le_of_ble_eq_true rfl) ⟨by omega, by omega, by omega, by omega⟩ (p_loudnessAt_bad hl (by omega) hσ hj hin z) kr_no (kx_XP (fun tl t lo => VX_catch C "java/lang/IllegalArgumentException" [⟨0, 12, 15, 21⟩] ⟨0, 12, 19, 13⟩ [] rfl (fun z hz => by
        simp only [List.mem_cons, List.mem_nil_iff, or_false] at hz
        rcases hz with rfl
        · exact Or.inr ⟨by decide, "java/lang/IndexOutOfBoundsException", tw_346, by decide⟩) rfl (by decide) tw_216 (by decide +kernel) (fun a9 => ?_)))
  refine V_astore C [(5, .ref a9), (0, .ref (ad [0])), (1, .int (nI j)), (2, .int y), (3, .int z), (4, .ref (ad [2]))] dL_loudnessAt_19 (by decide) rfl ?_
  refine V_iconst (v := nI 2) C dL_loudnessAt_21 (by decide) ?_
  exact V_iret C .int dL_loudnessAt_22 hr rfl ⟨rfl, ⟨fun _ _ _ => rfl, rfl⟩, _, _, _, rfl⟩ (by omega) (by omega)
set_option maxHeartbeats 4000000 in
theorem w_loudnessAt_bad2 {l : Launch} {D : va_G} {ba d : Nat} {ad : Adr} (hl : l.stackTraces = false) (hd : 10 ≤ d) {σ : CS} {tl : Int32} {t : TT} {lo : Nat → Int32} {o : Wd} (hσ : cOK σ) {f0 : Nat → Int64} (ho2 : o [2] = some (eJ 1 f0)) {j : Nat} (hj : j < cN σ) {v : Nat} (hv : v ≤ 1000) (hin : ¬ inR (nI v) (nI 1) (nI 1000) = 0) {z : Int32} (hin2 : inR z (nI 0) (nI 3000) = 0)  : CT l yL_loudnessAt (wsH yL_loudnessAt cL_loudnessAt 6 (some .int) [(0, 12, 15, 21), (0, 12, 19, 13)]) d 8 64 D ba [.ref (ad [0]), .int (nI j), .int (nI v), .int z, .ref (ad [2])] ad (PW 0 ad σ tl t lo o) (WR ad σ o 2) noX := by
  refine CT_ofH RL rfl (by decide +kernel) hl (Nat.le_of_ble_eq_true rfl) ?_
  intro p e s m args below meth c C hr hnm
  refine V_lvE (lv' := [(0, .ref (ad [0])), (1, .int (nI j)), (2, .int (nI v)), (3, .int z), (4, .ref (ad [2]))]) rfl ?_
  have hσ1 := hσ.1
  have hσ2 := hσ.2.1
  refine V_aload C dL_loudnessAt_0 4 rfl ?_
  refine V_iconst (v := nI 0) C dL_loudnessAt_2 (by decide) ?_
  refine V_aload_n C dL_loudnessAt_3 0 rfl ?_
  refine V_iload_n C dL_loudnessAt_4 1 rfl ?_
  refine V_iload_n C dL_loudnessAt_5 2 rfl ?_
  refine V_iload_n C dL_loudnessAt_6 3 rfl ?_
  refine V_callV (r := (RX6, TX6, 8)) C [.int (nI j), .int (nI v), .int z] dL_loudnessAt_7 m_X6_loudnessAt k_X6_loudnessAt tw_582 rfl rfl rfl PW_b rfl rfl (Nat.le_of_ble_eq_true rfl) ⟨by omega, by omega, by omega, by omega⟩ (p_loudnessAt_bad2 hl (by omega) hσ hj hv hin hin2) kr_no (kx_XP (fun tl t lo => VX_catch C "java/lang/IllegalArgumentException" [⟨0, 12, 15, 21⟩] ⟨0, 12, 19, 13⟩ [] rfl (fun z hz => by
        simp only [List.mem_cons, List.mem_nil_iff, or_false] at hz
        rcases hz with rfl
        · exact Or.inr ⟨by decide, "java/lang/IndexOutOfBoundsException", tw_346, by decide⟩) rfl (by decide) tw_216 (by decide +kernel) (fun a9 => ?_)))
  refine V_astore C [(5, .ref a9), (0, .ref (ad [0])), (1, .int (nI j)), (2, .int (nI v)), (3, .int z), (4, .ref (ad [2]))] dL_loudnessAt_19 (by decide) rfl ?_
  refine V_iconst (v := nI 2) C dL_loudnessAt_21 (by decide) ?_
  exact V_iret C .int dL_loudnessAt_22 hr rfl ⟨rfl, ⟨fun _ _ _ => rfl, rfl⟩, _, _, _, rfl⟩ (by omega) (by omega)
set_option maxHeartbeats 4000000 in
theorem w_loudestMoment {l : Launch} {D : va_G} {ba d : Nat} {ad : Adr} (hl : l.stackTraces = false) (hd : 10 ≤ d) {σ : CS} {tl : Int32} {t : TT} {lo : Nat → Int32} {o : Wd} (hσ : cOK σ) {f0 : Nat → Int64} (ho2 : o [2] = some (eJ 1 f0)) {j : Nat} (hj : j < cN σ) {v : Nat} (hv : v ≤ 1000) (hin : ¬ inR (nI v) (nI 1) (nI 1000) = 0)  : CT l yL_loudestMoment (wsH yL_loudestMoment cL_loudestMoment 5 (some .int) [(0, 10, 13, 21), (0, 10, 17, 13)]) d 8 64 D ba [.ref (ad [0]), .int (nI j), .int (nI v), .ref (ad [2])] ad (PW 0 ad σ tl t lo o) (WR ad σ (wset o [2] (eJ 1 (vp_updL f0 0 ((momF (ldz (cH σ j) v) 501 0 (nI 0) (-1))).toInt64))) 0) noX := by
  refine CT_ofH RL rfl (by decide +kernel) hl (Nat.le_of_ble_eq_true rfl) ?_
  intro p e s m args below meth c C hr hnm
  refine V_lvE (lv' := [(0, .ref (ad [0])), (1, .int (nI j)), (2, .int (nI v)), (3, .ref (ad [2]))]) rfl ?_
  have hσ1 := hσ.1
  have hσ2 := hσ.2.1
  refine V_aload_n C dL_loudestMoment_0 3 rfl ?_
  refine V_iconst (v := nI 0) C dL_loudestMoment_1 (by decide) ?_
  refine V_aload_n C dL_loudestMoment_2 0 rfl ?_
  refine V_iload_n C dL_loudestMoment_3 1 rfl ?_
  refine V_iload_n C dL_loudestMoment_4 2 rfl ?_
  refine V_callV (r := (RX6, TX6, 8)) C [.int (nI j), .int (nI v)] dL_loudestMoment_5 m_X6_loudestMoment k_X6_loudestMoment tw_594 rfl rfl rfl PW_b rfl rfl (Nat.le_of_ble_eq_true rfl) ⟨by omega, by omega, by omega, by omega⟩ (p_loudestMoment hl (by omega) hσ hj hv hin) (kr_RP (x := .int (momF (ldz (cH σ j) v) 501 0 (nI 0) (-1))) (fun tl t lo => ?_)) kx_no
  refine V_i2l C dL_loudestMoment_8 rfl ?_
  refine V_lastn C dL_loudestMoment_9 rfl (PW_2.trans ho2) (by decide) (by decide) ?_
  refine V_wd (w' := wset (PW 0 ad σ tl t lo o) ([2]) (eJ 1 (vp_updL f0 0 ((momF (ldz (cH σ j) v) 501 0 (nI 0) (-1)).toInt64)))) rfl ?_
  refine V_goto (tgt := 21) C dL_loudestMoment_10 (by decide) ?_
  refine V_iconst (v := nI 0) C dL_loudestMoment_21 (by decide) ?_
  exact V_iret C .int dL_loudestMoment_22 hr rfl ⟨rfl, ⟨fun _ _ _ => rfl, rfl⟩, _, _, _, PW_o2⟩ (by omega) (by omega)
set_option maxHeartbeats 4000000 in
theorem w_loudestMoment_no {l : Launch} {D : va_G} {ba d : Nat} {ad : Adr} (hl : l.stackTraces = false) (hd : 10 ≤ d) {σ : CS} {tl : Int32} {t : TT} {lo : Nat → Int32} {o : Wd} (hσ : cOK σ) {f0 : Nat → Int64} (ho2 : o [2] = some (eJ 1 f0)) {x : Int32} (hx : ∀ j, j < cN σ → x ≠ nI j) (y : Int32)  : CT l yL_loudestMoment (wsH yL_loudestMoment cL_loudestMoment 5 (some .int) [(0, 10, 13, 21), (0, 10, 17, 13)]) d 8 64 D ba [.ref (ad [0]), .int x, .int y, .ref (ad [2])] ad (PW 0 ad σ tl t lo o) (WR ad σ o 1) noX := by
  refine CT_ofH RL rfl (by decide +kernel) hl (Nat.le_of_ble_eq_true rfl) ?_
  intro p e s m args below meth c C hr hnm
  refine V_lvE (lv' := [(0, .ref (ad [0])), (1, .int x), (2, .int y), (3, .ref (ad [2]))]) rfl ?_
  have hσ1 := hσ.1
  have hσ2 := hσ.2.1
  refine V_aload_n C dL_loudestMoment_0 3 rfl ?_
  refine V_iconst (v := nI 0) C dL_loudestMoment_1 (by decide) ?_
  refine V_aload_n C dL_loudestMoment_2 0 rfl ?_
  refine V_iload_n C dL_loudestMoment_3 1 rfl ?_
  refine V_iload_n C dL_loudestMoment_4 2 rfl ?_
  refine V_callV (r := (RX6, TX6, 8)) C [.int x, .int y] dL_loudestMoment_5 m_X6_loudestMoment k_X6_loudestMoment tw_594 rfl rfl rfl PW_b rfl rfl (Nat.le_of_ble_eq_true rfl) ⟨by omega, by omega, by omega, by omega⟩ (p_loudestMoment_no hl (by omega) hσ hx y) kr_no (kx_XP (fun tl t lo => VX_catch C "java/lang/IndexOutOfBoundsException" [] ⟨0, 10, 13, 21⟩ [⟨0, 10, 17, 13⟩] rfl (fun z hz => absurd hz (by simp)) rfl (by decide) tw_346 (by decide +kernel) (fun a9 => ?_)))
  refine V_astore C [(4, .ref a9), (0, .ref (ad [0])), (1, .int x), (2, .int y), (3, .ref (ad [2]))] dL_loudestMoment_13 (by decide) rfl ?_
  refine V_iconst (v := nI 1) C dL_loudestMoment_15 (by decide) ?_
  exact V_iret C .int dL_loudestMoment_16 hr rfl ⟨rfl, ⟨fun _ _ _ => rfl, rfl⟩, _, _, _, rfl⟩ (by omega) (by omega)
set_option maxHeartbeats 4000000 in
theorem w_loudestMoment_bad {l : Launch} {D : va_G} {ba d : Nat} {ad : Adr} (hl : l.stackTraces = false) (hd : 10 ≤ d) {σ : CS} {tl : Int32} {t : TT} {lo : Nat → Int32} {o : Wd} (hσ : cOK σ) {f0 : Nat → Int64} (ho2 : o [2] = some (eJ 1 f0)) {j : Nat} (hj : j < cN σ) {y : Int32} (hin : inR y (nI 1) (nI 1000) = 0)  : CT l yL_loudestMoment (wsH yL_loudestMoment cL_loudestMoment 5 (some .int) [(0, 10, 13, 21), (0, 10, 17, 13)]) d 8 64 D ba [.ref (ad [0]), .int (nI j), .int y, .ref (ad [2])] ad (PW 0 ad σ tl t lo o) (WR ad σ o 2) noX := by
  refine CT_ofH RL rfl (by decide +kernel) hl (Nat.le_of_ble_eq_true rfl) ?_
  intro p e s m args below meth c C hr hnm
  refine V_lvE (lv' := [(0, .ref (ad [0])), (1, .int (nI j)), (2, .int y), (3, .ref (ad [2]))]) rfl ?_
  have hσ1 := hσ.1
  have hσ2 := hσ.2.1
  refine V_aload_n C dL_loudestMoment_0 3 rfl ?_
  refine V_iconst (v := nI 0) C dL_loudestMoment_1 (by decide) ?_
  refine V_aload_n C dL_loudestMoment_2 0 rfl ?_
  refine V_iload_n C dL_loudestMoment_3 1 rfl ?_
  refine V_iload_n C dL_loudestMoment_4 2 rfl ?_
  refine V_callV (r := (RX6, TX6, 8)) C [.int (nI j), .int y] dL_loudestMoment_5 m_X6_loudestMoment k_X6_loudestMoment tw_594 rfl rfl rfl PW_b rfl rfl (Nat.le_of_ble_eq_true rfl) ⟨by omega, by omega, by omega, by omega⟩ (p_loudestMoment_bad hl (by omega) hσ hj hin) kr_no (kx_XP (fun tl t lo => VX_catch C "java/lang/IllegalArgumentException" [⟨0, 10, 13, 21⟩] ⟨0, 10, 17, 13⟩ [] rfl (fun z hz => by
        simp only [List.mem_cons, List.mem_nil_iff, or_false] at hz
        rcases hz with rfl
        · exact Or.inr ⟨by decide, "java/lang/IndexOutOfBoundsException", tw_346, by decide⟩) rfl (by decide) tw_216 (by decide +kernel) (fun a9 => ?_)))
  refine V_astore C [(4, .ref a9), (0, .ref (ad [0])), (1, .int (nI j)), (2, .int y), (3, .ref (ad [2]))] dL_loudestMoment_17 (by decide) rfl ?_
  refine V_iconst (v := nI 2) C dL_loudestMoment_19 (by decide) ?_
  exact V_iret C .int dL_loudestMoment_20 hr rfl ⟨rfl, ⟨fun _ _ _ => rfl, rfl⟩, _, _, _, rfl⟩ (by omega) (by omega)
set_option maxHeartbeats 4000000 in
theorem w_hallsMeeting {l : Launch} {D : va_G} {ba d : Nat} {ad : Adr} (hl : l.stackTraces = false) (hd : 10 ≤ d) {σ : CS} {tl : Int32} {t : TT} {lo : Nat → Int32} {o : Wd} (hσ : cOK σ) {f0 : Nat → Int64} (ho2 : o [2] = some (eJ 1 f0)) {q : Nat} (hq : q < cK σ)  : CT l yL_hallsMeeting (wsH yL_hallsMeeting cL_hallsMeeting 4 (some .int) [(0, 9, 12, 21)]) d 8 64 D ba [.ref (ad [0]), .int (nI q), .ref (ad [2])] ad (PW 0 ad σ tl t lo o) (WR ad σ (wset o [2] (eJ 1 (vp_updL f0 0 ((nI (metC (cS σ q) (cH σ) (cN σ)))).toInt64))) 0) noX := by
  refine CT_ofH RL rfl (by decide +kernel) hl (Nat.le_of_ble_eq_true rfl) ?_
  intro p e s m args below meth c C hr hnm
  refine V_lvE (lv' := [(0, .ref (ad [0])), (1, .int (nI q)), (2, .ref (ad [2]))]) rfl ?_
  have hσ1 := hσ.1
  have hσ2 := hσ.2.1
  refine V_aload_n C dL_hallsMeeting_0 2 rfl ?_
  refine V_iconst (v := nI 0) C dL_hallsMeeting_1 (by decide) ?_
  refine V_aload_n C dL_hallsMeeting_2 0 rfl ?_
  refine V_iload_n C dL_hallsMeeting_3 1 rfl ?_
  refine V_callV (r := (RX6, TX6, 8)) C [.int (nI q)] dL_hallsMeeting_4 m_X6_hallsMeeting k_X6_hallsMeeting tw_608 rfl rfl rfl PW_b rfl rfl (Nat.le_of_ble_eq_true rfl) ⟨by omega, by omega, by omega, by omega⟩ (p_hallsMeeting hl (by omega) hσ hq) (kr_RP (x := .int (nI (metC (cS σ q) (cH σ) (cN σ)))) (fun tl t lo => ?_)) kx_no
  refine V_i2l C dL_hallsMeeting_7 rfl ?_
  refine V_lastn C dL_hallsMeeting_8 rfl (PW_2.trans ho2) (by decide) (by decide) ?_
  refine V_wd (w' := wset (PW 0 ad σ tl t lo o) ([2]) (eJ 1 (vp_updL f0 0 ((nI (metC (cS σ q) (cH σ) (cN σ))).toInt64)))) rfl ?_
  refine V_goto (tgt := 15) C dL_hallsMeeting_9 (by decide) ?_
  refine V_iconst (v := nI 0) C dL_hallsMeeting_15 (by decide) ?_
  exact V_iret C .int dL_hallsMeeting_16 hr rfl ⟨rfl, ⟨fun _ _ _ => rfl, rfl⟩, _, _, _, PW_o2⟩ (by omega) (by omega)
set_option maxHeartbeats 4000000 in
theorem w_hallsMeeting_no {l : Launch} {D : va_G} {ba d : Nat} {ad : Adr} (hl : l.stackTraces = false) (hd : 10 ≤ d) {σ : CS} {tl : Int32} {t : TT} {lo : Nat → Int32} {o : Wd} (hσ : cOK σ) {f0 : Nat → Int64} (ho2 : o [2] = some (eJ 1 f0)) {x2 : Int32} (hx2 : ∀ j, j < cK σ → x2 ≠ nI j)  : CT l yL_hallsMeeting (wsH yL_hallsMeeting cL_hallsMeeting 4 (some .int) [(0, 9, 12, 21)]) d 8 64 D ba [.ref (ad [0]), .int x2, .ref (ad [2])] ad (PW 0 ad σ tl t lo o) (WR ad σ o 1) noX := by
  refine CT_ofH RL rfl (by decide +kernel) hl (Nat.le_of_ble_eq_true rfl) ?_
  intro p e s m args below meth c C hr hnm
  refine V_lvE (lv' := [(0, .ref (ad [0])), (1, .int x2), (2, .ref (ad [2]))]) rfl ?_
  have hσ1 := hσ.1
  have hσ2 := hσ.2.1
  refine V_aload_n C dL_hallsMeeting_0 2 rfl ?_
  refine V_iconst (v := nI 0) C dL_hallsMeeting_1 (by decide) ?_
  refine V_aload_n C dL_hallsMeeting_2 0 rfl ?_
  refine V_iload_n C dL_hallsMeeting_3 1 rfl ?_
  refine V_callV (r := (RX6, TX6, 8)) C [.int x2] dL_hallsMeeting_4 m_X6_hallsMeeting k_X6_hallsMeeting tw_608 rfl rfl rfl PW_b rfl rfl (Nat.le_of_ble_eq_true rfl) ⟨by omega, by omega, by omega, by omega⟩ (p_hallsMeeting_no hl (by omega) hσ hx2) kr_no (kx_XP (fun tl t lo => VX_catch C "java/lang/IndexOutOfBoundsException" [] ⟨0, 9, 12, 21⟩ [] rfl (fun z hz => absurd hz (by simp)) rfl (by decide) tw_346 (by decide +kernel) (fun a9 => ?_)))
  refine V_astore_n C [(3, .ref a9), (0, .ref (ad [0])), (1, .int x2), (2, .ref (ad [2]))] dL_hallsMeeting_12 (by decide) rfl ?_
  refine V_iconst (v := nI 1) C dL_hallsMeeting_13 (by decide) ?_
  exact V_iret C .int dL_hallsMeeting_14 hr rfl ⟨rfl, ⟨fun _ _ _ => rfl, rfl⟩, _, _, _, rfl⟩ (by omega) (by omega)
set_option maxHeartbeats 4000000 in
theorem w_certifiedBy {l : Launch} {D : va_G} {ba d : Nat} {ad : Adr} (hl : l.stackTraces = false) (hd : 10 ≤ d) {σ : CS} {tl : Int32} {t : TT} {lo : Nat → Int32} {o : Wd} (hσ : cOK σ) {f0 : Nat → Int64} (ho2 : o [2] = some (eJ 1 f0)) {j : Nat} (hj : j < cN σ) (hc : ¬ hCe (cH σ j) = -1)  : CT l yL_certifiedBy (wsH yL_certifiedBy cL_certifiedBy 4 (some .int) [(0, 9, 12, 21), (0, 9, 15, 15)]) d 8 64 D ba [.ref (ad [0]), .int (nI j), .ref (ad [2])] ad (PW 0 ad σ tl t lo o) (WR ad σ (wset o [2] (eJ 1 (vp_updL f0 0 ((hCe (cH σ j))).toInt64))) 0) noX := by
  refine CT_ofH RL rfl (by decide +kernel) hl (Nat.le_of_ble_eq_true rfl) ?_
  intro p e s m args below meth c C hr hnm
  refine V_lvE (lv' := [(0, .ref (ad [0])), (1, .int (nI j)), (2, .ref (ad [2]))]) rfl ?_
  have hσ1 := hσ.1
  have hσ2 := hσ.2.1
  refine V_aload_n C dL_certifiedBy_0 2 rfl ?_
  refine V_iconst (v := nI 0) C dL_certifiedBy_1 (by decide) ?_
  refine V_aload_n C dL_certifiedBy_2 0 rfl ?_
  refine V_iload_n C dL_certifiedBy_3 1 rfl ?_
  refine V_callV (r := (RX6, TX6, 8)) C [.int (nI j)] dL_certifiedBy_4 m_X6_certifiedBy k_X6_certifiedBy tw_622 rfl rfl rfl PW_b rfl rfl (Nat.le_of_ble_eq_true rfl) ⟨by omega, by omega, by omega, by omega⟩ (p_certifiedBy hl (by omega) hσ hj hc) (kr_RP (x := .int (hCe (cH σ j))) (fun tl t lo => ?_)) kx_no
  refine V_i2l C dL_certifiedBy_7 rfl ?_
  refine V_lastn C dL_certifiedBy_8 rfl (PW_2.trans ho2) (by decide) (by decide) ?_
  refine V_wd (w' := wset (PW 0 ad σ tl t lo o) ([2]) (eJ 1 (vp_updL f0 0 ((hCe (cH σ j)).toInt64)))) rfl ?_
  refine V_goto (tgt := 18) C dL_certifiedBy_9 (by decide) ?_
  refine V_iconst (v := nI 0) C dL_certifiedBy_18 (by decide) ?_
  exact V_iret C .int dL_certifiedBy_19 hr rfl ⟨rfl, ⟨fun _ _ _ => rfl, rfl⟩, _, _, _, PW_o2⟩ (by omega) (by omega)
set_option maxHeartbeats 4000000 in
theorem w_certifiedBy_no {l : Launch} {D : va_G} {ba d : Nat} {ad : Adr} (hl : l.stackTraces = false) (hd : 9 ≤ d) {σ : CS} {tl : Int32} {t : TT} {lo : Nat → Int32} {o : Wd} (hσ : cOK σ) {f0 : Nat → Int64} (ho2 : o [2] = some (eJ 1 f0)) {x : Int32} (hx : ∀ j, j < cN σ → x ≠ nI j)  : CT l yL_certifiedBy (wsH yL_certifiedBy cL_certifiedBy 4 (some .int) [(0, 9, 12, 21), (0, 9, 15, 15)]) d 8 64 D ba [.ref (ad [0]), .int x, .ref (ad [2])] ad (PW 0 ad σ tl t lo o) (WR ad σ o 1) noX := by
  refine CT_ofH RL rfl (by decide +kernel) hl (Nat.le_of_ble_eq_true rfl) ?_
  intro p e s m args below meth c C hr hnm
  refine V_lvE (lv' := [(0, .ref (ad [0])), (1, .int x), (2, .ref (ad [2]))]) rfl ?_
  have hσ1 := hσ.1
  have hσ2 := hσ.2.1
  refine V_aload_n C dL_certifiedBy_0 2 rfl ?_
  refine V_iconst (v := nI 0) C dL_certifiedBy_1 (by decide) ?_
  refine V_aload_n C dL_certifiedBy_2 0 rfl ?_
  refine V_iload_n C dL_certifiedBy_3 1 rfl ?_
  refine V_callV (r := (RX6, TX6, 8)) C [.int x] dL_certifiedBy_4 m_X6_certifiedBy k_X6_certifiedBy tw_622 rfl rfl rfl PW_b rfl rfl (Nat.le_of_ble_eq_true rfl) ⟨by omega, by omega, by omega, by omega⟩ (p_certifiedBy_no hl (by omega) hσ hx) kr_no (kx_XP (fun tl t lo => VX_catch C "java/lang/IndexOutOfBoundsException" [] ⟨0, 9, 12, 21⟩ [⟨0, 9, 15, 15⟩] rfl (fun z hz => absurd hz (by simp)) rfl (by decide) tw_346 (by decide +kernel) (fun a9 => ?_)))
  refine V_astore_n C [(3, .ref a9), (0, .ref (ad [0])), (1, .int x), (2, .ref (ad [2]))] dL_certifiedBy_12 (by decide) rfl ?_
  refine V_iconst (v := nI 1) C dL_certifiedBy_13 (by decide) ?_
  exact V_iret C .int dL_certifiedBy_14 hr rfl ⟨rfl, ⟨fun _ _ _ => rfl, rfl⟩, _, _, _, rfl⟩ (by omega) (by omega)
set_option maxHeartbeats 4000000 in
theorem w_certifiedBy_none {l : Launch} {D : va_G} {ba d : Nat} {ad : Adr} (hl : l.stackTraces = false) (hd : 10 ≤ d) {σ : CS} {tl : Int32} {t : TT} {lo : Nat → Int32} {o : Wd} (hσ : cOK σ) {f0 : Nat → Int64} (ho2 : o [2] = some (eJ 1 f0)) {j : Nat} (hj : j < cN σ) (hc : hCe (cH σ j) = -1)  : CT l yL_certifiedBy (wsH yL_certifiedBy cL_certifiedBy 4 (some .int) [(0, 9, 12, 21), (0, 9, 15, 15)]) d 8 64 D ba [.ref (ad [0]), .int (nI j), .ref (ad [2])] ad (PW 0 ad σ tl t lo o) (WR ad σ o 2) noX := by
  refine CT_ofH RL rfl (by decide +kernel) hl (Nat.le_of_ble_eq_true rfl) ?_
  intro p e s m args below meth c C hr hnm
  refine V_lvE (lv' := [(0, .ref (ad [0])), (1, .int (nI j)), (2, .ref (ad [2]))]) rfl ?_
  have hσ1 := hσ.1
  have hσ2 := hσ.2.1
  refine V_aload_n C dL_certifiedBy_0 2 rfl ?_
  refine V_iconst (v := nI 0) C dL_certifiedBy_1 (by decide) ?_
  refine V_aload_n C dL_certifiedBy_2 0 rfl ?_
  refine V_iload_n C dL_certifiedBy_3 1 rfl ?_
  refine V_callV (r := (RX6, TX6, 8)) C [.int (nI j)] dL_certifiedBy_4 m_X6_certifiedBy k_X6_certifiedBy tw_622 rfl rfl rfl PW_b rfl rfl (Nat.le_of_ble_eq_true rfl) ⟨by omega, by omega, by omega, by omega⟩ (p_certifiedBy_none hl (by omega) hσ hj hc) kr_no (kx_XP (fun tl t lo => VX_catch C "java/lang/IllegalStateException" [⟨0, 9, 12, 21⟩] ⟨0, 9, 15, 15⟩ [] rfl (fun z hz => by
        simp only [List.mem_cons, List.mem_nil_iff, or_false] at hz
        rcases hz with rfl
        · exact Or.inr ⟨by decide, "java/lang/IndexOutOfBoundsException", tw_346, by decide⟩) rfl (by decide) tw_217 (by decide +kernel) (fun a9 => ?_)))
  refine V_astore_n C [(3, .ref a9), (0, .ref (ad [0])), (1, .int (nI j)), (2, .ref (ad [2]))] dL_certifiedBy_15 (by decide) rfl ?_
  refine V_iconst (v := nI 2) C dL_certifiedBy_16 (by decide) ?_
  exact V_iret C .int dL_certifiedBy_17 hr rfl ⟨rfl, ⟨fun _ _ _ => rfl, rfl⟩, _, _, _, rfl⟩ (by omega) (by omega)
set_option maxHeartbeats 4000000 in
theorem w_daysLeft {l : Launch} {D : va_G} {ba d : Nat} {ad : Adr} (hl : l.stackTraces = false) (hd : 9 ≤ d) {σ : CS} {tl : Int32} {t : TT} {lo : Nat → Int32} {o : Wd} (hσ : cOK σ) {f0 : Nat → Int64} (ho2 : o [2] = some (eJ 1 f0)) {j : Nat} (hj : j < cN σ)  : CT l yL_daysLeft (wsH yL_daysLeft cL_daysLeft 4 (some .int) [(0, 9, 12, 21)]) d 8 64 D ba [.ref (ad [0]), .int (nI j), .ref (ad [2])] ad (PW 0 ad σ tl t lo o) (WR ad σ (wset o [2] (eJ 1 (vp_updL f0 0 ((nI (hDy (cH σ j)))).toInt64))) 0) noX := by
  refine CT_ofH RL rfl (by decide +kernel) hl (Nat.le_of_ble_eq_true rfl) ?_
  intro p e s m args below meth c C hr hnm
  refine V_lvE (lv' := [(0, .ref (ad [0])), (1, .int (nI j)), (2, .ref (ad [2]))]) rfl ?_
  have hσ1 := hσ.1
  have hσ2 := hσ.2.1
  refine V_aload_n C dL_daysLeft_0 2 rfl ?_
  refine V_iconst (v := nI 0) C dL_daysLeft_1 (by decide) ?_
  refine V_aload_n C dL_daysLeft_2 0 rfl ?_
  refine V_iload_n C dL_daysLeft_3 1 rfl ?_
  refine V_callV (r := (RX6, TX6, 8)) C [.int (nI j)] dL_daysLeft_4 m_X6_daysLeft k_X6_daysLeft tw_629 rfl rfl rfl PW_b rfl rfl (Nat.le_of_ble_eq_true rfl) ⟨by omega, by omega, by omega, by omega⟩ (p_daysLeft hl (by omega) hσ hj) (kr_RP (x := .int (nI (hDy (cH σ j)))) (fun tl t lo => ?_)) kx_no
  refine V_i2l C dL_daysLeft_7 rfl ?_
  refine V_lastn C dL_daysLeft_8 rfl (PW_2.trans ho2) (by decide) (by decide) ?_
  refine V_wd (w' := wset (PW 0 ad σ tl t lo o) ([2]) (eJ 1 (vp_updL f0 0 ((nI (hDy (cH σ j))).toInt64)))) rfl ?_
  refine V_goto (tgt := 15) C dL_daysLeft_9 (by decide) ?_
  refine V_iconst (v := nI 0) C dL_daysLeft_15 (by decide) ?_
  exact V_iret C .int dL_daysLeft_16 hr rfl ⟨rfl, ⟨fun _ _ _ => rfl, rfl⟩, _, _, _, PW_o2⟩ (by omega) (by omega)
set_option maxHeartbeats 4000000 in
theorem w_daysLeft_no {l : Launch} {D : va_G} {ba d : Nat} {ad : Adr} (hl : l.stackTraces = false) (hd : 9 ≤ d) {σ : CS} {tl : Int32} {t : TT} {lo : Nat → Int32} {o : Wd} (hσ : cOK σ) {f0 : Nat → Int64} (ho2 : o [2] = some (eJ 1 f0)) {x : Int32} (hx : ∀ j, j < cN σ → x ≠ nI j)  : CT l yL_daysLeft (wsH yL_daysLeft cL_daysLeft 4 (some .int) [(0, 9, 12, 21)]) d 8 64 D ba [.ref (ad [0]), .int x, .ref (ad [2])] ad (PW 0 ad σ tl t lo o) (WR ad σ o 1) noX := by
  refine CT_ofH RL rfl (by decide +kernel) hl (Nat.le_of_ble_eq_true rfl) ?_
  intro p e s m args below meth c C hr hnm
  refine V_lvE (lv' := [(0, .ref (ad [0])), (1, .int x), (2, .ref (ad [2]))]) rfl ?_
  have hσ1 := hσ.1
  have hσ2 := hσ.2.1
  refine V_aload_n C dL_daysLeft_0 2 rfl ?_
  refine V_iconst (v := nI 0) C dL_daysLeft_1 (by decide) ?_
  refine V_aload_n C dL_daysLeft_2 0 rfl ?_
  refine V_iload_n C dL_daysLeft_3 1 rfl ?_
  refine V_callV (r := (RX6, TX6, 8)) C [.int x] dL_daysLeft_4 m_X6_daysLeft k_X6_daysLeft tw_629 rfl rfl rfl PW_b rfl rfl (Nat.le_of_ble_eq_true rfl) ⟨by omega, by omega, by omega, by omega⟩ (p_daysLeft_no hl (by omega) hσ hx) kr_no (kx_XP (fun tl t lo => VX_catch C "java/lang/IndexOutOfBoundsException" [] ⟨0, 9, 12, 21⟩ [] rfl (fun z hz => absurd hz (by simp)) rfl (by decide) tw_346 (by decide +kernel) (fun a9 => ?_)))
  refine V_astore_n C [(3, .ref a9), (0, .ref (ad [0])), (1, .int x), (2, .ref (ad [2]))] dL_daysLeft_12 (by decide) rfl ?_
  refine V_iconst (v := nI 1) C dL_daysLeft_13 (by decide) ?_
  exact V_iret C .int dL_daysLeft_14 hr rfl ⟨rfl, ⟨fun _ _ _ => rfl, rfl⟩, _, _, _, rfl⟩ (by omega) (by omega)
set_option maxHeartbeats 4000000 in
theorem w_leastDamping {l : Launch} {D : va_G} {ba d : Nat} {ad : Adr} (hl : l.stackTraces = false) (hd : 10 ≤ d) {σ : CS} {tl : Int32} {t : TT} {lo : Nat → Int32} {o : Wd} (hσ : cOK σ) {f0 : Nat → Int64} (ho2 : o [2] = some (eJ 1 f0)) {j : Nat} (hj : j < cN σ) {q : Nat} (hq : q < cK σ)  : CT l yL_leastDamping (wsH yL_leastDamping cL_leastDamping 5 (some .int) [(0, 10, 13, 21)]) d 8 64 D ba [.ref (ad [0]), .int (nI j), .int (nI q), .ref (ad [2])] ad (PW 0 ad σ tl t lo o) (WR ad σ (wset o [2] (eJ 1 (vp_updL f0 0 ((fstF (fun v => metW (cH σ j) (cS σ q) v (hDu (cH σ j))) 91 0)).toInt64))) 0) noX := by
  refine CT_ofH RL rfl (by decide +kernel) hl (Nat.le_of_ble_eq_true rfl) ?_
  intro p e s m args below meth c C hr hnm
  refine V_lvE (lv' := [(0, .ref (ad [0])), (1, .int (nI j)), (2, .int (nI q)), (3, .ref (ad [2]))]) rfl ?_
  have hσ1 := hσ.1
  have hσ2 := hσ.2.1
  refine V_aload_n C dL_leastDamping_0 3 rfl ?_
  refine V_iconst (v := nI 0) C dL_leastDamping_1 (by decide) ?_
  refine V_aload_n C dL_leastDamping_2 0 rfl ?_
  refine V_iload_n C dL_leastDamping_3 1 rfl ?_
  refine V_iload_n C dL_leastDamping_4 2 rfl ?_
  refine V_callV (r := (RX6, TX6, 8)) C [.int (nI j), .int (nI q)] dL_leastDamping_5 m_X6_leastDamping k_X6_leastDamping tw_643 rfl rfl rfl PW_b rfl rfl (Nat.le_of_ble_eq_true rfl) ⟨by omega, by omega, by omega, by omega⟩ (p_least hl (by omega) hσ hj hq) (kr_RP (x := .int (fstF (fun v => metW (cH σ j) (cS σ q) v (hDu (cH σ j))) 91 0)) (fun tl t lo => ?_)) kx_no
  refine V_i2l C dL_leastDamping_8 rfl ?_
  refine V_lastn C dL_leastDamping_9 rfl (PW_2.trans ho2) (by decide) (by decide) ?_
  refine V_wd (w' := wset (PW 0 ad σ tl t lo o) ([2]) (eJ 1 (vp_updL f0 0 ((fstF (fun v => metW (cH σ j) (cS σ q) v (hDu (cH σ j))) 91 0).toInt64)))) rfl ?_
  refine V_goto (tgt := 17) C dL_leastDamping_10 (by decide) ?_
  refine V_iconst (v := nI 0) C dL_leastDamping_17 (by decide) ?_
  exact V_iret C .int dL_leastDamping_18 hr rfl ⟨rfl, ⟨fun _ _ _ => rfl, rfl⟩, _, _, _, PW_o2⟩ (by omega) (by omega)
set_option maxHeartbeats 4000000 in
theorem w_leastDamping_no {l : Launch} {D : va_G} {ba d : Nat} {ad : Adr} (hl : l.stackTraces = false) (hd : 9 ≤ d) {σ : CS} {tl : Int32} {t : TT} {lo : Nat → Int32} {o : Wd} (hσ : cOK σ) {f0 : Nat → Int64} (ho2 : o [2] = some (eJ 1 f0)) {x : Int32} (hx : ∀ j, j < cN σ → x ≠ nI j) (y : Int32)  : CT l yL_leastDamping (wsH yL_leastDamping cL_leastDamping 5 (some .int) [(0, 10, 13, 21)]) d 8 64 D ba [.ref (ad [0]), .int x, .int y, .ref (ad [2])] ad (PW 0 ad σ tl t lo o) (WR ad σ o 1) noX := by
  refine CT_ofH RL rfl (by decide +kernel) hl (Nat.le_of_ble_eq_true rfl) ?_
  intro p e s m args below meth c C hr hnm
  refine V_lvE (lv' := [(0, .ref (ad [0])), (1, .int x), (2, .int y), (3, .ref (ad [2]))]) rfl ?_
  have hσ1 := hσ.1
  have hσ2 := hσ.2.1
  refine V_aload_n C dL_leastDamping_0 3 rfl ?_
  refine V_iconst (v := nI 0) C dL_leastDamping_1 (by decide) ?_
  refine V_aload_n C dL_leastDamping_2 0 rfl ?_
  refine V_iload_n C dL_leastDamping_3 1 rfl ?_
  refine V_iload_n C dL_leastDamping_4 2 rfl ?_
  refine V_callV (r := (RX6, TX6, 8)) C [.int x, .int y] dL_leastDamping_5 m_X6_leastDamping k_X6_leastDamping tw_643 rfl rfl rfl PW_b rfl rfl (Nat.le_of_ble_eq_true rfl) ⟨by omega, by omega, by omega, by omega⟩ (p_least_no hl (by omega) hσ hx y) kr_no (kx_XP (fun tl t lo => VX_catch C "java/lang/IndexOutOfBoundsException" [] ⟨0, 10, 13, 21⟩ [] rfl (fun z hz => absurd hz (by simp)) rfl (by decide) tw_346 (by decide +kernel) (fun a9 => ?_)))
  refine V_astore C [(4, .ref a9), (0, .ref (ad [0])), (1, .int x), (2, .int y), (3, .ref (ad [2]))] dL_leastDamping_13 (by decide) rfl ?_
  refine V_iconst (v := nI 1) C dL_leastDamping_15 (by decide) ?_
  exact V_iret C .int dL_leastDamping_16 hr rfl ⟨rfl, ⟨fun _ _ _ => rfl, rfl⟩, _, _, _, rfl⟩ (by omega) (by omega)
set_option maxHeartbeats 4000000 in
theorem w_leastDamping_no2 {l : Launch} {D : va_G} {ba d : Nat} {ad : Adr} (hl : l.stackTraces = false) (hd : 9 ≤ d) {σ : CS} {tl : Int32} {t : TT} {lo : Nat → Int32} {o : Wd} (hσ : cOK σ) {f0 : Nat → Int64} (ho2 : o [2] = some (eJ 1 f0)) {j : Nat} (hj : j < cN σ) {x2 : Int32} (hx2 : ∀ j, j < cK σ → x2 ≠ nI j)  : CT l yL_leastDamping (wsH yL_leastDamping cL_leastDamping 5 (some .int) [(0, 10, 13, 21)]) d 8 64 D ba [.ref (ad [0]), .int (nI j), .int x2, .ref (ad [2])] ad (PW 0 ad σ tl t lo o) (WR ad σ o 1) noX := by
  refine CT_ofH RL rfl (by decide +kernel) hl (Nat.le_of_ble_eq_true rfl) ?_
  intro p e s m args below meth c C hr hnm
  refine V_lvE (lv' := [(0, .ref (ad [0])), (1, .int (nI j)), (2, .int x2), (3, .ref (ad [2]))]) rfl ?_
  have hσ1 := hσ.1
  have hσ2 := hσ.2.1
  refine V_aload_n C dL_leastDamping_0 3 rfl ?_
  refine V_iconst (v := nI 0) C dL_leastDamping_1 (by decide) ?_
  refine V_aload_n C dL_leastDamping_2 0 rfl ?_
  refine V_iload_n C dL_leastDamping_3 1 rfl ?_
  refine V_iload_n C dL_leastDamping_4 2 rfl ?_
  refine V_callV (r := (RX6, TX6, 8)) C [.int (nI j), .int x2] dL_leastDamping_5 m_X6_leastDamping k_X6_leastDamping tw_643 rfl rfl rfl PW_b rfl rfl (Nat.le_of_ble_eq_true rfl) ⟨by omega, by omega, by omega, by omega⟩ (p_least_no2 hl (by omega) hσ hj hx2) kr_no (kx_XP (fun tl t lo => VX_catch C "java/lang/IndexOutOfBoundsException" [] ⟨0, 10, 13, 21⟩ [] rfl (fun z hz => absurd hz (by simp)) rfl (by decide) tw_346 (by decide +kernel) (fun a9 => ?_)))
  refine V_astore C [(4, .ref a9), (0, .ref (ad [0])), (1, .int (nI j)), (2, .int x2), (3, .ref (ad [2]))] dL_leastDamping_13 (by decide) rfl ?_
  refine V_iconst (v := nI 1) C dL_leastDamping_15 (by decide) ?_
  exact V_iret C .int dL_leastDamping_16 hr rfl ⟨rfl, ⟨fun _ _ _ => rfl, rfl⟩, _, _, _, rfl⟩ (by omega) (by omega)
set_option maxHeartbeats 4000000 in
theorem w_daysUntilMet {l : Launch} {D : va_G} {ba d : Nat} {ad : Adr} (hl : l.stackTraces = false) (hd : 10 ≤ d) {σ : CS} {tl : Int32} {t : TT} {lo : Nat → Int32} {o : Wd} (hσ : cOK σ) {f0 : Nat → Int64} (ho2 : o [2] = some (eJ 1 f0)) {j : Nat} (hj : j < cN σ) {q : Nat} (hq : q < cK σ)  : CT l yL_daysUntilMet (wsH yL_daysUntilMet cL_daysUntilMet 5 (some .int) [(0, 10, 13, 21)]) d 8 64 D ba [.ref (ad [0]), .int (nI j), .int (nI q), .ref (ad [2])] ad (PW 0 ad σ tl t lo o) (WR ad σ (wset o [2] (eJ 1 (vp_updL f0 0 ((fstF (fun v => metW (cH σ j) (cS σ q) (hDm (cH σ j)) (min 100 (hDu (cH σ j) + v))) 101 0)).toInt64))) 0) noX := by
  refine CT_ofH RL rfl (by decide +kernel) hl (Nat.le_of_ble_eq_true rfl) ?_
  intro p e s m args below meth c C hr hnm
  refine V_lvE (lv' := [(0, .ref (ad [0])), (1, .int (nI j)), (2, .int (nI q)), (3, .ref (ad [2]))]) rfl ?_
  have hσ1 := hσ.1
  have hσ2 := hσ.2.1
  refine V_aload_n C dL_daysUntilMet_0 3 rfl ?_
  refine V_iconst (v := nI 0) C dL_daysUntilMet_1 (by decide) ?_
  refine V_aload_n C dL_daysUntilMet_2 0 rfl ?_
  refine V_iload_n C dL_daysUntilMet_3 1 rfl ?_
  refine V_iload_n C dL_daysUntilMet_4 2 rfl ?_
  refine V_callV (r := (RX6, TX6, 8)) C [.int (nI j), .int (nI q)] dL_daysUntilMet_5 m_X6_daysUntilMet k_X6_daysUntilMet tw_650 rfl rfl rfl PW_b rfl rfl (Nat.le_of_ble_eq_true rfl) ⟨by omega, by omega, by omega, by omega⟩ (p_until hl (by omega) hσ hj hq) (kr_RP (x := .int (fstF (fun v => metW (cH σ j) (cS σ q) (hDm (cH σ j)) (min 100 (hDu (cH σ j) + v))) 101 0)) (fun tl t lo => ?_)) kx_no
  refine V_i2l C dL_daysUntilMet_8 rfl ?_
  refine V_lastn C dL_daysUntilMet_9 rfl (PW_2.trans ho2) (by decide) (by decide) ?_
  refine V_wd (w' := wset (PW 0 ad σ tl t lo o) ([2]) (eJ 1 (vp_updL f0 0 ((fstF (fun v => metW (cH σ j) (cS σ q) (hDm (cH σ j)) (min 100 (hDu (cH σ j) + v))) 101 0).toInt64)))) rfl ?_
  refine V_goto (tgt := 17) C dL_daysUntilMet_10 (by decide) ?_
  refine V_iconst (v := nI 0) C dL_daysUntilMet_17 (by decide) ?_
  exact V_iret C .int dL_daysUntilMet_18 hr rfl ⟨rfl, ⟨fun _ _ _ => rfl, rfl⟩, _, _, _, PW_o2⟩ (by omega) (by omega)
set_option maxHeartbeats 4000000 in
theorem w_daysUntilMet_no {l : Launch} {D : va_G} {ba d : Nat} {ad : Adr} (hl : l.stackTraces = false) (hd : 9 ≤ d) {σ : CS} {tl : Int32} {t : TT} {lo : Nat → Int32} {o : Wd} (hσ : cOK σ) {f0 : Nat → Int64} (ho2 : o [2] = some (eJ 1 f0)) {x : Int32} (hx : ∀ j, j < cN σ → x ≠ nI j) (y : Int32)  : CT l yL_daysUntilMet (wsH yL_daysUntilMet cL_daysUntilMet 5 (some .int) [(0, 10, 13, 21)]) d 8 64 D ba [.ref (ad [0]), .int x, .int y, .ref (ad [2])] ad (PW 0 ad σ tl t lo o) (WR ad σ o 1) noX := by
  refine CT_ofH RL rfl (by decide +kernel) hl (Nat.le_of_ble_eq_true rfl) ?_
  intro p e s m args below meth c C hr hnm
  refine V_lvE (lv' := [(0, .ref (ad [0])), (1, .int x), (2, .int y), (3, .ref (ad [2]))]) rfl ?_
  have hσ1 := hσ.1
  have hσ2 := hσ.2.1
  refine V_aload_n C dL_daysUntilMet_0 3 rfl ?_
  refine V_iconst (v := nI 0) C dL_daysUntilMet_1 (by decide) ?_
  refine V_aload_n C dL_daysUntilMet_2 0 rfl ?_
  refine V_iload_n C dL_daysUntilMet_3 1 rfl ?_
  refine V_iload_n C dL_daysUntilMet_4 2 rfl ?_
  refine V_callV (r := (RX6, TX6, 8)) C [.int x, .int y] dL_daysUntilMet_5 m_X6_daysUntilMet k_X6_daysUntilMet tw_650 rfl rfl rfl PW_b rfl rfl (Nat.le_of_ble_eq_true rfl) ⟨by omega, by omega, by omega, by omega⟩ (p_until_no hl (by omega) hσ hx y) kr_no (kx_XP (fun tl t lo => VX_catch C "java/lang/IndexOutOfBoundsException" [] ⟨0, 10, 13, 21⟩ [] rfl (fun z hz => absurd hz (by simp)) rfl (by decide) tw_346 (by decide +kernel) (fun a9 => ?_)))
  refine V_astore C [(4, .ref a9), (0, .ref (ad [0])), (1, .int x), (2, .int y), (3, .ref (ad [2]))] dL_daysUntilMet_13 (by decide) rfl ?_
  refine V_iconst (v := nI 1) C dL_daysUntilMet_15 (by decide) ?_
  exact V_iret C .int dL_daysUntilMet_16 hr rfl ⟨rfl, ⟨fun _ _ _ => rfl, rfl⟩, _, _, _, rfl⟩ (by omega) (by omega)
set_option maxHeartbeats 4000000 in
theorem w_daysUntilMet_no2 {l : Launch} {D : va_G} {ba d : Nat} {ad : Adr} (hl : l.stackTraces = false) (hd : 9 ≤ d) {σ : CS} {tl : Int32} {t : TT} {lo : Nat → Int32} {o : Wd} (hσ : cOK σ) {f0 : Nat → Int64} (ho2 : o [2] = some (eJ 1 f0)) {j : Nat} (hj : j < cN σ) {x2 : Int32} (hx2 : ∀ j, j < cK σ → x2 ≠ nI j)  : CT l yL_daysUntilMet (wsH yL_daysUntilMet cL_daysUntilMet 5 (some .int) [(0, 10, 13, 21)]) d 8 64 D ba [.ref (ad [0]), .int (nI j), .int x2, .ref (ad [2])] ad (PW 0 ad σ tl t lo o) (WR ad σ o 1) noX := by
  refine CT_ofH RL rfl (by decide +kernel) hl (Nat.le_of_ble_eq_true rfl) ?_
  intro p e s m args below meth c C hr hnm
  refine V_lvE (lv' := [(0, .ref (ad [0])), (1, .int (nI j)), (2, .int x2), (3, .ref (ad [2]))]) rfl ?_
  have hσ1 := hσ.1
  have hσ2 := hσ.2.1
  refine V_aload_n C dL_daysUntilMet_0 3 rfl ?_
  refine V_iconst (v := nI 0) C dL_daysUntilMet_1 (by decide) ?_
  refine V_aload_n C dL_daysUntilMet_2 0 rfl ?_
  refine V_iload_n C dL_daysUntilMet_3 1 rfl ?_
  refine V_iload_n C dL_daysUntilMet_4 2 rfl ?_
  refine V_callV (r := (RX6, TX6, 8)) C [.int (nI j), .int x2] dL_daysUntilMet_5 m_X6_daysUntilMet k_X6_daysUntilMet tw_650 rfl rfl rfl PW_b rfl rfl (Nat.le_of_ble_eq_true rfl) ⟨by omega, by omega, by omega, by omega⟩ (p_until_no2 hl (by omega) hσ hj hx2) kr_no (kx_XP (fun tl t lo => VX_catch C "java/lang/IndexOutOfBoundsException" [] ⟨0, 10, 13, 21⟩ [] rfl (fun z hz => absurd hz (by simp)) rfl (by decide) tw_346 (by decide +kernel) (fun a9 => ?_)))
  refine V_astore C [(4, .ref a9), (0, .ref (ad [0])), (1, .int (nI j)), (2, .int x2), (3, .ref (ad [2]))] dL_daysUntilMet_13 (by decide) rfl ?_
  refine V_iconst (v := nI 1) C dL_daysUntilMet_15 (by decide) ?_
  exact V_iret C .int dL_daysUntilMet_16 hr rfl ⟨rfl, ⟨fun _ _ _ => rfl, rfl⟩, _, _, _, rfl⟩ (by omega) (by omega)
set_option maxHeartbeats 4000000 in
theorem w_easiestHall {l : Launch} {D : va_G} {ba d : Nat} {ad : Adr} (hl : l.stackTraces = false) (hd : 10 ≤ d) {σ : CS} {tl : Int32} {t : TT} {lo : Nat → Int32} {o : Wd} (hσ : cOK σ) {f0 : Nat → Int64} (ho2 : o [2] = some (eJ 1 f0)) {q : Nat} (hq : q < cK σ)  : CT l yL_easiestHall (wsH yL_easiestHall cL_easiestHall 4 (some .int) [(0, 9, 12, 21)]) d 8 64 D ba [.ref (ad [0]), .int (nI q), .ref (ad [2])] ad (PW 0 ad σ tl t lo o) (WR ad σ (wset o [2] (eJ 1 (vp_updL f0 0 ((eaD (cS σ q) (cH σ) (cN σ) 91 0)).toInt64))) 0) noX := by
  refine CT_ofH RL rfl (by decide +kernel) hl (Nat.le_of_ble_eq_true rfl) ?_
  intro p e s m args below meth c C hr hnm
  refine V_lvE (lv' := [(0, .ref (ad [0])), (1, .int (nI q)), (2, .ref (ad [2]))]) rfl ?_
  have hσ1 := hσ.1
  have hσ2 := hσ.2.1
  refine V_aload_n C dL_easiestHall_0 2 rfl ?_
  refine V_iconst (v := nI 0) C dL_easiestHall_1 (by decide) ?_
  refine V_aload_n C dL_easiestHall_2 0 rfl ?_
  refine V_iload_n C dL_easiestHall_3 1 rfl ?_
  refine V_callV (r := (RX6, TX6, 8)) C [.int (nI q)] dL_easiestHall_4 m_X6_easiestHall k_X6_easiestHall tw_658 rfl rfl rfl PW_b rfl rfl (Nat.le_of_ble_eq_true rfl) ⟨by omega, by omega, by omega, by omega⟩ (p_easiest hl (by omega) hσ hq) (kr_RP (x := .int (eaD (cS σ q) (cH σ) (cN σ) 91 0)) (fun tl t lo => ?_)) kx_no
  refine V_i2l C dL_easiestHall_7 rfl ?_
  refine V_lastn C dL_easiestHall_8 rfl (PW_2.trans ho2) (by decide) (by decide) ?_
  refine V_wd (w' := wset (PW 0 ad σ tl t lo o) ([2]) (eJ 1 (vp_updL f0 0 ((eaD (cS σ q) (cH σ) (cN σ) 91 0).toInt64)))) rfl ?_
  refine V_goto (tgt := 15) C dL_easiestHall_9 (by decide) ?_
  refine V_iconst (v := nI 0) C dL_easiestHall_15 (by decide) ?_
  exact V_iret C .int dL_easiestHall_16 hr rfl ⟨rfl, ⟨fun _ _ _ => rfl, rfl⟩, _, _, _, PW_o2⟩ (by omega) (by omega)
set_option maxHeartbeats 4000000 in
theorem w_easiestHall_no {l : Launch} {D : va_G} {ba d : Nat} {ad : Adr} (hl : l.stackTraces = false) (hd : 10 ≤ d) {σ : CS} {tl : Int32} {t : TT} {lo : Nat → Int32} {o : Wd} (hσ : cOK σ) {f0 : Nat → Int64} (ho2 : o [2] = some (eJ 1 f0)) {x2 : Int32} (hx2 : ∀ j, j < cK σ → x2 ≠ nI j)  : CT l yL_easiestHall (wsH yL_easiestHall cL_easiestHall 4 (some .int) [(0, 9, 12, 21)]) d 8 64 D ba [.ref (ad [0]), .int x2, .ref (ad [2])] ad (PW 0 ad σ tl t lo o) (WR ad σ o 1) noX := by
  refine CT_ofH RL rfl (by decide +kernel) hl (Nat.le_of_ble_eq_true rfl) ?_
  intro p e s m args below meth c C hr hnm
  refine V_lvE (lv' := [(0, .ref (ad [0])), (1, .int x2), (2, .ref (ad [2]))]) rfl ?_
  have hσ1 := hσ.1
  have hσ2 := hσ.2.1
  refine V_aload_n C dL_easiestHall_0 2 rfl ?_
  refine V_iconst (v := nI 0) C dL_easiestHall_1 (by decide) ?_
  refine V_aload_n C dL_easiestHall_2 0 rfl ?_
  refine V_iload_n C dL_easiestHall_3 1 rfl ?_
  refine V_callV (r := (RX6, TX6, 8)) C [.int x2] dL_easiestHall_4 m_X6_easiestHall k_X6_easiestHall tw_658 rfl rfl rfl PW_b rfl rfl (Nat.le_of_ble_eq_true rfl) ⟨by omega, by omega, by omega, by omega⟩ (p_easiest_no hl (by omega) hσ hx2) kr_no (kx_XP (fun tl t lo => VX_catch C "java/lang/IndexOutOfBoundsException" [] ⟨0, 9, 12, 21⟩ [] rfl (fun z hz => absurd hz (by simp)) rfl (by decide) tw_346 (by decide +kernel) (fun a9 => ?_)))
  refine V_astore_n C [(3, .ref a9), (0, .ref (ad [0])), (1, .int x2), (2, .ref (ad [2]))] dL_easiestHall_12 (by decide) rfl ?_
  refine V_iconst (v := nI 1) C dL_easiestHall_13 (by decide) ?_
  exact V_iret C .int dL_easiestHall_14 hr rfl ⟨rfl, ⟨fun _ _ _ => rfl, rfl⟩, _, _, _, rfl⟩ (by omega) (by omega)
set_option maxHeartbeats 4000000 in
theorem w_meets {l : Launch} {D : va_G} {ba d : Nat} {ad : Adr} (hl : l.stackTraces = false) (hd : 10 ≤ d) {σ : CS} {tl : Int32} {t : TT} {lo : Nat → Int32} {o : Wd} (hσ : cOK σ) {f0 : Nat → Int64} (ho2 : o [2] = some (eJ 1 f0)) {j : Nat} (hj : j < cN σ) {q : Nat} (hq : q < cK σ)  : CT l yL_meets (wsH yL_meets cL_meets 5 (some .int) [(0, 17, 20, 21)]) d 8 64 D ba [.ref (ad [0]), .int (nI j), .int (nI q), .ref (ad [2])] ad (PW 0 ad σ tl t lo o) (WR ad σ (wset o [2] (eJ 1 (vp_updL f0 0 ((nI (metW (cH σ j) (cS σ q) (hDm (cH σ j)) (hDu (cH σ j))))).toInt64))) 0) noX := by
  refine CT_ofH RL rfl (by decide +kernel) hl (Nat.le_of_ble_eq_true rfl) ?_
  intro p e s m args below meth c C hr hnm
  refine V_lvE (lv' := [(0, .ref (ad [0])), (1, .int (nI j)), (2, .int (nI q)), (3, .ref (ad [2]))]) rfl ?_
  have hσ1 := hσ.1
  have hσ2 := hσ.2.1
  refine V_aload_n C dL_meets_0 3 rfl ?_
  refine V_iconst (v := nI 0) C dL_meets_1 (by decide) ?_
  refine V_aload_n C dL_meets_2 0 rfl ?_
  refine V_iload_n C dL_meets_3 1 rfl ?_
  refine V_iload_n C dL_meets_4 2 rfl ?_
  have hle9 : (metW (cH σ j) (cS σ q) (hDm (cH σ j)) (hDu (cH σ j))) ≤ 1 := metW_le _ _ _ _
  refine V_callV (r := (RX6, TX6, 8)) C [.int (nI j), .int (nI q)] dL_meets_5 m_X6_meets k_X6_meets tw_601 rfl rfl rfl PW_b rfl rfl (Nat.le_of_ble_eq_true rfl) ⟨by omega, by omega, by omega, by omega⟩ (p_meets hl (by omega) hσ hj hq) (kr_RP (x := .int (nI (metW (cH σ j) (cS σ q) (hDm (cH σ j)) (hDu (cH σ j))))) (fun tl t lo => ?_)) kx_no
  refine V_ifn_eq (tgt := 15) C dL_meets_8 (by decide) (by omega) (fun hb1 => ?_) (fun hb1 => ?_)
  · skip
    refine V_lconst (v := 0) C dL_meets_15 (by decide) ?_
    refine V_lastn C dL_meets_16 rfl (PW_2.trans ho2) (by decide) (by decide) ?_
    refine V_wd (w' := wset (PW 0 ad σ tl t lo o) ([2]) (eJ 1 (vp_updL f0 0 0))) rfl ?_
    refine V_goto (tgt := 24) C dL_meets_17 (by decide) ?_
    refine V_iconst (v := nI 0) C dL_meets_24 (by decide) ?_
    exact V_iret C .int dL_meets_25 hr rfl ⟨rfl, ⟨fun _ _ _ => rfl, rfl⟩, _, _, _, by rw [PW_o2, show ((nI (metW (cH σ j) (cS σ q) (hDm (cH σ j)) (hDu (cH σ j))))).toInt64 = 0 from by rw [show (metW (cH σ j) (cS σ q) (hDm (cH σ j)) (hDu (cH σ j))) = 0 by omega]; rfl]⟩ (by omega) (by omega)
  · skip
    refine V_lconst (v := 1) C dL_meets_11 (by decide) ?_
    refine V_goto (tgt := 16) C dL_meets_12 (by decide) ?_
    refine V_lastn C dL_meets_16 rfl (PW_2.trans ho2) (by decide) (by decide) ?_
    refine V_wd (w' := wset (PW 0 ad σ tl t lo o) ([2]) (eJ 1 (vp_updL f0 0 1))) rfl ?_
    refine V_goto (tgt := 24) C dL_meets_17 (by decide) ?_
    refine V_iconst (v := nI 0) C dL_meets_24 (by decide) ?_
    exact V_iret C .int dL_meets_25 hr rfl ⟨rfl, ⟨fun _ _ _ => rfl, rfl⟩, _, _, _, by rw [PW_o2, show ((nI (metW (cH σ j) (cS σ q) (hDm (cH σ j)) (hDu (cH σ j))))).toInt64 = 1 from by rw [show (metW (cH σ j) (cS σ q) (hDm (cH σ j)) (hDu (cH σ j))) = 1 by omega]; rfl]⟩ (by omega) (by omega)
set_option maxHeartbeats 4000000 in
theorem w_meets_no {l : Launch} {D : va_G} {ba d : Nat} {ad : Adr} (hl : l.stackTraces = false) (hd : 9 ≤ d) {σ : CS} {tl : Int32} {t : TT} {lo : Nat → Int32} {o : Wd} (hσ : cOK σ) {f0 : Nat → Int64} (ho2 : o [2] = some (eJ 1 f0)) {x : Int32} (hx : ∀ j, j < cN σ → x ≠ nI j) (y : Int32)  : CT l yL_meets (wsH yL_meets cL_meets 5 (some .int) [(0, 17, 20, 21)]) d 8 64 D ba [.ref (ad [0]), .int x, .int y, .ref (ad [2])] ad (PW 0 ad σ tl t lo o) (WR ad σ o 1) noX := by
  refine CT_ofH RL rfl (by decide +kernel) hl (Nat.le_of_ble_eq_true rfl) ?_
  intro p e s m args below meth c C hr hnm
  refine V_lvE (lv' := [(0, .ref (ad [0])), (1, .int x), (2, .int y), (3, .ref (ad [2]))]) rfl ?_
  have hσ1 := hσ.1
  have hσ2 := hσ.2.1
  refine V_aload_n C dL_meets_0 3 rfl ?_
  refine V_iconst (v := nI 0) C dL_meets_1 (by decide) ?_
  refine V_aload_n C dL_meets_2 0 rfl ?_
  refine V_iload_n C dL_meets_3 1 rfl ?_
  refine V_iload_n C dL_meets_4 2 rfl ?_
  refine V_callV (r := (RX6, TX6, 8)) C [.int x, .int y] dL_meets_5 m_X6_meets k_X6_meets tw_601 rfl rfl rfl PW_b rfl rfl (Nat.le_of_ble_eq_true rfl) ⟨by omega, by omega, by omega, by omega⟩ (p_meets_no hl (by omega) hσ hx y) kr_no (kx_XP (fun tl t lo => VX_catch C "java/lang/IndexOutOfBoundsException" [] ⟨0, 17, 20, 21⟩ [] rfl (fun z hz => absurd hz (by simp)) rfl (by decide) tw_346 (by decide +kernel) (fun a9 => ?_)))
  refine V_astore C [(4, .ref a9), (0, .ref (ad [0])), (1, .int x), (2, .int y), (3, .ref (ad [2]))] dL_meets_20 (by decide) rfl ?_
  refine V_iconst (v := nI 1) C dL_meets_22 (by decide) ?_
  exact V_iret C .int dL_meets_23 hr rfl ⟨rfl, ⟨fun _ _ _ => rfl, rfl⟩, _, _, _, rfl⟩ (by omega) (by omega)
set_option maxHeartbeats 4000000 in
theorem w_meets_no2 {l : Launch} {D : va_G} {ba d : Nat} {ad : Adr} (hl : l.stackTraces = false) (hd : 9 ≤ d) {σ : CS} {tl : Int32} {t : TT} {lo : Nat → Int32} {o : Wd} (hσ : cOK σ) {f0 : Nat → Int64} (ho2 : o [2] = some (eJ 1 f0)) {j : Nat} (hj : j < cN σ) {x2 : Int32} (hx2 : ∀ j, j < cK σ → x2 ≠ nI j)  : CT l yL_meets (wsH yL_meets cL_meets 5 (some .int) [(0, 17, 20, 21)]) d 8 64 D ba [.ref (ad [0]), .int (nI j), .int x2, .ref (ad [2])] ad (PW 0 ad σ tl t lo o) (WR ad σ o 1) noX := by
  refine CT_ofH RL rfl (by decide +kernel) hl (Nat.le_of_ble_eq_true rfl) ?_
  intro p e s m args below meth c C hr hnm
  refine V_lvE (lv' := [(0, .ref (ad [0])), (1, .int (nI j)), (2, .int x2), (3, .ref (ad [2]))]) rfl ?_
  have hσ1 := hσ.1
  have hσ2 := hσ.2.1
  refine V_aload_n C dL_meets_0 3 rfl ?_
  refine V_iconst (v := nI 0) C dL_meets_1 (by decide) ?_
  refine V_aload_n C dL_meets_2 0 rfl ?_
  refine V_iload_n C dL_meets_3 1 rfl ?_
  refine V_iload_n C dL_meets_4 2 rfl ?_
  refine V_callV (r := (RX6, TX6, 8)) C [.int (nI j), .int x2] dL_meets_5 m_X6_meets k_X6_meets tw_601 rfl rfl rfl PW_b rfl rfl (Nat.le_of_ble_eq_true rfl) ⟨by omega, by omega, by omega, by omega⟩ (p_meets_no2 hl (by omega) hσ hj hx2) kr_no (kx_XP (fun tl t lo => VX_catch C "java/lang/IndexOutOfBoundsException" [] ⟨0, 17, 20, 21⟩ [] rfl (fun z hz => absurd hz (by simp)) rfl (by decide) tw_346 (by decide +kernel) (fun a9 => ?_)))
  refine V_astore C [(4, .ref a9), (0, .ref (ad [0])), (1, .int (nI j)), (2, .int x2), (3, .ref (ad [2]))] dL_meets_20 (by decide) rfl ?_
  refine V_iconst (v := nI 1) C dL_meets_22 (by decide) ?_
  exact V_iret C .int dL_meets_23 hr rfl ⟨rfl, ⟨fun _ _ _ => rfl, rfl⟩, _, _, _, rfl⟩ (by omega) (by omega)
set_option maxHeartbeats 4000000 in
theorem w_isCertified {l : Launch} {D : va_G} {ba d : Nat} {ad : Adr} (hl : l.stackTraces = false) (hd : 9 ≤ d) {σ : CS} {tl : Int32} {t : TT} {lo : Nat → Int32} {o : Wd} (hσ : cOK σ) {f0 : Nat → Int64} (ho2 : o [2] = some (eJ 1 f0)) {j : Nat} (hj : j < cN σ)  : CT l yL_isCertified (wsH yL_isCertified cL_isCertified 4 (some .int) [(0, 16, 19, 21)]) d 8 64 D ba [.ref (ad [0]), .int (nI j), .ref (ad [2])] ad (PW 0 ad σ tl t lo o) (WR ad σ (wset o [2] (eJ 1 (vp_updL f0 0 ((nI (if hCe (cH σ j) = -1 then 0 else 1))).toInt64))) 0) noX := by
  refine CT_ofH RL rfl (by decide +kernel) hl (Nat.le_of_ble_eq_true rfl) ?_
  intro p e s m args below meth c C hr hnm
  refine V_lvE (lv' := [(0, .ref (ad [0])), (1, .int (nI j)), (2, .ref (ad [2]))]) rfl ?_
  have hσ1 := hσ.1
  have hσ2 := hσ.2.1
  refine V_aload_n C dL_isCertified_0 2 rfl ?_
  refine V_iconst (v := nI 0) C dL_isCertified_1 (by decide) ?_
  refine V_aload_n C dL_isCertified_2 0 rfl ?_
  refine V_iload_n C dL_isCertified_3 1 rfl ?_
  have hle9 : (if hCe (cH σ j) = -1 then 0 else 1) ≤ 1 := by split <;> omega
  refine V_callV (r := (RX6, TX6, 8)) C [.int (nI j)] dL_isCertified_4 m_X6_isCertified k_X6_isCertified tw_615 rfl rfl rfl PW_b rfl rfl (Nat.le_of_ble_eq_true rfl) ⟨by omega, by omega, by omega, by omega⟩ (p_isCertified hl (by omega) hσ hj) (kr_RP (x := .int (nI (if hCe (cH σ j) = -1 then 0 else 1))) (fun tl t lo => ?_)) kx_no
  refine V_ifn_eq (tgt := 14) C dL_isCertified_7 (by decide) (by omega) (fun hb1 => ?_) (fun hb1 => ?_)
  · skip
    refine V_lconst (v := 0) C dL_isCertified_14 (by decide) ?_
    refine V_lastn C dL_isCertified_15 rfl (PW_2.trans ho2) (by decide) (by decide) ?_
    refine V_wd (w' := wset (PW 0 ad σ tl t lo o) ([2]) (eJ 1 (vp_updL f0 0 0))) rfl ?_
    refine V_goto (tgt := 22) C dL_isCertified_16 (by decide) ?_
    refine V_iconst (v := nI 0) C dL_isCertified_22 (by decide) ?_
    exact V_iret C .int dL_isCertified_23 hr rfl ⟨rfl, ⟨fun _ _ _ => rfl, rfl⟩, _, _, _, by rw [PW_o2, show ((nI (if hCe (cH σ j) = -1 then 0 else 1))).toInt64 = 0 from by rw [show (if hCe (cH σ j) = -1 then 0 else 1) = 0 by omega]; rfl]⟩ (by omega) (by omega)
  · skip
    refine V_lconst (v := 1) C dL_isCertified_10 (by decide) ?_
    refine V_goto (tgt := 15) C dL_isCertified_11 (by decide) ?_
    refine V_lastn C dL_isCertified_15 rfl (PW_2.trans ho2) (by decide) (by decide) ?_
    refine V_wd (w' := wset (PW 0 ad σ tl t lo o) ([2]) (eJ 1 (vp_updL f0 0 1))) rfl ?_
    refine V_goto (tgt := 22) C dL_isCertified_16 (by decide) ?_
    refine V_iconst (v := nI 0) C dL_isCertified_22 (by decide) ?_
    exact V_iret C .int dL_isCertified_23 hr rfl ⟨rfl, ⟨fun _ _ _ => rfl, rfl⟩, _, _, _, by rw [PW_o2, show ((nI (if hCe (cH σ j) = -1 then 0 else 1))).toInt64 = 1 from by rw [show (if hCe (cH σ j) = -1 then 0 else 1) = 1 by omega]; rfl]⟩ (by omega) (by omega)
set_option maxHeartbeats 4000000 in
theorem w_isCertified_no {l : Launch} {D : va_G} {ba d : Nat} {ad : Adr} (hl : l.stackTraces = false) (hd : 9 ≤ d) {σ : CS} {tl : Int32} {t : TT} {lo : Nat → Int32} {o : Wd} (hσ : cOK σ) {f0 : Nat → Int64} (ho2 : o [2] = some (eJ 1 f0)) {x : Int32} (hx : ∀ j, j < cN σ → x ≠ nI j)  : CT l yL_isCertified (wsH yL_isCertified cL_isCertified 4 (some .int) [(0, 16, 19, 21)]) d 8 64 D ba [.ref (ad [0]), .int x, .ref (ad [2])] ad (PW 0 ad σ tl t lo o) (WR ad σ o 1) noX := by
  refine CT_ofH RL rfl (by decide +kernel) hl (Nat.le_of_ble_eq_true rfl) ?_
  intro p e s m args below meth c C hr hnm
  refine V_lvE (lv' := [(0, .ref (ad [0])), (1, .int x), (2, .ref (ad [2]))]) rfl ?_
  have hσ1 := hσ.1
  have hσ2 := hσ.2.1
  refine V_aload_n C dL_isCertified_0 2 rfl ?_
  refine V_iconst (v := nI 0) C dL_isCertified_1 (by decide) ?_
  refine V_aload_n C dL_isCertified_2 0 rfl ?_
  refine V_iload_n C dL_isCertified_3 1 rfl ?_
  refine V_callV (r := (RX6, TX6, 8)) C [.int x] dL_isCertified_4 m_X6_isCertified k_X6_isCertified tw_615 rfl rfl rfl PW_b rfl rfl (Nat.le_of_ble_eq_true rfl) ⟨by omega, by omega, by omega, by omega⟩ (p_isCertified_no hl (by omega) hσ hx) kr_no (kx_XP (fun tl t lo => VX_catch C "java/lang/IndexOutOfBoundsException" [] ⟨0, 16, 19, 21⟩ [] rfl (fun z hz => absurd hz (by simp)) rfl (by decide) tw_346 (by decide +kernel) (fun a9 => ?_)))
  refine V_astore_n C [(3, .ref a9), (0, .ref (ad [0])), (1, .int x), (2, .ref (ad [2]))] dL_isCertified_19 (by decide) rfl ?_
  refine V_iconst (v := nI 1) C dL_isCertified_20 (by decide) ?_
  exact V_iret C .int dL_isCertified_21 hr rfl ⟨rfl, ⟨fun _ _ _ => rfl, rfl⟩, _, _, _, rfl⟩ (by omega) (by omega)
set_option maxHeartbeats 4000000 in
theorem w_meetsWithDamping {l : Launch} {D : va_G} {ba d : Nat} {ad : Adr} (hl : l.stackTraces = false) (hd : 10 ≤ d) {σ : CS} {tl : Int32} {t : TT} {lo : Nat → Int32} {o : Wd} (hσ : cOK σ) {f0 : Nat → Int64} (ho2 : o [2] = some (eJ 1 f0)) {j : Nat} (hj : j < cN σ) {q : Nat} (hq : q < cK σ) {v : Nat} (hv : v ≤ 90) (hin : ¬ inR (nI v) (nI 0) (nI 90) = 0)  : CT l yL_meetsWithDamping (wsH yL_meetsWithDamping cL_meetsWithDamping 6 (some .int) [(0, 19, 22, 21), (0, 19, 26, 13)]) d 8 64 D ba [.ref (ad [0]), .int (nI j), .int (nI q), .int (nI v), .ref (ad [2])] ad (PW 0 ad σ tl t lo o) (WR ad σ (wset o [2] (eJ 1 (vp_updL f0 0 ((nI (metW (cH σ j) (cS σ q) v (hDu (cH σ j))))).toInt64))) 0) noX := by
  refine CT_ofH RL rfl (by decide +kernel) hl (Nat.le_of_ble_eq_true rfl) ?_
  intro p e s m args below meth c C hr hnm
  refine V_lvE (lv' := [(0, .ref (ad [0])), (1, .int (nI j)), (2, .int (nI q)), (3, .int (nI v)), (4, .ref (ad [2]))]) rfl ?_
  have hσ1 := hσ.1
  have hσ2 := hσ.2.1
  refine V_aload C dL_meetsWithDamping_0 4 rfl ?_
  refine V_iconst (v := nI 0) C dL_meetsWithDamping_2 (by decide) ?_
  refine V_aload_n C dL_meetsWithDamping_3 0 rfl ?_
  refine V_iload_n C dL_meetsWithDamping_4 1 rfl ?_
  refine V_iload_n C dL_meetsWithDamping_5 2 rfl ?_
  refine V_iload_n C dL_meetsWithDamping_6 3 rfl ?_
  have hle9 : (metW (cH σ j) (cS σ q) v (hDu (cH σ j))) ≤ 1 := metW_le _ _ _ _
  refine V_callV (r := (RX6, TX6, 8)) C [.int (nI j), .int (nI q), .int (nI v)] dL_meetsWithDamping_7 m_X6_meetsWithDamping k_X6_meetsWithDamping tw_636 rfl rfl rfl PW_b rfl rfl (Nat.le_of_ble_eq_true rfl) ⟨by omega, by omega, by omega, by omega⟩ (p_withDamp hl (by omega) hσ hj hq hv hin) (kr_RP (x := .int (nI (metW (cH σ j) (cS σ q) v (hDu (cH σ j))))) (fun tl t lo => ?_)) kx_no
  refine V_ifn_eq (tgt := 17) C dL_meetsWithDamping_10 (by decide) (by omega) (fun hb1 => ?_) (fun hb1 => ?_)
  · skip
    refine V_lconst (v := 0) C dL_meetsWithDamping_17 (by decide) ?_
    refine V_lastn C dL_meetsWithDamping_18 rfl (PW_2.trans ho2) (by decide) (by decide) ?_
    refine V_wd (w' := wset (PW 0 ad σ tl t lo o) ([2]) (eJ 1 (vp_updL f0 0 0))) rfl ?_
    refine V_goto (tgt := 30) C dL_meetsWithDamping_19 (by decide) ?_
    refine V_iconst (v := nI 0) C dL_meetsWithDamping_30 (by decide) ?_
    exact V_iret C .int dL_meetsWithDamping_31 hr rfl ⟨rfl, ⟨fun _ _ _ => rfl, rfl⟩, _, _, _, by rw [PW_o2, show ((nI (metW (cH σ j) (cS σ q) v (hDu (cH σ j))))).toInt64 = 0 from by rw [show (metW (cH σ j) (cS σ q) v (hDu (cH σ j))) = 0 by omega]; rfl]⟩ (by omega) (by omega)
  · skip
    refine V_lconst (v := 1) C dL_meetsWithDamping_13 (by decide) ?_
    refine V_goto (tgt := 18) C dL_meetsWithDamping_14 (by decide) ?_
    refine V_lastn C dL_meetsWithDamping_18 rfl (PW_2.trans ho2) (by decide) (by decide) ?_
    refine V_wd (w' := wset (PW 0 ad σ tl t lo o) ([2]) (eJ 1 (vp_updL f0 0 1))) rfl ?_
    refine V_goto (tgt := 30) C dL_meetsWithDamping_19 (by decide) ?_
    refine V_iconst (v := nI 0) C dL_meetsWithDamping_30 (by decide) ?_
    exact V_iret C .int dL_meetsWithDamping_31 hr rfl ⟨rfl, ⟨fun _ _ _ => rfl, rfl⟩, _, _, _, by rw [PW_o2, show ((nI (metW (cH σ j) (cS σ q) v (hDu (cH σ j))))).toInt64 = 1 from by rw [show (metW (cH σ j) (cS σ q) v (hDu (cH σ j))) = 1 by omega]; rfl]⟩ (by omega) (by omega)
set_option maxHeartbeats 4000000 in
theorem w_meetsWithDamping_no {l : Launch} {D : va_G} {ba d : Nat} {ad : Adr} (hl : l.stackTraces = false) (hd : 9 ≤ d) {σ : CS} {tl : Int32} {t : TT} {lo : Nat → Int32} {o : Wd} (hσ : cOK σ) {f0 : Nat → Int64} (ho2 : o [2] = some (eJ 1 f0)) {x : Int32} (hx : ∀ j, j < cN σ → x ≠ nI j) (y z : Int32)  : CT l yL_meetsWithDamping (wsH yL_meetsWithDamping cL_meetsWithDamping 6 (some .int) [(0, 19, 22, 21), (0, 19, 26, 13)]) d 8 64 D ba [.ref (ad [0]), .int x, .int y, .int z, .ref (ad [2])] ad (PW 0 ad σ tl t lo o) (WR ad σ o 1) noX := by
  refine CT_ofH RL rfl (by decide +kernel) hl (Nat.le_of_ble_eq_true rfl) ?_
  intro p e s m args below meth c C hr hnm
  refine V_lvE (lv' := [(0, .ref (ad [0])), (1, .int x), (2, .int y), (3, .int z), (4, .ref (ad [2]))]) rfl ?_
  have hσ1 := hσ.1
  have hσ2 := hσ.2.1
  refine V_aload C dL_meetsWithDamping_0 4 rfl ?_
  refine V_iconst (v := nI 0) C dL_meetsWithDamping_2 (by decide) ?_
  refine V_aload_n C dL_meetsWithDamping_3 0 rfl ?_
  refine V_iload_n C dL_meetsWithDamping_4 1 rfl ?_
  refine V_iload_n C dL_meetsWithDamping_5 2 rfl ?_
  refine V_iload_n C dL_meetsWithDamping_6 3 rfl ?_
  refine V_callV (r := (RX6, TX6, 8)) C [.int x, .int y, .int z] dL_meetsWithDamping_7 m_X6_meetsWithDamping k_X6_meetsWithDamping tw_636 rfl rfl rfl PW_b rfl rfl (Nat.le_of_ble_eq_true rfl) ⟨by omega, by omega, by omega, by omega⟩ (p_withDamp_no hl (by omega) hσ hx y z) kr_no (kx_XP (fun tl t lo => VX_catch C "java/lang/IndexOutOfBoundsException" [] ⟨0, 19, 22, 21⟩ [⟨0, 19, 26, 13⟩] rfl (fun z hz => absurd hz (by simp)) rfl (by decide) tw_346 (by decide +kernel) (fun a9 => ?_)))
  refine V_astore C [(5, .ref a9), (0, .ref (ad [0])), (1, .int x), (2, .int y), (3, .int z), (4, .ref (ad [2]))] dL_meetsWithDamping_22 (by decide) rfl ?_
  refine V_iconst (v := nI 1) C dL_meetsWithDamping_24 (by decide) ?_
  exact V_iret C .int dL_meetsWithDamping_25 hr rfl ⟨rfl, ⟨fun _ _ _ => rfl, rfl⟩, _, _, _, rfl⟩ (by omega) (by omega)
set_option maxHeartbeats 4000000 in
theorem w_meetsWithDamping_no2 {l : Launch} {D : va_G} {ba d : Nat} {ad : Adr} (hl : l.stackTraces = false) (hd : 9 ≤ d) {σ : CS} {tl : Int32} {t : TT} {lo : Nat → Int32} {o : Wd} (hσ : cOK σ) {f0 : Nat → Int64} (ho2 : o [2] = some (eJ 1 f0)) {j : Nat} (hj : j < cN σ) {x2 : Int32} (hx2 : ∀ j, j < cK σ → x2 ≠ nI j) (z : Int32)  : CT l yL_meetsWithDamping (wsH yL_meetsWithDamping cL_meetsWithDamping 6 (some .int) [(0, 19, 22, 21), (0, 19, 26, 13)]) d 8 64 D ba [.ref (ad [0]), .int (nI j), .int x2, .int z, .ref (ad [2])] ad (PW 0 ad σ tl t lo o) (WR ad σ o 1) noX := by
  refine CT_ofH RL rfl (by decide +kernel) hl (Nat.le_of_ble_eq_true rfl) ?_
  intro p e s m args below meth c C hr hnm
  refine V_lvE (lv' := [(0, .ref (ad [0])), (1, .int (nI j)), (2, .int x2), (3, .int z), (4, .ref (ad [2]))]) rfl ?_
  have hσ1 := hσ.1
  have hσ2 := hσ.2.1
  refine V_aload C dL_meetsWithDamping_0 4 rfl ?_
  refine V_iconst (v := nI 0) C dL_meetsWithDamping_2 (by decide) ?_
  refine V_aload_n C dL_meetsWithDamping_3 0 rfl ?_
  refine V_iload_n C dL_meetsWithDamping_4 1 rfl ?_
  refine V_iload_n C dL_meetsWithDamping_5 2 rfl ?_
  refine V_iload_n C dL_meetsWithDamping_6 3 rfl ?_
  refine V_callV (r := (RX6, TX6, 8)) C [.int (nI j), .int x2, .int z] dL_meetsWithDamping_7 m_X6_meetsWithDamping k_X6_meetsWithDamping tw_636 rfl rfl rfl PW_b rfl rfl (Nat.le_of_ble_eq_true rfl) ⟨by omega, by omega, by omega, by omega⟩ (p_withDamp_no2 hl (by omega) hσ hj hx2 z) kr_no (kx_XP (fun tl t lo => VX_catch C "java/lang/IndexOutOfBoundsException" [] ⟨0, 19, 22, 21⟩ [⟨0, 19, 26, 13⟩] rfl (fun z hz => absurd hz (by simp)) rfl (by decide) tw_346 (by decide +kernel) (fun a9 => ?_)))
  refine V_astore C [(5, .ref a9), (0, .ref (ad [0])), (1, .int (nI j)), (2, .int x2), (3, .int z), (4, .ref (ad [2]))] dL_meetsWithDamping_22 (by decide) rfl ?_
  refine V_iconst (v := nI 1) C dL_meetsWithDamping_24 (by decide) ?_
  exact V_iret C .int dL_meetsWithDamping_25 hr rfl ⟨rfl, ⟨fun _ _ _ => rfl, rfl⟩, _, _, _, rfl⟩ (by omega) (by omega)
set_option maxHeartbeats 4000000 in
theorem w_meetsWithDamping_bad {l : Launch} {D : va_G} {ba d : Nat} {ad : Adr} (hl : l.stackTraces = false) (hd : 10 ≤ d) {σ : CS} {tl : Int32} {t : TT} {lo : Nat → Int32} {o : Wd} (hσ : cOK σ) {f0 : Nat → Int64} (ho2 : o [2] = some (eJ 1 f0)) {j : Nat} (hj : j < cN σ) {q : Nat} (hq : q < cK σ) {y : Int32} (hin : inR y (nI 0) (nI 90) = 0)  : CT l yL_meetsWithDamping (wsH yL_meetsWithDamping cL_meetsWithDamping 6 (some .int) [(0, 19, 22, 21), (0, 19, 26, 13)]) d 8 64 D ba [.ref (ad [0]), .int (nI j), .int (nI q), .int y, .ref (ad [2])] ad (PW 0 ad σ tl t lo o) (WR ad σ o 2) noX := by
  refine CT_ofH RL rfl (by decide +kernel) hl (Nat.le_of_ble_eq_true rfl) ?_
  intro p e s m args below meth c C hr hnm
  refine V_lvE (lv' := [(0, .ref (ad [0])), (1, .int (nI j)), (2, .int (nI q)), (3, .int y), (4, .ref (ad [2]))]) rfl ?_
  have hσ1 := hσ.1
  have hσ2 := hσ.2.1
  refine V_aload C dL_meetsWithDamping_0 4 rfl ?_
  refine V_iconst (v := nI 0) C dL_meetsWithDamping_2 (by decide) ?_
  refine V_aload_n C dL_meetsWithDamping_3 0 rfl ?_
  refine V_iload_n C dL_meetsWithDamping_4 1 rfl ?_
  refine V_iload_n C dL_meetsWithDamping_5 2 rfl ?_
  refine V_iload_n C dL_meetsWithDamping_6 3 rfl ?_
  refine V_callV (r := (RX6, TX6, 8)) C [.int (nI j), .int (nI q), .int y] dL_meetsWithDamping_7 m_X6_meetsWithDamping k_X6_meetsWithDamping tw_636 rfl rfl rfl PW_b rfl rfl (Nat.le_of_ble_eq_true rfl) ⟨by omega, by omega, by omega, by omega⟩ (p_withDamp_bad hl (by omega) hσ hj hq hin) kr_no (kx_XP (fun tl t lo => VX_catch C "java/lang/IllegalArgumentException" [⟨0, 19, 22, 21⟩] ⟨0, 19, 26, 13⟩ [] rfl (fun z hz => by
        simp only [List.mem_cons, List.mem_nil_iff, or_false] at hz
        rcases hz with rfl
        · exact Or.inr ⟨by decide, "java/lang/IndexOutOfBoundsException", tw_346, by decide⟩) rfl (by decide) tw_216 (by decide +kernel) (fun a9 => ?_)))
  refine V_astore C [(5, .ref a9), (0, .ref (ad [0])), (1, .int (nI j)), (2, .int (nI q)), (3, .int y), (4, .ref (ad [2]))] dL_meetsWithDamping_26 (by decide) rfl ?_
  refine V_iconst (v := nI 2) C dL_meetsWithDamping_28 (by decide) ?_
  exact V_iret C .int dL_meetsWithDamping_29 hr rfl ⟨rfl, ⟨fun _ _ _ => rfl, rfl⟩, _, _, _, rfl⟩ (by omega) (by omega)
set_option maxHeartbeats 4000000 in
theorem w_inspect_met {l : Launch} {D : va_G} {ba d : Nat} {ad : Adr} (hl : l.stackTraces = false) (hd : 10 ≤ d) {σ : CS} {tl : Int32} {t : TT} {lo : Nat → Int32} {o : Wd} (hσ : cOK σ) {f0 : Nat → Int64} (ho2 : o [2] = some (eJ 1 f0)) {j : Nat} (hj : j < cN σ) {q : Nat} (hq : q < cK σ) (hm : metW (cH σ j) (cS σ q) (hDm (cH σ j)) (hDu (cH σ j)) = 1)  : CT l yL_inspect (wsH yL_inspect cL_inspect 5 (some .int) [(0, 17, 20, 21)]) d 8 64 D ba [.ref (ad [0]), .int (nI j), .int (nI q), .ref (ad [2])] ad (PW 0 ad σ tl t lo o) (WR ad (setH (cN σ, cK σ, cDay σ, cIns σ + nI 1, cH σ, cS σ) j (hSc (cH σ j), hDm (cH σ j), hDu (cH σ j), nI q, (cS σ q).2.2.2.2, hSu (cH σ j))) (wset o [2] (eJ 1 (vp_updL f0 0 ((nI (metW (cH σ j) (cS σ q) (hDm (cH σ j)) (hDu (cH σ j))))).toInt64))) 0) noX := by
  refine CT_ofH RL rfl (by decide +kernel) hl (Nat.le_of_ble_eq_true rfl) ?_
  intro p e s m args below meth c C hr hnm
  refine V_lvE (lv' := [(0, .ref (ad [0])), (1, .int (nI j)), (2, .int (nI q)), (3, .ref (ad [2]))]) rfl ?_
  have hσ1 := hσ.1
  have hσ2 := hσ.2.1
  refine V_aload_n C dL_inspect_0 3 rfl ?_
  refine V_iconst (v := nI 0) C dL_inspect_1 (by decide) ?_
  refine V_aload_n C dL_inspect_2 0 rfl ?_
  refine V_iload_n C dL_inspect_3 1 rfl ?_
  refine V_iload_n C dL_inspect_4 2 rfl ?_
  have hle9 : (metW (cH σ j) (cS σ q) (hDm (cH σ j)) (hDu (cH σ j))) ≤ 1 := metW_le _ _ _ _
  refine V_callV (r := (RX6, TX6, 8)) C [.int (nI j), .int (nI q)] dL_inspect_5 m_X6_inspect k_X6_inspect tw_463 rfl rfl rfl PW_b rfl rfl (Nat.le_of_ble_eq_true rfl) ⟨by omega, by omega, by omega, by omega⟩ (p_inspect_met hl (by omega) hσ hj hq hm) (kr_RP (x := .int (nI (metW (cH σ j) (cS σ q) (hDm (cH σ j)) (hDu (cH σ j))))) (fun tl t lo => ?_)) kx_no
  refine V_ifn_eq (tgt := 15) C dL_inspect_8 (by decide) (by omega) (fun hb1 => ?_) (fun hb1 => ?_)
  · skip
    refine V_lconst (v := 0) C dL_inspect_15 (by decide) ?_
    refine V_lastn C dL_inspect_16 rfl (PW_2.trans ho2) (by decide) (by decide) ?_
    refine V_wd (w' := wset (PW 0 ad (setH (cN σ, cK σ, cDay σ, cIns σ + nI 1, cH σ, cS σ) j (hSc (cH σ j), hDm (cH σ j), hDu (cH σ j), nI q, (cS σ q).2.2.2.2, hSu (cH σ j))) tl t lo o) ([2]) (eJ 1 (vp_updL f0 0 0))) rfl ?_
    refine V_goto (tgt := 24) C dL_inspect_17 (by decide) ?_
    refine V_iconst (v := nI 0) C dL_inspect_24 (by decide) ?_
    exact V_iret C .int dL_inspect_25 hr rfl ⟨rfl, ⟨fun _ _ _ => rfl, rfl⟩, _, _, _, by rw [PW_o2, show ((nI (metW (cH σ j) (cS σ q) (hDm (cH σ j)) (hDu (cH σ j))))).toInt64 = 0 from by rw [show (metW (cH σ j) (cS σ q) (hDm (cH σ j)) (hDu (cH σ j))) = 0 by omega]; rfl]⟩ (by omega) (by omega)
  · skip
    refine V_lconst (v := 1) C dL_inspect_11 (by decide) ?_
    refine V_goto (tgt := 16) C dL_inspect_12 (by decide) ?_
    refine V_lastn C dL_inspect_16 rfl (PW_2.trans ho2) (by decide) (by decide) ?_
    refine V_wd (w' := wset (PW 0 ad (setH (cN σ, cK σ, cDay σ, cIns σ + nI 1, cH σ, cS σ) j (hSc (cH σ j), hDm (cH σ j), hDu (cH σ j), nI q, (cS σ q).2.2.2.2, hSu (cH σ j))) tl t lo o) ([2]) (eJ 1 (vp_updL f0 0 1))) rfl ?_
    refine V_goto (tgt := 24) C dL_inspect_17 (by decide) ?_
    refine V_iconst (v := nI 0) C dL_inspect_24 (by decide) ?_
    exact V_iret C .int dL_inspect_25 hr rfl ⟨rfl, ⟨fun _ _ _ => rfl, rfl⟩, _, _, _, by rw [PW_o2, show ((nI (metW (cH σ j) (cS σ q) (hDm (cH σ j)) (hDu (cH σ j))))).toInt64 = 1 from by rw [show (metW (cH σ j) (cS σ q) (hDm (cH σ j)) (hDu (cH σ j))) = 1 by omega]; rfl]⟩ (by omega) (by omega)
set_option maxHeartbeats 4000000 in
theorem w_inspect_same {l : Launch} {D : va_G} {ba d : Nat} {ad : Adr} (hl : l.stackTraces = false) (hd : 10 ≤ d) {σ : CS} {tl : Int32} {t : TT} {lo : Nat → Int32} {o : Wd} (hσ : cOK σ) {f0 : Nat → Int64} (ho2 : o [2] = some (eJ 1 f0)) {j : Nat} (hj : j < cN σ) {q : Nat} (hq : q < cK σ) (hm : metW (cH σ j) (cS σ q) (hDm (cH σ j)) (hDu (cH σ j)) = 0) (hc : hCe (cH σ j) = nI q)  : CT l yL_inspect (wsH yL_inspect cL_inspect 5 (some .int) [(0, 17, 20, 21)]) d 8 64 D ba [.ref (ad [0]), .int (nI j), .int (nI q), .ref (ad [2])] ad (PW 0 ad σ tl t lo o) (WR ad (setH (cN σ, cK σ, cDay σ, cIns σ + nI 1, cH σ, cS σ) j (hSc (cH σ j), hDm (cH σ j), hDu (cH σ j), -1, 0, hSu (cH σ j))) (wset o [2] (eJ 1 (vp_updL f0 0 ((nI (metW (cH σ j) (cS σ q) (hDm (cH σ j)) (hDu (cH σ j))))).toInt64))) 0) noX := by
  refine CT_ofH RL rfl (by decide +kernel) hl (Nat.le_of_ble_eq_true rfl) ?_
  intro p e s m args below meth c C hr hnm
  refine V_lvE (lv' := [(0, .ref (ad [0])), (1, .int (nI j)), (2, .int (nI q)), (3, .ref (ad [2]))]) rfl ?_
  have hσ1 := hσ.1
  have hσ2 := hσ.2.1
  refine V_aload_n C dL_inspect_0 3 rfl ?_
  refine V_iconst (v := nI 0) C dL_inspect_1 (by decide) ?_
  refine V_aload_n C dL_inspect_2 0 rfl ?_
  refine V_iload_n C dL_inspect_3 1 rfl ?_
  refine V_iload_n C dL_inspect_4 2 rfl ?_
  have hle9 : (metW (cH σ j) (cS σ q) (hDm (cH σ j)) (hDu (cH σ j))) ≤ 1 := metW_le _ _ _ _
  refine V_callV (r := (RX6, TX6, 8)) C [.int (nI j), .int (nI q)] dL_inspect_5 m_X6_inspect k_X6_inspect tw_463 rfl rfl rfl PW_b rfl rfl (Nat.le_of_ble_eq_true rfl) ⟨by omega, by omega, by omega, by omega⟩ (p_inspect_same hl (by omega) hσ hj hq hm hc) (kr_RP (x := .int (nI (metW (cH σ j) (cS σ q) (hDm (cH σ j)) (hDu (cH σ j))))) (fun tl t lo => ?_)) kx_no
  refine V_ifn_eq (tgt := 15) C dL_inspect_8 (by decide) (by omega) (fun hb1 => ?_) (fun hb1 => ?_)
  · skip
    refine V_lconst (v := 0) C dL_inspect_15 (by decide) ?_
    refine V_lastn C dL_inspect_16 rfl (PW_2.trans ho2) (by decide) (by decide) ?_
    refine V_wd (w' := wset (PW 0 ad (setH (cN σ, cK σ, cDay σ, cIns σ + nI 1, cH σ, cS σ) j (hSc (cH σ j), hDm (cH σ j), hDu (cH σ j), -1, 0, hSu (cH σ j))) tl t lo o) ([2]) (eJ 1 (vp_updL f0 0 0))) rfl ?_
    refine V_goto (tgt := 24) C dL_inspect_17 (by decide) ?_
    refine V_iconst (v := nI 0) C dL_inspect_24 (by decide) ?_
    exact V_iret C .int dL_inspect_25 hr rfl ⟨rfl, ⟨fun _ _ _ => rfl, rfl⟩, _, _, _, by rw [PW_o2, show ((nI (metW (cH σ j) (cS σ q) (hDm (cH σ j)) (hDu (cH σ j))))).toInt64 = 0 from by rw [show (metW (cH σ j) (cS σ q) (hDm (cH σ j)) (hDu (cH σ j))) = 0 by omega]; rfl]⟩ (by omega) (by omega)
  · skip
    refine V_lconst (v := 1) C dL_inspect_11 (by decide) ?_
    refine V_goto (tgt := 16) C dL_inspect_12 (by decide) ?_
    refine V_lastn C dL_inspect_16 rfl (PW_2.trans ho2) (by decide) (by decide) ?_
    refine V_wd (w' := wset (PW 0 ad (setH (cN σ, cK σ, cDay σ, cIns σ + nI 1, cH σ, cS σ) j (hSc (cH σ j), hDm (cH σ j), hDu (cH σ j), -1, 0, hSu (cH σ j))) tl t lo o) ([2]) (eJ 1 (vp_updL f0 0 1))) rfl ?_
    refine V_goto (tgt := 24) C dL_inspect_17 (by decide) ?_
    refine V_iconst (v := nI 0) C dL_inspect_24 (by decide) ?_
    exact V_iret C .int dL_inspect_25 hr rfl ⟨rfl, ⟨fun _ _ _ => rfl, rfl⟩, _, _, _, by rw [PW_o2, show ((nI (metW (cH σ j) (cS σ q) (hDm (cH σ j)) (hDu (cH σ j))))).toInt64 = 1 from by rw [show (metW (cH σ j) (cS σ q) (hDm (cH σ j)) (hDu (cH σ j))) = 1 by omega]; rfl]⟩ (by omega) (by omega)
set_option maxHeartbeats 4000000 in
theorem w_inspect_other {l : Launch} {D : va_G} {ba d : Nat} {ad : Adr} (hl : l.stackTraces = false) (hd : 10 ≤ d) {σ : CS} {tl : Int32} {t : TT} {lo : Nat → Int32} {o : Wd} (hσ : cOK σ) {f0 : Nat → Int64} (ho2 : o [2] = some (eJ 1 f0)) {j : Nat} (hj : j < cN σ) {q : Nat} (hq : q < cK σ) (hm : metW (cH σ j) (cS σ q) (hDm (cH σ j)) (hDu (cH σ j)) = 0) (hc : ¬ hCe (cH σ j) = nI q)  : CT l yL_inspect (wsH yL_inspect cL_inspect 5 (some .int) [(0, 17, 20, 21)]) d 8 64 D ba [.ref (ad [0]), .int (nI j), .int (nI q), .ref (ad [2])] ad (PW 0 ad σ tl t lo o) (WR ad (cN σ, cK σ, cDay σ, cIns σ + nI 1, cH σ, cS σ) (wset o [2] (eJ 1 (vp_updL f0 0 ((nI (metW (cH σ j) (cS σ q) (hDm (cH σ j)) (hDu (cH σ j))))).toInt64))) 0) noX := by
  refine CT_ofH RL rfl (by decide +kernel) hl (Nat.le_of_ble_eq_true rfl) ?_
  intro p e s m args below meth c C hr hnm
  refine V_lvE (lv' := [(0, .ref (ad [0])), (1, .int (nI j)), (2, .int (nI q)), (3, .ref (ad [2]))]) rfl ?_
  have hσ1 := hσ.1
  have hσ2 := hσ.2.1
  refine V_aload_n C dL_inspect_0 3 rfl ?_
  refine V_iconst (v := nI 0) C dL_inspect_1 (by decide) ?_
  refine V_aload_n C dL_inspect_2 0 rfl ?_
  refine V_iload_n C dL_inspect_3 1 rfl ?_
  refine V_iload_n C dL_inspect_4 2 rfl ?_
  have hle9 : (metW (cH σ j) (cS σ q) (hDm (cH σ j)) (hDu (cH σ j))) ≤ 1 := metW_le _ _ _ _
  refine V_callV (r := (RX6, TX6, 8)) C [.int (nI j), .int (nI q)] dL_inspect_5 m_X6_inspect k_X6_inspect tw_463 rfl rfl rfl PW_b rfl rfl (Nat.le_of_ble_eq_true rfl) ⟨by omega, by omega, by omega, by omega⟩ (p_inspect_other hl (by omega) hσ hj hq hm hc) (kr_RP (x := .int (nI (metW (cH σ j) (cS σ q) (hDm (cH σ j)) (hDu (cH σ j))))) (fun tl t lo => ?_)) kx_no
  refine V_ifn_eq (tgt := 15) C dL_inspect_8 (by decide) (by omega) (fun hb1 => ?_) (fun hb1 => ?_)
  · skip
    refine V_lconst (v := 0) C dL_inspect_15 (by decide) ?_
    refine V_lastn C dL_inspect_16 rfl (PW_2.trans ho2) (by decide) (by decide) ?_
    refine V_wd (w' := wset (PW 0 ad (cN σ, cK σ, cDay σ, cIns σ + nI 1, cH σ, cS σ) tl t lo o) ([2]) (eJ 1 (vp_updL f0 0 0))) rfl ?_
    refine V_goto (tgt := 24) C dL_inspect_17 (by decide) ?_
    refine V_iconst (v := nI 0) C dL_inspect_24 (by decide) ?_
    exact V_iret C .int dL_inspect_25 hr rfl ⟨rfl, ⟨fun _ _ _ => rfl, rfl⟩, _, _, _, by rw [PW_o2, show ((nI (metW (cH σ j) (cS σ q) (hDm (cH σ j)) (hDu (cH σ j))))).toInt64 = 0 from by rw [show (metW (cH σ j) (cS σ q) (hDm (cH σ j)) (hDu (cH σ j))) = 0 by omega]; rfl]⟩ (by omega) (by omega)
  · skip
    refine V_lconst (v := 1) C dL_inspect_11 (by decide) ?_
    refine V_goto (tgt := 16) C dL_inspect_12 (by decide) ?_
    refine V_lastn C dL_inspect_16 rfl (PW_2.trans ho2) (by decide) (by decide) ?_
    refine V_wd (w' := wset (PW 0 ad (cN σ, cK σ, cDay σ, cIns σ + nI 1, cH σ, cS σ) tl t lo o) ([2]) (eJ 1 (vp_updL f0 0 1))) rfl ?_
    refine V_goto (tgt := 24) C dL_inspect_17 (by decide) ?_
    refine V_iconst (v := nI 0) C dL_inspect_24 (by decide) ?_
    exact V_iret C .int dL_inspect_25 hr rfl ⟨rfl, ⟨fun _ _ _ => rfl, rfl⟩, _, _, _, by rw [PW_o2, show ((nI (metW (cH σ j) (cS σ q) (hDm (cH σ j)) (hDu (cH σ j))))).toInt64 = 1 from by rw [show (metW (cH σ j) (cS σ q) (hDm (cH σ j)) (hDu (cH σ j))) = 1 by omega]; rfl]⟩ (by omega) (by omega)
set_option maxHeartbeats 4000000 in
theorem w_inspect_no {l : Launch} {D : va_G} {ba d : Nat} {ad : Adr} (hl : l.stackTraces = false) (hd : 9 ≤ d) {σ : CS} {tl : Int32} {t : TT} {lo : Nat → Int32} {o : Wd} (hσ : cOK σ) {f0 : Nat → Int64} (ho2 : o [2] = some (eJ 1 f0)) {x : Int32} (hx : ∀ j, j < cN σ → x ≠ nI j) (y : Int32)  : CT l yL_inspect (wsH yL_inspect cL_inspect 5 (some .int) [(0, 17, 20, 21)]) d 8 64 D ba [.ref (ad [0]), .int x, .int y, .ref (ad [2])] ad (PW 0 ad σ tl t lo o) (WR ad σ o 1) noX := by
  refine CT_ofH RL rfl (by decide +kernel) hl (Nat.le_of_ble_eq_true rfl) ?_
  intro p e s m args below meth c C hr hnm
  refine V_lvE (lv' := [(0, .ref (ad [0])), (1, .int x), (2, .int y), (3, .ref (ad [2]))]) rfl ?_
  have hσ1 := hσ.1
  have hσ2 := hσ.2.1
  refine V_aload_n C dL_inspect_0 3 rfl ?_
  refine V_iconst (v := nI 0) C dL_inspect_1 (by decide) ?_
  refine V_aload_n C dL_inspect_2 0 rfl ?_
  refine V_iload_n C dL_inspect_3 1 rfl ?_
  refine V_iload_n C dL_inspect_4 2 rfl ?_
  refine V_callV (r := (RX6, TX6, 8)) C [.int x, .int y] dL_inspect_5 m_X6_inspect k_X6_inspect tw_463 rfl rfl rfl PW_b rfl rfl (Nat.le_of_ble_eq_true rfl) ⟨by omega, by omega, by omega, by omega⟩ (p_inspect_no hl (by omega) hσ hx y) kr_no (kx_XP (fun tl t lo => VX_catch C "java/lang/IndexOutOfBoundsException" [] ⟨0, 17, 20, 21⟩ [] rfl (fun z hz => absurd hz (by simp)) rfl (by decide) tw_346 (by decide +kernel) (fun a9 => ?_)))
  refine V_astore C [(4, .ref a9), (0, .ref (ad [0])), (1, .int x), (2, .int y), (3, .ref (ad [2]))] dL_inspect_20 (by decide) rfl ?_
  refine V_iconst (v := nI 1) C dL_inspect_22 (by decide) ?_
  exact V_iret C .int dL_inspect_23 hr rfl ⟨rfl, ⟨fun _ _ _ => rfl, rfl⟩, _, _, _, rfl⟩ (by omega) (by omega)
set_option maxHeartbeats 4000000 in
theorem w_inspect_no2 {l : Launch} {D : va_G} {ba d : Nat} {ad : Adr} (hl : l.stackTraces = false) (hd : 9 ≤ d) {σ : CS} {tl : Int32} {t : TT} {lo : Nat → Int32} {o : Wd} (hσ : cOK σ) {f0 : Nat → Int64} (ho2 : o [2] = some (eJ 1 f0)) {j : Nat} (hj : j < cN σ) {x2 : Int32} (hx2 : ∀ j, j < cK σ → x2 ≠ nI j)  : CT l yL_inspect (wsH yL_inspect cL_inspect 5 (some .int) [(0, 17, 20, 21)]) d 8 64 D ba [.ref (ad [0]), .int (nI j), .int x2, .ref (ad [2])] ad (PW 0 ad σ tl t lo o) (WR ad σ o 1) noX := by
  refine CT_ofH RL rfl (by decide +kernel) hl (Nat.le_of_ble_eq_true rfl) ?_
  intro p e s m args below meth c C hr hnm
  refine V_lvE (lv' := [(0, .ref (ad [0])), (1, .int (nI j)), (2, .int x2), (3, .ref (ad [2]))]) rfl ?_
  have hσ1 := hσ.1
  have hσ2 := hσ.2.1
  refine V_aload_n C dL_inspect_0 3 rfl ?_
  refine V_iconst (v := nI 0) C dL_inspect_1 (by decide) ?_
  refine V_aload_n C dL_inspect_2 0 rfl ?_
  refine V_iload_n C dL_inspect_3 1 rfl ?_
  refine V_iload_n C dL_inspect_4 2 rfl ?_
  refine V_callV (r := (RX6, TX6, 8)) C [.int (nI j), .int x2] dL_inspect_5 m_X6_inspect k_X6_inspect tw_463 rfl rfl rfl PW_b rfl rfl (Nat.le_of_ble_eq_true rfl) ⟨by omega, by omega, by omega, by omega⟩ (p_inspect_no2 hl (by omega) hσ hj hx2) kr_no (kx_XP (fun tl t lo => VX_catch C "java/lang/IndexOutOfBoundsException" [] ⟨0, 17, 20, 21⟩ [] rfl (fun z hz => absurd hz (by simp)) rfl (by decide) tw_346 (by decide +kernel) (fun a9 => ?_)))
  refine V_astore C [(4, .ref a9), (0, .ref (ad [0])), (1, .int (nI j)), (2, .int x2), (3, .ref (ad [2]))] dL_inspect_20 (by decide) rfl ?_
  refine V_iconst (v := nI 1) C dL_inspect_22 (by decide) ?_
  exact V_iret C .int dL_inspect_23 hr rfl ⟨rfl, ⟨fun _ _ _ => rfl, rfl⟩, _, _, _, rfl⟩ (by omega) (by omega)
