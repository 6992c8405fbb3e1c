
theorem SW_new {i : Nat} {ad : Adr} {o : Wd} {q1 q2 : Nat} {E0 E1 : Ent} : wset (wset (wset (wset (wset (put i (fun _ => none) o) [i] E0) [i, 1] (eQ RX7 0 (fun _ => none))) [i] E1) [i, 2] (eA 0 (fun _ => none))) [i] (.inr (7, [.int 0, .int 0, .ref q1, .ref q2])) = SW i (aset (aset ad [i, 1] q1) [i, 2] q2) cs0 o := by
  simp only [put_wset]
  congr 1
  funext L
  rcases L with _ | ⟨c, _ | ⟨j, _ | ⟨k, _ | ⟨x, y⟩⟩⟩⟩
  · simp [wset, SC, aset]
  · by_cases h1 : c = 1
    · subst h1; simp [wset, SC, aset]; funext j; simp [adN]; exact Nat.zero_le _
    by_cases h2 : c = 2
    · subst h2; simp [wset, SC, aset]; funext j; simp [adN]; exact Nat.zero_le _
    simp [wset, SC, h1, h2]
  · simp [wset, SC, show ∀ j, ¬ j < cN cs0 from fun j => Nat.not_lt_zero j, show ∀ j, ¬ j < cK cs0 from fun j => Nat.not_lt_zero j]
  · have h9 : ¬ (j < cN cs0 ∧ k < hSc (cH cs0 j)) := fun z => absurd z.1 (Nat.not_lt_zero j)
    simp only [wset, SC, if_neg h9]; simp
  · simp [wset, SC]
set_option maxHeartbeats 4000000 in
theorem s_sInit {l : Launch} {D : va_G} {ba d : Nat} {ad : Adr} (hl : l.stackTraces = false) (hd : 1 ≤ d) {i : Nat} {o : Wd} : CT l yX8_init (wsO yX8_init cX8_init 1 none) d 2 0 D ba [.ref (ad [i])] ad (wset (put i (fun _ => none) o) [i] (.inr (7, [.int 0, .int 0, .null, .null]))) (fun v ad' w' => v = none ∧ keeps i ad ad' ∧ w' = SW i ad' cs0 o) noX := by
  refine CT_of RX8 rfl (by decide +kernel) hl (Nat.le_of_ble_eq_true rfl) ?_
  intro p e s m args below meth c C hr hnm
  refine V_lvE (lv' := [(0, .ref (ad [i]))]) rfl ?_
  refine V_aload_n C dX8_init_0 0 rfl ?_
  refine V_obj C dX8_init_1 tw_642 tw_23 tw_24 (by omega) (by simp [Value.category]; try omega) ?_
  refine V_aload_n C dX8_init_4 0 rfl ?_
  refine V_iconst (v := nI 0) C dX8_init_5 (by decide) ?_
  refine V_newQn (N := 0) C [i, 1] RX7 dX8_init_6 tw_643 tw_520 (by decide) ((wset_n (by simp)).trans put_s) (by omega) (by omega) (fun q1 => ?_)
  refine V_put (ci := 7) (k := 2) C dX8_init_9 RX8 RX8 TX8 4 tyX8 tyX8_ok nmX8 fw_X8 rfl (by decide) tw_647 rfl (Or.inl rfl) rfl rfl (aset_n (by simp)).symm ((wset_n (by simp)).trans wset_s) (Nat.le_of_ble_eq_true rfl) ?_
  refine V_wd (w' := wset (wset (wset (put i (fun _ => none) o) [i] (.inr (7, [.int 0, .int 0, .null, .null]))) [i, 1] (eQ RX7 0 (fun _ => none))) ([i]) (.inr (7, [.int 0, .int 0, .ref q1, .null]))) rfl ?_
  refine V_aload_n C dX8_init_12 0 rfl ?_
  refine V_iconst (v := nI 0) C dX8_init_13 (by decide) ?_
  refine V_newA (N := 0) C [i, 2] dX8_init_14 tw_555 (by decide) ((wset_n (by simp)).trans ((wset_n (by simp)).trans ((wset_n (by simp)).trans put_s))) (by omega) (by omega) (fun q2 => ?_)
  refine V_put (ci := 7) (k := 3) C dX8_init_17 RX8 RX8 TX8 4 tyX8 tyX8_ok nmX8 fw_X8 rfl (by decide) tw_649 rfl (Or.inl rfl) rfl rfl ((aset_n (by simp)).symm.trans (aset_n (by simp)).symm) ((wset_n (by simp)).trans wset_s) (Nat.le_of_ble_eq_true rfl) ?_
  refine V_wd (w' := wset (wset (wset (wset (wset (put i (fun _ => none) o) [i] (.inr (7, [.int 0, .int 0, .null, .null]))) [i, 1] (eQ RX7 0 (fun _ => none))) ([i]) (.inr (7, [.int 0, .int 0, .ref q1, .null]))) [i, 2] (eA 0 (fun _ => none))) ([i]) (.inr (7, [.int 0, .int 0, .ref q1, .ref q2]))) rfl ?_
  exact V_vret C dX8_init_20 hr ⟨rfl, ⟨fun k r hk => by simp [aset, hk], by simp [aset]⟩, SW_new⟩ (by omega) (by omega)
section KX
variable {p : Program} {l : Launch} {e : Env} {s : State} {m : MethodId} {args : Array Value} {below : List Frame} {meth : Method} {c : Code} {D : va_G} {ba d mc ms nL npc cells slots : Nat} {ad : Adr} {w : Wd} {Q : State → Prop} {lv : List (Nat × Value)} {rest : List Value}
theorem kr_ex (k : ∀ x : Int32, V p l e s m args below meth c D ba d mc ms Q nL ad w npc lv (.int x :: rest) cells slots) : ∀ (v : Option Value) (ad' : Adr) (w' : Wd), (∃ x, v = some (.int x) ∧ ad' = ad ∧ w' = w) → V p l e s m args below meth c D ba d mc ms Q nL ad' w' npc lv (v.toList ++ rest) cells slots := by
  rintro v ad' w' ⟨x, rfl, h1, h2⟩
  rw [h1, h2]
  exact k x
end KX
set_option maxRecDepth 20000 in
set_option maxHeartbeats 4000000 in
theorem lp_build {p : Program} {l : Launch} {e : Env} {s : State} {m : MethodId} {args : Array Value} {below : List Frame} {meth : Method} {c : Code} {D : va_G} {ba d mc ms : Nat} {ad : Adr} {QR : Option Value → Adr → Wd → Prop} {QX : String → Adr → Wd → Prop} (C : Cx p l s m args meth c D ba RL cL_build 5 [] d) (hl : l.stackTraces = false) (hr : meth.sig.returnType = (some (.object "EchoBureauLaw$Sim"))) (hd : 11 ≤ d) {a0 nn : Nat} (hn1 : 1 ≤ nn) (hn2 : nn ≤ 59) (hq : ∀ ad' σ tl t lo, ad' [0] = a0 → IV σ → 1 ≤ cN σ → QR (some (.ref (ad' [2]))) ad' (LW ad' σ σ tl t lo)) : ∀ (n : Nat) (k : Nat) (aq : Adr) (σ : CS) (tl : Int32) (t : TT) (lo : Nat → Int32) (cz sz : Nat), k + n = nn → cOK σ → cI σ → (k = 0 ∨ 1 ≤ cN σ) → some (aq [0]) = some a0 → cz + 40 * n ≤ mc → sz + 300 * n ≤ ms → V p l e s m args below meth c D ba d mc ms (MO D ba QR QX below args s mc ms) 5 aq (LW aq σ σ tl t lo) 25 [(4, .int (nI k)), (3, .int (nI nn)), (2, .ref (aq [2])), (0, .ref (aq [0])), (1, .ref (D.2 99 0))] [] cz sz := by
  intro n
  induction n with
  | zero =>
    intro k aq σ tl t lo cz sz hk hσ hI0 hn0 ha0 hcz hsz
    refine V_iload C dL_build_25 0 rfl ?_
    refine V_iload_n C dL_build_27 1 rfl ?_
    refine V_icmpn_ge (tgt := 71) C dL_build_28 (by decide) (by omega) (by omega) (fun hb1 => ?_) (fun hb1 => by exfalso; omega)
    refine V_aload_n C dL_build_71 2 rfl ?_
    exact V_aret C "EchoBureauLaw$Sim" dL_build_72 hr (hq aq σ tl t lo (Option.some.inj ha0) ⟨hσ, hI0⟩ (by omega)) (by omega) (by omega)
  | succ n ih =>
    intro k aq σ tl t lo cz sz hk hσ hI0 hn0 ha0 hcz hsz
    rw [show 300 * (n + 1) = 300 * n + 300 from Nat.mul_succ 300 n] at hsz
    rw [show 40 * (n + 1) = 40 * n + 40 from Nat.mul_succ 40 n] at hcz
    refine V_iload C dL_build_25 0 rfl ?_
    refine V_iload_n C dL_build_27 1 rfl ?_
    refine V_icmpn_ge (tgt := 71) C dL_build_28 (by decide) (by omega) (by omega) (fun hb1 => by exfalso; omega) (fun hb1 => ?_)
    refine V_aload_n C dL_build_31 3 rfl ?_
    refine V_aload_n C dL_build_32 2 rfl ?_
    refine V_aload_n C dL_build_33 4 rfl ?_
    refine V_iload C dL_build_34 0 rfl ?_
    refine V_bipush (v := nI 16) C dL_build_36 (by decide) ?_
    refine V_iremn C dL_build_38 (by omega) (by omega) (by omega) ?_
    refine V_callS C [.ref (D.2 99 0), .int (nI (k % 16))] dL_build_39 m_L_cell k_L_cell tw_512 rfl rfl (Nat.le_of_ble_eq_true rfl) ⟨by omega, by omega, by omega, by omega⟩ (s_cell hl (by omega) (by omega)) (kr_ex (fun x39 => ?_)) kx_no
    refine V_iload C dL_build_42 0 rfl ?_
    refine V_bipush (v := nI 16) C dL_build_44 (by decide) ?_
    refine V_idivn C dL_build_46 (by omega) (by omega) (by omega) ?_
    refine V_iconst (v := nI 3) C dL_build_47 (by decide) ?_
    refine V_imuln C dL_build_48 ?_
    refine V_ishrn C dL_build_49 ?_
    refine V_sipush (v := nI 521) C dL_build_50 (by decide) ?_
    refine V_iload C dL_build_53 0 rfl ?_
    refine V_imuln C dL_build_55 ?_
    refine V_iadd C dL_build_56 ?_
    refine V_callS C [.ref (aq [0]), .ref (aq [2]), .int ((sh x39 ((k / 16) * 3)) + (nI (521 * k)))] dL_build_57 m_L_act k_L_act tw_516 rfl rfl (Nat.le_of_ble_eq_true rfl) ⟨by omega, by omega, by omega, by omega⟩ (s_act (σ := σ) hl (by omega) hσ hI0 ((sh x39 ((k / 16) * 3)) + (nI (521 * k)))) ?_ kx_no
    rintro v2 ad2 w2 ⟨rfl, hk2, σ2, tl2, t2, lo2, ⟨hIV, hn2⟩, rfl⟩
    refine V_lvE (lv' := [(4, .int (nI k)), (3, .int (nI nn)), (2, .ref (ad2 [2])), (0, .ref (ad2 [0])), (1, .ref (D.2 99 0))]) (by rw [hk2.1, hk2.2]) ?_
    refine V_stE (st' := [.int (nI 1)]) rfl ?_
    refine V_ifn_ne (tgt := 65) C dL_build_60 (by decide) (by decide) (fun hb2 => ?_) (fun hb2 => by exfalso; omega)
    refine V_iincn C [(4, .int (nI (k + 1))), (3, .int (nI nn)), (2, .ref (ad2 [2])), (0, .ref (ad2 [0])), (1, .ref (D.2 99 0))] dL_build_65 0 rfl (by decide) rfl ?_
    refine V_goto (tgt := 25) C dL_build_68 (by decide) ?_
    refine V_lv [0, 1, 2, 3, 4] rfl ?_
    exact ih (k + 1) ad2 σ2 tl2 t2 lo2 _ _ (by omega) hIV.1 hIV.2 (Or.inr hn2) (congrArg some (hk2.1.trans (Option.some.inj ha0))) (by omega) (by omega)
theorem put0_id {i : Nat} {o : Wd} (h : ∀ r, o (i :: r) = none) : put i (fun _ => none) o = o := by
  funext L
  rcases L with _ | ⟨j, r⟩
  · rfl
  · show (if j = i then none else o (j :: r)) = o (j :: r)
    by_cases hj : j = i
    · subst hj; rw [if_pos rfl, h r]
    · rw [if_neg hj]
set_option maxHeartbeats 4000000 in
theorem s_build {l : Launch} {D : va_G} {ba d : Nat} {ad : Adr} (hl : l.stackTraces = false) (hd : 11 ≤ d) {tl : Int32} {t : TT} {lo : Nat → Int32} : CT l yL_build (wsO yL_build cL_build 5 (some (.object "EchoBureauLaw$Sim"))) d 2600 20000 D ba [.ref (ad [0]), .ref (D.2 99 0)] ad (PW 0 ad cs0 tl t lo nW) (fun v ad' w' => v = some (.ref (ad' [2])) ∧ ad' [0] = ad [0] ∧ ∃ σ tl t lo, (IV σ ∧ 1 ≤ cN σ) ∧ w' = LW ad' σ σ tl t lo) noX := by
  refine CT_of RL rfl (by decide +kernel) hl (Nat.le_of_ble_eq_true rfl) ?_
  intro p e s m args below meth c C hr hnm
  refine V_lvE (lv' := [(0, .ref (ad [0])), (1, .ref (D.2 99 0))]) rfl ?_
  refine V_new (ci := 7) (fs := [.int 0, .int 0, .null, .null]) C [2] dL_build_0 RX8 TX8 4 tyX8 tyX8_ok fw_X8 rfl tw_637 tw_638 tw_4 (fun j hj => by rcases (show j = 0 ∨ j = 1 ∨ j = 2 ∨ j = 3 by omega) with rfl | rfl | rfl | rfl <;> rfl) rfl (by omega) (by omega) (fun q0 => ?_)
  obtain ⟨ad1, hA1⟩ : ∃ z, z = aset ad [2] q0 := ⟨_, rfl⟩
  rw [← hA1]
  have hq1 : q0 = ad1 [2] := by rw [hA1]; exact aset_s.symm
  refine V_stE (st' := [.ref (ad1 [2])]) (by rw [hq1]) ?_
  refine V_lvE (lv' := [(0, .ref (ad1 [0])), (1, .ref (D.2 99 0))]) (by rw [hA1]; simp [aset]) ?_
  refine V_wd (w' := wset (put 2 (fun _ => none) (PW 0 ad1 cs0 tl t lo nW)) [2] (.inr (7, [.int 0, .int 0, .null, .null]))) (by rw [put0_id (fun _ => rfl), hA1, PW_ad (ad2 := aset ad [2] q0) (ad := ad) (fun r => aset_n (by simp))]) ?_
  refine V_dup C dL_build_3 rfl ?_
  refine V_callIN C RL [] dL_build_4 m_X8_init k_X8_init tw_639 rfl rfl (Nat.le_of_ble_eq_true rfl) ⟨by omega, by omega, by omega, by omega⟩ (s_sInit (i := 2) (o := PW 0 ad1 cs0 tl t lo nW) hl (by omega)) ?_ kx_no
  rintro v2 ad2 w2 ⟨rfl, hK, rfl⟩
  refine V_stE (st' := [.ref (ad2 [2])]) (by rw [hK.2]; rfl) ?_
  refine V_lvE (lv' := [(0, .ref (ad2 [0])), (1, .ref (D.2 99 0))]) (by rw [hK.1 0 [] (by decide)]) ?_
  refine V_wd (w' := LW ad2 cs0 cs0 tl t lo) (by rw [LW_LS, ← PW_ad (ad2 := ad2) (fun r => hK.1 0 r (by decide))]) ?_
  refine V_astore_n C [(2, .ref (ad2 [2])), (0, .ref (ad2 [0])), (1, .ref (D.2 99 0))] dL_build_7 (by decide) rfl ?_
  refine V_bipush (v := nI 20) C dL_build_8 (by decide) ?_
  refine V_aload_n C dL_build_10 2 rfl ?_
  refine V_iconst (v := nI 0) C dL_build_11 (by decide) ?_
  refine V_callS C [.ref (D.2 99 0), .int (nI 0)] dL_build_12 m_L_cell k_L_cell tw_512 rfl rfl (Nat.le_of_ble_eq_true rfl) ⟨by omega, by omega, by omega, by omega⟩ (s_cell hl (by omega) (by omega)) (kr_ex (fun x12 => ?_)) kx_no
  refine V_bipush (v := nI 40) C dL_build_15 (by decide) ?_
  have hbl17 := bl_lt (v := x12) (n := 40) (by omega)
  refine V_callS C [.int x12, .int (nI 40)] dL_build_17 m_L_below k_L_below tw_508 rfl rfl (Nat.le_of_ble_eq_true rfl) ⟨by omega, by omega, by omega, by omega⟩ (s_below hl (by omega) x12 (by omega) (by omega)) (kr_some (x := .int (nI (bl x12 40))) ?_) kx_no
  refine V_iaddn C dL_build_20 ?_
  obtain ⟨nn, hnn⟩ : ∃ z, z = 20 + (bl x12 40) := ⟨_, rfl⟩
  have hn1 : 1 ≤ nn := by omega
  have hn2 : nn ≤ 59 := by omega
  rw [← hnn]
  refine V_istore_n C [(3, .int (nI nn)), (2, .ref (ad2 [2])), (0, .ref (ad2 [0])), (1, .ref (D.2 99 0))] dL_build_21 (by decide) rfl ?_
  refine V_iconst (v := nI 0) C dL_build_22 (by decide) ?_
  refine V_istore C [(4, .int (nI 0)), (3, .int (nI nn)), (2, .ref (ad2 [2])), (0, .ref (ad2 [0])), (1, .ref (D.2 99 0))] dL_build_23 (by decide) rfl ?_
  refine V_lv [0, 1, 2, 3, 4] rfl ?_
  exact lp_build (ad := ad) (a0 := ad [0]) C hl hr (by omega) hn1 hn2 (fun ad' σ tl t lo h0 hI hn => ⟨rfl, h0, σ, tl, t, lo, ⟨hI, hn⟩, rfl⟩) nn 0 ad2 cs0 tl t lo _ _ (by omega) cs0_ok (fun j hj => absurd hj (Nat.not_lt_zero j)) (Or.inl rfl) (congrArg some ((hK.1 0 [] (by decide)).trans (by rw [hA1]; simp [aset]))) (by omega) (by omega)
