
set_option maxHeartbeats 4000000 in
theorem s_below {l : Launch} {D : va_G} {ba d : Nat} {ad : Adr} {w : Wd} (hl : l.stackTraces = false) (hd : 1 ≤ d) (v : Int32) {n : Nat} (h0 : 0 < n) (hn : n < 2 ^ 31) : CT l yL_below (wsO yL_below cL_below 2 (some .int)) d 0 0 D ba [.int v, .int (nI n)] ad w (isR (some (.int (nI (bl v n)))) ad w) noX := by
  refine CT_of RL rfl (by decide +kernel) hl (Nat.le_of_ble_eq_true rfl) ?_
  intro p e s m args below meth c C hr hnm
  refine V_lvE (lv' := [(0, .int v), (1, .int (nI n))]) rfl ?_
  refine V_iload_n C dL_below_0 0 rfl ?_
  refine V_ldc C dL_below_1 tk_7 ?_
  refine V_iand C dL_below_3 ?_
  skip
  refine V_iload_n C dL_below_4 1 rfl ?_
  refine V_stE (st' := [.int (nI n), .int (nI (v.toBitVec.toNat % 2 ^ 31))]) (by rw [bl_and]) ?_
  refine V_iremn C dL_below_5 (Nat.mod_lt _ (by decide)) h0 hn ?_
  exact V_iret C .int dL_below_6 hr rfl ⟨rfl, rfl, rfl⟩ (by omega) (by omega)
set_option maxHeartbeats 4000000 in
theorem s_cell {l : Launch} {D : va_G} {ba d : Nat} {ad : Adr} {w : Wd} (hl : l.stackTraces = false) (hd : 1 ≤ d) {k : Nat} (hk : k < 2 ^ 30) : CT l yL_cell (wsO yL_cell cL_cell 2 (some .int)) d 0 0 D ba [.ref (D.2 99 0), .int (nI k)] ad w (fun v ad' w' => ∃ x, v = some (.int x) ∧ ad' = ad ∧ w' = w) noX := by
  refine CT_of RL rfl (by decide +kernel) hl (Nat.le_of_ble_eq_true rfl) ?_
  intro p e s m args below meth c C hr hnm
  refine V_lvE (lv' := [(0, .ref (D.2 99 0)), (1, .int (nI k))]) rfl ?_
  obtain ⟨L, xs, hb9, hs9, hL9, hX9⟩ := C.2.2.2.2.2.1.2.2.2.2.2.2.2.2
  refine V_iload_n C dL_cell_0 1 rfl ?_
  refine V_aload_n C dL_cell_1 0 rfl ?_
  refine V_slen C hX9 hb9 dL_cell_2 ?_
  refine V_stE (st' := [.int (nI L), .int (nI k)]) rfl ?_
  refine V_icmpn_ge (tgt := 12) C dL_cell_3 (by decide) (by omega) (by omega) (fun hb1 => ?_) (fun hb1 => ?_)
  · skip
    refine V_ldc C dL_cell_12 tk_8 ?_
    refine V_iload_n C dL_cell_14 1 rfl ?_
    refine V_iconst (v := nI 3) C dL_cell_15 (by decide) ?_
    refine V_iaddn C dL_cell_16 ?_
    refine V_imul C dL_cell_17 ?_
    exact V_iret C .int dL_cell_18 hr rfl ⟨_, rfl, rfl, rfl⟩ (by omega) (by omega)
  · skip
    refine V_aload_n C dL_cell_6 0 rfl ?_
    refine V_iload_n C dL_cell_7 1 rfl ?_
    refine V_sldx C hX9 hb9 (by omega) (by omega) dL_cell_8 ?_
    refine V_goto (tgt := 18) C dL_cell_9 (by decide) ?_
    exact V_iret C .int dL_cell_18 hr rfl ⟨_, rfl, rfl, rfl⟩ (by omega) (by omega)
set_option maxHeartbeats 4000000 in
theorem s_hard {l : Launch} {D : va_G} {ba d : Nat} {ad : Adr} {w : Wd} (hl : l.stackTraces = false) (hd : 1 ≤ d) {k hb : Nat} {LH LS LU : Lab} {dm du0 dy n : Nat} {ce : Int32} {f : Nat → Option Nat} {g : Nat → Int32} (hH : w LH = some (eLH (ad LS) dm du0 ce dy)) (hS : w LS = some (eA n f)) (hk : k < n) (hn : n ≤ 6) (hf : f k = some (ad LU)) (hU : w LU = some (eI 2 g)) (hg : g 1 = nI hb) (hhb : hb ≤ 99) {du : Nat} (hdu : du ≤ 100) : CT l yX7_hard (wsO yX7_hard cX7_hard 3 (some .int)) d 0 0 D ba [.ref (ad LH), .int (nI k), .int (nI du)] ad w (isR (some (.int (nI (hb - du / 5)))) ad w) noX := by
  refine CT_of RX7 rfl (by decide +kernel) hl (Nat.le_of_ble_eq_true rfl) ?_
  intro p e s m args below meth c C hr hnm
  refine V_lvE (lv' := [(0, .ref (ad LH)), (1, .int (nI k)), (2, .int (nI du))]) rfl ?_
  refine V_aload_n C dX7_hard_0 0 rfl ?_
  refine V_get (ci := 6) (k := 0) C dX7_hard_1 RX7 RX7 TX7 5 fw_X7 rfl (by decide) tw_528 rfl rfl hH rfl ?_
  refine V_iload_n C dX7_hard_4 1 rfl ?_
  refine V_aaldA (v := .ref (ad LU)) C dX7_hard_5 rfl hS (by omega) (by omega) (by rw [hf]; rfl) ?_
  refine V_iconst (v := nI 1) C dX7_hard_6 (by decide) ?_
  refine V_ialdn (v := (nI hb)) C dX7_hard_7 rfl hU (by decide) (by decide) hg ?_
  refine V_iload_n C dX7_hard_8 2 rfl ?_
  refine V_iconst (v := nI 5) C dX7_hard_9 (by decide) ?_
  refine V_idivn C dX7_hard_10 (by omega) (by omega) (by omega) ?_
  refine V_isub C dX7_hard_11 ?_
  refine V_iconst (v := nI 0) C dX7_hard_12 (by decide) ?_
  refine V_max C dX7_hard_13 tw_488 tw_300 tw_15 tw_301 (by omega) (by simp [Value.category]; try omega) (by omega) (by omega) ?_
  rw [show (if (nI hb - nI (du / 5)) < (nI 0) then (nI 0) else (nI hb - nI (du / 5))) = (nI (hb - du / 5)) from nI_sub0' (by omega) (by omega)]
  exact V_iret C .int dX7_hard_16 hr rfl ⟨rfl, rfl, rfl⟩ (by omega) (by omega)
set_option maxHeartbeats 4000000 in
theorem s_strike {l : Launch} {D : va_G} {ba d : Nat} {ad : Adr} (hl : l.stackTraces = false) (hd : 1 ≤ d) {i : Nat} {σ : CS} {o : Wd} (hσ : cOK σ) {j : Nat} (hj : j < cN σ)  : CT l yX7_strike (wsO yX7_strike cX7_strike 1 none) d 0 0 D ba [.ref (ad [i, 3, j])] ad (SW i ad σ o) (isR none ad (SW i ad (setH σ j (hSc (cH σ j), hDm (cH σ j), hDu (cH σ j), -1, 0, hSu (cH σ j))) o)) noX := by
  refine CT_of RX7 rfl (by decide +kernel) hl (Nat.le_of_ble_eq_true rfl) ?_
  intro p e s m args below meth c C hr hnm
  refine V_lvE (lv' := [(0, .ref (ad [i, 3, j]))]) rfl ?_
  refine V_aload_n C dX7_strike_0 0 rfl ?_
  refine V_iconst (v := -1) C dX7_strike_1 (by decide) ?_
  refine V_put (ci := 6) (k := 3) C dX7_strike_2 RX7 RX7 TX7 5 tyX7 tyX7_ok nmX7 fw_X7 rfl (by decide) tw_535 rfl (Or.inl rfl) rfl rfl rfl (SW_h hj) (Nat.le_of_ble_eq_true rfl) ?_
  refine V_wd (w' := wset (SW i ad σ o) ([i, 3, j]) (.inr (6, [.ref (ad [i, 5, j]), .int (nI (hDm (cH σ j))), .int (nI (hDu (cH σ j))), .int (-1), .int (nI (hDy (cH σ j)))]))) rfl ?_
  refine V_aload_n C dX7_strike_5 0 rfl ?_
  refine V_iconst (v := nI 0) C dX7_strike_6 (by decide) ?_
  refine V_put (ci := 6) (k := 4) C dX7_strike_7 RX7 RX7 TX7 5 tyX7 tyX7_ok nmX7 fw_X7 rfl (by decide) tw_540 rfl (Or.inl rfl) rfl rfl rfl wset_s (Nat.le_of_ble_eq_true rfl) ?_
  refine V_wd (w' := wset (SW i ad σ o) ([i, 3, j]) (.inr (6, [.ref (ad [i, 5, j]), .int (nI (hDm (cH σ j))), .int (nI (hDu (cH σ j))), .int (-1), .int (nI 0)]))) wset_wset ?_
  refine V_wd (w' := SW i ad (setH σ j (hSc (cH σ j), hDm (cH σ j), hDu (cH σ j), -1, 0, hSu (cH σ j))) o) (SW_h' hj) ?_
  exact V_vret C dX7_strike_10 hr ⟨rfl, rfl, rfl⟩ (by omega) (by omega)
theorem rowE_nil {hd dm ds n k l : Nat} (h : nx hd dm l = 0 ∨ 3000 < k * 6 * ds) : rowE hd dm ds (n + 1) k l = [] := by
  rw [rowE]
  by_cases h0 : nx hd dm l = 0
  · rw [if_pos h0]
  · rw [if_neg h0]
    rcases h with h | h
    · exact absurd h h0
    · rw [if_neg (by omega)]
theorem rowE_cons {hd dm ds n k l : Nat} (h : ¬ nx hd dm l = 0) (h2 : k * 6 * ds ≤ 3000) : rowE hd dm ds (n + 1) k l = (k * 6 * ds, nx hd dm l) :: rowE hd dm ds n (k + 1) (nx hd dm l) := by
  rw [rowE, if_neg h, if_pos h2]
theorem tG_fold {th : Int32} : ∀ (E : List (Nat × Nat)) {t : TT}, (∀ q ∈ E, q.1 < 2 ^ 31) → tG t → tG (List.foldl (hearT th) t E)
  | [], _, _, h => h
  | q :: E, t, hE, h => tG_fold E (fun q hq => hE q (List.mem_cons_of_mem _ hq)) (tG_hear h (hE q List.mem_cons_self))
theorem rowE_mo {hd dm ds : Nat} : ∀ n k l, ∀ q ∈ rowE hd dm ds n k l, q.1 ≤ 3000
  | 0, _, _, q, hq => by cases hq
  | n + 1, k, l, q, hq => by
    rw [rowE] at hq
    by_cases h0 : nx hd dm l = 0
    · rw [if_pos h0] at hq; cases hq
    · rw [if_neg h0] at hq
      by_cases h3 : k * 6 * ds ≤ 3000
      · rw [if_pos h3] at hq
        rcases List.mem_cons.mp hq with rfl | hq
        · exact h3
        · exact rowE_mo n (k + 1) (nx hd dm l) q hq
      · rw [if_neg h3] at hq; cases hq
theorem tG_rows {th : Int32} {dm du click : Nat} {su : Nat → Nat × Nat} : ∀ m, tG (upF (rowsT th dm du click su) m t00)
  | 0 => Or.inl rfl
  | m + 1 => tG_fold _ (fun q hq => Nat.lt_of_le_of_lt (rowE_mo _ _ _ q hq) (by decide)) (tG_rows m)
set_option maxHeartbeats 4000000 in
theorem lp_se2 {p : Program} {l : Launch} {e : Env} {s : State} {m : MethodId} {args : Array Value} {below : List Frame} {meth : Method} {c : Code} {D : va_G} {ba d mc ms : Nat} {ad : Adr} {cells slots : Nat} {Q : State → Prop} (C : Cx p l s m args meth c D ba RX7 cX7_echoes 9 [] d) (hl : l.stackTraces = false) (hr : meth.sig.returnType = (some (.array .int))) (hd : 2 ≤ d) {i : Nat} {σ : CS} {o : Wd} (hσ : cOK σ) {j : Nat} (hj : j < cN σ) {click dm du : Nat} (hdm : dm ≤ 90) (hdu : du ≤ 100) (hcl : click ≤ 1000) (th : Int32) {u : Nat} (hcm : cells ≤ mc) (hsm : slots ≤ ms) (hk0 : u < hSc (cH σ j)) {hd0 ds0 : Nat} (hhd : (hSu (cH σ j) u).1 - du / 5 = hd0) (hds0 : (hSu (cH σ j) u).2 = ds0) : ∀ (n : Nat) (k l1 : Nat) (t : TT), k + n = 501 → 1 ≤ k → l1 ≤ 1000 → tG t → V p l e s m args below meth c D ba d mc ms Q 9 ad (wset (SW i ad σ o) [i, 9] (eI 4 (tF (List.foldl (hearT th) t (rowE hd0 dm ds0 n k l1))))) 179 [(6, .int (nI u)), (5, .ref (ad [i, 9])), (0, .ref (ad [i, 3, j])), (1, .int (nI click)), (2, .int th), (3, .int (nI dm)), (4, .int (nI du))] [] cells slots → V p l e s m args below meth c D ba d mc ms Q 9 ad (wset (SW i ad σ o) [i, 9] (eI 4 (tF t))) 51 [(8, .int (nI (k * 6 * ds0))), (7, .int (nI l1)), (6, .int (nI u)), (5, .ref (ad [i, 9])), (0, .ref (ad [i, 3, j])), (1, .int (nI click)), (2, .int th), (3, .int (nI dm)), (4, .int (nI du))] [] cells slots := by
  intro n
  induction n with
  | zero =>
    intro k l1 t hk hk1 hl1 hg K
    have hu := hσ.2.2.1 j hj
    have hu1 := hu.1
    have hu2 := hu.2.1
    have hu3 := hu.2.2.1
    have hu4 := hu.2.2.2.1
    have hσ1 := hσ.1
    have hσ2 := hσ.2.1
    have hs9 := hu.2.2.2.2 u hk0
    have hd9 : hd0 ≤ 99 := by omega
    have hds1 : 1 ≤ ds0 := by omega
    have hds2 : ds0 ≤ 60 := by omega
    have hmul : k * 6 * ds0 = 501 * 6 * ds0 := by rw [show k = 501 by omega]
    refine V_iload C dX7_echoes_51 0 rfl ?_
    refine V_sipush (v := nI 3000) C dX7_echoes_53 (by decide) ?_
    refine V_icmpn_gt (tgt := 179) C dX7_echoes_56 (by decide) (by omega) (by decide) (fun hb1 => ?_) (fun hb1 => by exfalso; omega)
    refine V_lv [2, 3, 4, 5, 6, 7, 8] rfl ?_
    exact K
  | succ n ih =>
    intro k l1 t hk hk1 hl1 hg K
    have hu := hσ.2.2.1 j hj
    have hu1 := hu.1
    have hu2 := hu.2.1
    have hu3 := hu.2.2.1
    have hu4 := hu.2.2.2.1
    have hσ1 := hσ.1
    have hσ2 := hσ.2.1
    have hs9 := hu.2.2.2.2 u hk0
    have hd9 : hd0 ≤ 99 := by omega
    have hds1 : 1 ≤ ds0 := by omega
    have hds2 : ds0 ≤ 60 := by omega
    have hmul : k * 6 * ds0 ≤ 3000 * 60 := Nat.mul_le_mul (by omega) hds2
    have hnx := nx_b (dm := dm) hd9 hl1
    refine V_iload C dX7_echoes_51 0 rfl ?_
    refine V_sipush (v := nI 3000) C dX7_echoes_53 (by decide) ?_
    refine V_icmpn_gt (tgt := 179) C dX7_echoes_56 (by decide) (by omega) (by decide) (fun hb1 => ?_) (fun hb1 => ?_)
    · skip
      refine V_lv [2, 3, 4, 5, 6, 7, 8] rfl ?_
      exact (by rw [rowE_nil (Or.inr (by omega))] at K; exact K)
    · skip
      refine V_iload C dX7_echoes_59 1 rfl ?_
      refine V_aload_n C dX7_echoes_61 4 rfl ?_
      refine V_iload C dX7_echoes_62 2 rfl ?_
      refine V_iload C dX7_echoes_64 8 rfl ?_
      refine V_callV (r := (RX7, TX7, 5)) C [.int (nI u), .int (nI du)] dX7_echoes_66 m_X7_hard k_X7_hard tw_493 rfl rfl rfl ((wset_n (by simp)).trans (SW_h hj)) rfl rfl (Nat.le_of_ble_eq_true rfl) ⟨by omega, by omega, by omega, by omega⟩ (s_hard hl (by omega) (LU := [i, 6, j, u]) ((wset_n (by simp)).trans (SW_h hj)) ((wset_n (by simp)).trans (SW_s hj)) hk0 hu1 (by rw [adN_lt hk0]) ((wset_n (by simp)).trans (SW_u hj hk0)) rfl (by have := (hu.2.2.2.2 u hk0).1; omega) hdu) (kr_some (x := .int (nI ((hSu (cH σ j) u).1 - du / 5))) ?_) kx_no
      refine V_stE (st' := [.int (nI hd0), .int (nI l1)]) (by rw [hhd]) ?_
      refine V_imuln C dX7_echoes_69 ?_
      refine V_bipush (v := nI 100) C dX7_echoes_70 (by decide) ?_
      refine V_idivn C dX7_echoes_72 (by have := nx_b (dm := dm) hd9 hl1; omega) (by decide) (by decide) ?_
      refine V_istore C [(7, .int (nI ((l1 * hd0) / 100))), (8, .int (nI (k * 6 * ds0))), (6, .int (nI u)), (5, .ref (ad [i, 9])), (0, .ref (ad [i, 3, j])), (1, .int (nI click)), (2, .int th), (3, .int (nI dm)), (4, .int (nI du))] dX7_echoes_73 (by decide) rfl ?_
      refine V_iload C dX7_echoes_75 0 rfl ?_
      refine V_bipush (v := nI 100) C dX7_echoes_77 (by decide) ?_
      refine V_iload_n C dX7_echoes_79 7 rfl ?_
      refine V_isubn C dX7_echoes_80 (by omega) ?_
      refine V_imuln C dX7_echoes_81 ?_
      refine V_bipush (v := nI 100) C dX7_echoes_82 (by decide) ?_
      refine V_idivn C dX7_echoes_84 (by have := nx_b (dm := dm) hd9 hl1; omega) (by decide) (by decide) ?_
      rw [show l1 * hd0 / 100 * (100 - dm) / 100 = nx hd0 dm l1 from rfl]
      refine V_istore C [(7, .int (nI (nx hd0 dm l1))), (8, .int (nI (k * 6 * ds0))), (6, .int (nI u)), (5, .ref (ad [i, 9])), (0, .ref (ad [i, 3, j])), (1, .int (nI click)), (2, .int th), (3, .int (nI dm)), (4, .int (nI du))] dX7_echoes_85 (by decide) rfl ?_
      refine V_iload C dX7_echoes_87 0 rfl ?_
      refine V_ifn_ne (tgt := 95) C dX7_echoes_89 (by decide) (by omega) (fun hb2 => ?_) (fun hb2 => ?_)
      · skip
        refine V_aload C dX7_echoes_95 3 rfl ?_
        refine V_iconst (v := nI 0) C dX7_echoes_97 (by decide) ?_
        refine V_dup2 C dX7_echoes_98 rfl rfl ?_
        refine V_ialdn (v := t.1) C dX7_echoes_99 rfl wset_s (by decide) (by decide) rfl ?_
        refine V_iconst (v := nI 1) C dX7_echoes_100 (by decide) ?_
        refine V_iadd C dX7_echoes_101 ?_
        refine V_iastn C dX7_echoes_102 rfl wset_s (by omega) (by decide) ?_
        refine V_wd (w' := wset (SW i ad σ o) ([i, 9]) (eI 4 (upd (tF t) 0 (t.1 + (nI 1))))) wset_wset ?_
        refine V_aload C dX7_echoes_103 3 rfl ?_
        refine V_iconst (v := nI 1) C dX7_echoes_105 (by decide) ?_
        refine V_dup2 C dX7_echoes_106 rfl rfl ?_
        refine V_ialdn (v := t.2.1) C dX7_echoes_107 rfl wset_s (by decide) (by decide) rfl ?_
        refine V_iload C dX7_echoes_108 0 rfl ?_
        refine V_iload_n C dX7_echoes_110 6 rfl ?_
        refine V_icmp_lt (tgt := 118) C dX7_echoes_111 (by decide) (fun hb3 => ?_) (fun hb3 => ?_)
        · skip
          refine V_iconst (v := nI 0) C dX7_echoes_118 (by decide) ?_
          refine V_iadd C dX7_echoes_119 ?_
          refine V_iastn C dX7_echoes_120 rfl wset_s (by omega) (by decide) ?_
          refine V_wd (w' := wset (SW i ad σ o) ([i, 9]) (eI 4 (upd (upd (tF t) 0 (t.1 + (nI 1))) 1 (t.2.1 + (nI 0))))) wset_wset ?_
          refine V_aload C dX7_echoes_121 3 rfl ?_
          refine V_iconst (v := nI 2) C dX7_echoes_123 (by decide) ?_
          refine V_aload C dX7_echoes_124 3 rfl ?_
          refine V_iconst (v := nI 2) C dX7_echoes_126 (by decide) ?_
          refine V_ialdn (v := t.2.2.1) C dX7_echoes_127 rfl wset_s (by decide) (by decide) rfl ?_
          refine V_if_ge (tgt := 136) C dX7_echoes_128 (by decide) (fun hb4 => ?_) (fun hb4 => ?_)
          · skip
            refine V_aload C dX7_echoes_136 3 rfl ?_
            refine V_iconst (v := nI 2) C dX7_echoes_138 (by decide) ?_
            refine V_ialdn (v := t.2.2.1) C dX7_echoes_139 rfl wset_s (by decide) (by decide) rfl ?_
            refine V_iload C dX7_echoes_140 1 rfl ?_
            refine V_min C dX7_echoes_142 tw_494 tw_495 tw_15 tw_496 (by omega) (by simp [Value.category]; try omega) (by omega) (by omega) ?_
            refine V_iastn C dX7_echoes_145 rfl wset_s (by omega) (by decide) ?_
            refine V_wd (w' := wset (SW i ad σ o) ([i, 9]) (eI 4 (upd (upd (upd (tF t) 0 (t.1 + (nI 1))) 1 (t.2.1 + (nI 0))) 2 (if (nI (k * 6 * ds0)) < t.2.2.1 then (nI (k * 6 * ds0)) else t.2.2.1)))) wset_wset ?_
            refine V_aload C dX7_echoes_146 3 rfl ?_
            refine V_iconst (v := nI 3) C dX7_echoes_148 (by decide) ?_
            refine V_aload C dX7_echoes_149 3 rfl ?_
            refine V_iconst (v := nI 3) C dX7_echoes_151 (by decide) ?_
            refine V_ialdn (v := t.2.2.2) C dX7_echoes_152 rfl wset_s (by decide) (by decide) rfl ?_
            refine V_iload C dX7_echoes_153 1 rfl ?_
            refine V_max C dX7_echoes_155 tw_488 tw_300 tw_15 tw_301 (by omega) (by simp [Value.category]; try omega) (by omega) (by omega) ?_
            refine V_iastn C dX7_echoes_158 rfl wset_s (by omega) (by decide) ?_
            refine V_wd (w' := wset (SW i ad σ o) ([i, 9]) (eI 4 (upd (upd (upd (upd (tF t) 0 (t.1 + (nI 1))) 1 (t.2.1 + (nI 0))) 2 (if (nI (k * 6 * ds0)) < t.2.2.1 then (nI (k * 6 * ds0)) else t.2.2.1)) 3 (if t.2.2.2 < (nI (k * 6 * ds0)) then (nI (k * 6 * ds0)) else t.2.2.2)))) wset_wset ?_
            refine V_iload C dX7_echoes_159 1 rfl ?_
            refine V_bipush (v := nI 6) C dX7_echoes_161 (by decide) ?_
            refine V_aload_n C dX7_echoes_163 4 rfl ?_
            refine V_get (ci := 6) (k := 0) C dX7_echoes_164 RX7 RX7 TX7 5 fw_X7 rfl (by decide) tw_528 rfl rfl ((wset_n (by simp)).trans (SW_h hj)) rfl ?_
            refine V_iload C dX7_echoes_167 2 rfl ?_
            refine V_aaldA (v := .ref (ad [i, 6, j, u])) C dX7_echoes_169 rfl ((wset_n (by simp)).trans (SW_s hj)) (by omega) (by omega) (by rw [adN_lt hk0]; rfl) ?_
            refine V_iconst (v := nI 0) C dX7_echoes_170 (by decide) ?_
            refine V_ialdn (v := (nI ds0)) C dX7_echoes_171 rfl ((wset_n (by simp)).trans (SW_u hj hk0)) (by decide) (by decide) (congrArg nI hds0) ?_
            refine V_imuln C dX7_echoes_172 ?_
            refine V_iaddn C dX7_echoes_173 ?_
            refine V_istore C [(8, .int (nI ((k * 6 * ds0) + (6 * ds0)))), (7, .int (nI (nx hd0 dm l1))), (6, .int (nI u)), (5, .ref (ad [i, 9])), (0, .ref (ad [i, 3, j])), (1, .int (nI click)), (2, .int th), (3, .int (nI dm)), (4, .int (nI du))] dX7_echoes_174 (by decide) rfl ?_
            refine V_goto (tgt := 51) C dX7_echoes_176 (by decide) ?_
            refine V_wd (w' := wset (SW i ad σ o) [i, 9] (eI 4 (tF (hearT th t (k * 6 * ds0, nx hd0 dm l1))))) (congrArg (fun f => wset (SW i ad σ o) [i, 9] (eI 4 f)) (tF_up.trans (congrArg tF (Prod.ext rfl (Prod.ext (law_lo0 (x := t.2.1) hb3) (Prod.ext (law_fi (Int32.not_lt.mpr hb4)) law_la)))))) ?_
            rw [show k * 6 * ds0 + 6 * ds0 = (k + 1) * 6 * ds0 from by rw [Nat.add_mul, Nat.add_mul, Nat.one_mul]]
            refine V_lv [0, 1, 2, 3, 4, 5, 6, 7, 8] rfl ?_
            exact ih (k + 1) (nx hd0 dm l1) (hearT th t (k * 6 * ds0, nx hd0 dm l1)) (by omega) (by omega) (by have := nx_b (dm := dm) hd9 hl1; omega) (tG_hear hg (by show k * 6 * ds0 < 2 ^ 31; omega)) (by rw [rowE_cons hb2 hb1] at K; exact K)
          · skip
            refine V_iload C dX7_echoes_131 1 rfl ?_
            refine V_goto (tgt := 145) C dX7_echoes_133 (by decide) ?_
            refine V_iastn C dX7_echoes_145 rfl wset_s (by omega) (by decide) ?_
            refine V_wd (w' := wset (SW i ad σ o) ([i, 9]) (eI 4 (upd (upd (upd (tF t) 0 (t.1 + (nI 1))) 1 (t.2.1 + (nI 0))) 2 (nI (k * 6 * ds0))))) wset_wset ?_
            refine V_aload C dX7_echoes_146 3 rfl ?_
            refine V_iconst (v := nI 3) C dX7_echoes_148 (by decide) ?_
            refine V_aload C dX7_echoes_149 3 rfl ?_
            refine V_iconst (v := nI 3) C dX7_echoes_151 (by decide) ?_
            refine V_ialdn (v := t.2.2.2) C dX7_echoes_152 rfl wset_s (by decide) (by decide) rfl ?_
            refine V_iload C dX7_echoes_153 1 rfl ?_
            refine V_max C dX7_echoes_155 tw_488 tw_300 tw_15 tw_301 (by omega) (by simp [Value.category]; try omega) (by omega) (by omega) ?_
            refine V_iastn C dX7_echoes_158 rfl wset_s (by omega) (by decide) ?_
            refine V_wd (w' := wset (SW i ad σ o) ([i, 9]) (eI 4 (upd (upd (upd (upd (tF t) 0 (t.1 + (nI 1))) 1 (t.2.1 + (nI 0))) 2 (nI (k * 6 * ds0))) 3 (if t.2.2.2 < (nI (k * 6 * ds0)) then (nI (k * 6 * ds0)) else t.2.2.2)))) wset_wset ?_
            refine V_iload C dX7_echoes_159 1 rfl ?_
            refine V_bipush (v := nI 6) C dX7_echoes_161 (by decide) ?_
            refine V_aload_n C dX7_echoes_163 4 rfl ?_
            refine V_get (ci := 6) (k := 0) C dX7_echoes_164 RX7 RX7 TX7 5 fw_X7 rfl (by decide) tw_528 rfl rfl ((wset_n (by simp)).trans (SW_h hj)) rfl ?_
            refine V_iload C dX7_echoes_167 2 rfl ?_
            refine V_aaldA (v := .ref (ad [i, 6, j, u])) C dX7_echoes_169 rfl ((wset_n (by simp)).trans (SW_s hj)) (by omega) (by omega) (by rw [adN_lt hk0]; rfl) ?_
            refine V_iconst (v := nI 0) C dX7_echoes_170 (by decide) ?_
            refine V_ialdn (v := (nI ds0)) C dX7_echoes_171 rfl ((wset_n (by simp)).trans (SW_u hj hk0)) (by decide) (by decide) (congrArg nI hds0) ?_
            refine V_imuln C dX7_echoes_172 ?_
            refine V_iaddn C dX7_echoes_173 ?_
            refine V_istore C [(8, .int (nI ((k * 6 * ds0) + (6 * ds0)))), (7, .int (nI (nx hd0 dm l1))), (6, .int (nI u)), (5, .ref (ad [i, 9])), (0, .ref (ad [i, 3, j])), (1, .int (nI click)), (2, .int th), (3, .int (nI dm)), (4, .int (nI du))] dX7_echoes_174 (by decide) rfl ?_
            refine V_goto (tgt := 51) C dX7_echoes_176 (by decide) ?_
            refine V_wd (w' := wset (SW i ad σ o) [i, 9] (eI 4 (tF (hearT th t (k * 6 * ds0, nx hd0 dm l1))))) (congrArg (fun f => wset (SW i ad σ o) [i, 9] (eI 4 f)) (tF_up.trans (congrArg tF (Prod.ext rfl (Prod.ext (law_lo0 (x := t.2.1) hb3) (Prod.ext (law_fi0 hg (Int32.not_le.mp hb4)) law_la)))))) ?_
            rw [show k * 6 * ds0 + 6 * ds0 = (k + 1) * 6 * ds0 from by rw [Nat.add_mul, Nat.add_mul, Nat.one_mul]]
            refine V_lv [0, 1, 2, 3, 4, 5, 6, 7, 8] rfl ?_
            exact ih (k + 1) (nx hd0 dm l1) (hearT th t (k * 6 * ds0, nx hd0 dm l1)) (by omega) (by omega) (by have := nx_b (dm := dm) hd9 hl1; omega) (tG_hear hg (by show k * 6 * ds0 < 2 ^ 31; omega)) (by rw [rowE_cons hb2 hb1] at K; exact K)
        · skip
          refine V_iconst (v := nI 1) C dX7_echoes_114 (by decide) ?_
          refine V_goto (tgt := 119) C dX7_echoes_115 (by decide) ?_
          refine V_iadd C dX7_echoes_119 ?_
          refine V_iastn C dX7_echoes_120 rfl wset_s (by omega) (by decide) ?_
          refine V_wd (w' := wset (SW i ad σ o) ([i, 9]) (eI 4 (upd (upd (tF t) 0 (t.1 + (nI 1))) 1 (t.2.1 + (nI 1))))) wset_wset ?_
          refine V_aload C dX7_echoes_121 3 rfl ?_
          refine V_iconst (v := nI 2) C dX7_echoes_123 (by decide) ?_
          refine V_aload C dX7_echoes_124 3 rfl ?_
          refine V_iconst (v := nI 2) C dX7_echoes_126 (by decide) ?_
          refine V_ialdn (v := t.2.2.1) C dX7_echoes_127 rfl wset_s (by decide) (by decide) rfl ?_
          refine V_if_ge (tgt := 136) C dX7_echoes_128 (by decide) (fun hb5 => ?_) (fun hb5 => ?_)
          · skip
            refine V_aload C dX7_echoes_136 3 rfl ?_
            refine V_iconst (v := nI 2) C dX7_echoes_138 (by decide) ?_
            refine V_ialdn (v := t.2.2.1) C dX7_echoes_139 rfl wset_s (by decide) (by decide) rfl ?_
            refine V_iload C dX7_echoes_140 1 rfl ?_
            refine V_min C dX7_echoes_142 tw_494 tw_495 tw_15 tw_496 (by omega) (by simp [Value.category]; try omega) (by omega) (by omega) ?_
            refine V_iastn C dX7_echoes_145 rfl wset_s (by omega) (by decide) ?_
            refine V_wd (w' := wset (SW i ad σ o) ([i, 9]) (eI 4 (upd (upd (upd (tF t) 0 (t.1 + (nI 1))) 1 (t.2.1 + (nI 1))) 2 (if (nI (k * 6 * ds0)) < t.2.2.1 then (nI (k * 6 * ds0)) else t.2.2.1)))) wset_wset ?_
            refine V_aload C dX7_echoes_146 3 rfl ?_
            refine V_iconst (v := nI 3) C dX7_echoes_148 (by decide) ?_
            refine V_aload C dX7_echoes_149 3 rfl ?_
            refine V_iconst (v := nI 3) C dX7_echoes_151 (by decide) ?_
            refine V_ialdn (v := t.2.2.2) C dX7_echoes_152 rfl wset_s (by decide) (by decide) rfl ?_
            refine V_iload C dX7_echoes_153 1 rfl ?_
            refine V_max C dX7_echoes_155 tw_488 tw_300 tw_15 tw_301 (by omega) (by simp [Value.category]; try omega) (by omega) (by omega) ?_
            refine V_iastn C dX7_echoes_158 rfl wset_s (by omega) (by decide) ?_
            refine V_wd (w' := wset (SW i ad σ o) ([i, 9]) (eI 4 (upd (upd (upd (upd (tF t) 0 (t.1 + (nI 1))) 1 (t.2.1 + (nI 1))) 2 (if (nI (k * 6 * ds0)) < t.2.2.1 then (nI (k * 6 * ds0)) else t.2.2.1)) 3 (if t.2.2.2 < (nI (k * 6 * ds0)) then (nI (k * 6 * ds0)) else t.2.2.2)))) wset_wset ?_
            refine V_iload C dX7_echoes_159 1 rfl ?_
            refine V_bipush (v := nI 6) C dX7_echoes_161 (by decide) ?_
            refine V_aload_n C dX7_echoes_163 4 rfl ?_
            refine V_get (ci := 6) (k := 0) C dX7_echoes_164 RX7 RX7 TX7 5 fw_X7 rfl (by decide) tw_528 rfl rfl ((wset_n (by simp)).trans (SW_h hj)) rfl ?_
            refine V_iload C dX7_echoes_167 2 rfl ?_
            refine V_aaldA (v := .ref (ad [i, 6, j, u])) C dX7_echoes_169 rfl ((wset_n (by simp)).trans (SW_s hj)) (by omega) (by omega) (by rw [adN_lt hk0]; rfl) ?_
            refine V_iconst (v := nI 0) C dX7_echoes_170 (by decide) ?_
            refine V_ialdn (v := (nI ds0)) C dX7_echoes_171 rfl ((wset_n (by simp)).trans (SW_u hj hk0)) (by decide) (by decide) (congrArg nI hds0) ?_
            refine V_imuln C dX7_echoes_172 ?_
            refine V_iaddn C dX7_echoes_173 ?_
            refine V_istore C [(8, .int (nI ((k * 6 * ds0) + (6 * ds0)))), (7, .int (nI (nx hd0 dm l1))), (6, .int (nI u)), (5, .ref (ad [i, 9])), (0, .ref (ad [i, 3, j])), (1, .int (nI click)), (2, .int th), (3, .int (nI dm)), (4, .int (nI du))] dX7_echoes_174 (by decide) rfl ?_
            refine V_goto (tgt := 51) C dX7_echoes_176 (by decide) ?_
            refine V_wd (w' := wset (SW i ad σ o) [i, 9] (eI 4 (tF (hearT th t (k * 6 * ds0, nx hd0 dm l1))))) (congrArg (fun f => wset (SW i ad σ o) [i, 9] (eI 4 f)) (tF_up.trans (congrArg tF (Prod.ext rfl (Prod.ext (law_lo (x := t.2.1) hb3) (Prod.ext (law_fi (Int32.not_lt.mpr hb5)) law_la)))))) ?_
            rw [show k * 6 * ds0 + 6 * ds0 = (k + 1) * 6 * ds0 from by rw [Nat.add_mul, Nat.add_mul, Nat.one_mul]]
            refine V_lv [0, 1, 2, 3, 4, 5, 6, 7, 8] rfl ?_
            exact ih (k + 1) (nx hd0 dm l1) (hearT th t (k * 6 * ds0, nx hd0 dm l1)) (by omega) (by omega) (by have := nx_b (dm := dm) hd9 hl1; omega) (tG_hear hg (by show k * 6 * ds0 < 2 ^ 31; omega)) (by rw [rowE_cons hb2 hb1] at K; exact K)
          · skip
            refine V_iload C dX7_echoes_131 1 rfl ?_
            refine V_goto (tgt := 145) C dX7_echoes_133 (by decide) ?_
            refine V_iastn C dX7_echoes_145 rfl wset_s (by omega) (by decide) ?_
            refine V_wd (w' := wset (SW i ad σ o) ([i, 9]) (eI 4 (upd (upd (upd (tF t) 0 (t.1 + (nI 1))) 1 (t.2.1 + (nI 1))) 2 (nI (k * 6 * ds0))))) wset_wset ?_
            refine V_aload C dX7_echoes_146 3 rfl ?_
            refine V_iconst (v := nI 3) C dX7_echoes_148 (by decide) ?_
            refine V_aload C dX7_echoes_149 3 rfl ?_
            refine V_iconst (v := nI 3) C dX7_echoes_151 (by decide) ?_
            refine V_ialdn (v := t.2.2.2) C dX7_echoes_152 rfl wset_s (by decide) (by decide) rfl ?_
            refine V_iload C dX7_echoes_153 1 rfl ?_
            refine V_max C dX7_echoes_155 tw_488 tw_300 tw_15 tw_301 (by omega) (by simp [Value.category]; try omega) (by omega) (by omega) ?_
            refine V_iastn C dX7_echoes_158 rfl wset_s (by omega) (by decide) ?_
            refine V_wd (w' := wset (SW i ad σ o) ([i, 9]) (eI 4 (upd (upd (upd (upd (tF t) 0 (t.1 + (nI 1))) 1 (t.2.1 + (nI 1))) 2 (nI (k * 6 * ds0))) 3 (if t.2.2.2 < (nI (k * 6 * ds0)) then (nI (k * 6 * ds0)) else t.2.2.2)))) wset_wset ?_
            refine V_iload C dX7_echoes_159 1 rfl ?_
            refine V_bipush (v := nI 6) C dX7_echoes_161 (by decide) ?_
            refine V_aload_n C dX7_echoes_163 4 rfl ?_
            refine V_get (ci := 6) (k := 0) C dX7_echoes_164 RX7 RX7 TX7 5 fw_X7 rfl (by decide) tw_528 rfl rfl ((wset_n (by simp)).trans (SW_h hj)) rfl ?_
            refine V_iload C dX7_echoes_167 2 rfl ?_
            refine V_aaldA (v := .ref (ad [i, 6, j, u])) C dX7_echoes_169 rfl ((wset_n (by simp)).trans (SW_s hj)) (by omega) (by omega) (by rw [adN_lt hk0]; rfl) ?_
            refine V_iconst (v := nI 0) C dX7_echoes_170 (by decide) ?_
            refine V_ialdn (v := (nI ds0)) C dX7_echoes_171 rfl ((wset_n (by simp)).trans (SW_u hj hk0)) (by decide) (by decide) (congrArg nI hds0) ?_
            refine V_imuln C dX7_echoes_172 ?_
            refine V_iaddn C dX7_echoes_173 ?_
            refine V_istore C [(8, .int (nI ((k * 6 * ds0) + (6 * ds0)))), (7, .int (nI (nx hd0 dm l1))), (6, .int (nI u)), (5, .ref (ad [i, 9])), (0, .ref (ad [i, 3, j])), (1, .int (nI click)), (2, .int th), (3, .int (nI dm)), (4, .int (nI du))] dX7_echoes_174 (by decide) rfl ?_
            refine V_goto (tgt := 51) C dX7_echoes_176 (by decide) ?_
            refine V_wd (w' := wset (SW i ad σ o) [i, 9] (eI 4 (tF (hearT th t (k * 6 * ds0, nx hd0 dm l1))))) (congrArg (fun f => wset (SW i ad σ o) [i, 9] (eI 4 f)) (tF_up.trans (congrArg tF (Prod.ext rfl (Prod.ext (law_lo (x := t.2.1) hb3) (Prod.ext (law_fi0 hg (Int32.not_le.mp hb5)) law_la)))))) ?_
            rw [show k * 6 * ds0 + 6 * ds0 = (k + 1) * 6 * ds0 from by rw [Nat.add_mul, Nat.add_mul, Nat.one_mul]]
            refine V_lv [0, 1, 2, 3, 4, 5, 6, 7, 8] rfl ?_
            exact ih (k + 1) (nx hd0 dm l1) (hearT th t (k * 6 * ds0, nx hd0 dm l1)) (by omega) (by omega) (by have := nx_b (dm := dm) hd9 hl1; omega) (tG_hear hg (by show k * 6 * ds0 < 2 ^ 31; omega)) (by rw [rowE_cons hb2 hb1] at K; exact K)
      · skip
        refine V_goto (tgt := 179) C dX7_echoes_92 (by decide) ?_
        refine V_lv [2, 3, 4, 5, 6, 7, 8] rfl ?_
        exact (by rw [rowE_nil (Or.inl hb2)] at K; exact K)
set_option maxHeartbeats 4000000 in
theorem lp_se1 {p : Program} {l : Launch} {e : Env} {s : State} {m : MethodId} {args : Array Value} {below : List Frame} {meth : Method} {c : Code} {D : va_G} {ba d mc ms : Nat} {ad : Adr} {QR : Option Value → Adr → Wd → Prop} {QX : String → Adr → Wd → Prop} (C : Cx p l s m args meth c D ba RX7 cX7_echoes 9 [] d) (hl : l.stackTraces = false) (hr : meth.sig.returnType = (some (.array .int))) (hd : 3 ≤ d) {i : Nat} {σ : CS} {o : Wd} (hσ : cOK σ) {j : Nat} (hj : j < cN σ) {click dm du : Nat} (hdm : dm ≤ 90) (hdu : du ≤ 100) (hcl : click ≤ 1000) (th : Int32) (hmc : 1 ≤ mc) (hms : 4 ≤ ms) (hq : QR (some (.ref (ad [i, 9]))) ad (wset (SW i ad σ o) [i, 9] (eI 4 (tF (upF (rowsT th dm du click (hSu (cH σ j))) (hSc (cH σ j)) t00))))) : ∀ (n : Nat) (u : Nat), u + n = hSc (cH σ j) → V p l e s m args below meth c D ba d mc ms (MO D ba QR QX below args s mc ms) 9 ad (wset (SW i ad σ o) [i, 9] (eI 4 (tF (upF (rowsT th dm du click (hSu (cH σ j))) u t00)))) 24 [(6, .int (nI u)), (5, .ref (ad [i, 9])), (0, .ref (ad [i, 3, j])), (1, .int (nI click)), (2, .int th), (3, .int (nI dm)), (4, .int (nI du))] [] (0 + 1) (0 + 4) := by
  intro n
  induction n with
  | zero =>
    intro u hk
    have hu := hσ.2.2.1 j hj
    have hu1 := hu.1
    have hu2 := hu.2.1
    have hu3 := hu.2.2.1
    have hu4 := hu.2.2.2.1
    have hσ1 := hσ.1
    have hσ2 := hσ.2.1
    refine V_iload C dX7_echoes_24 0 rfl ?_
    refine V_aload_n C dX7_echoes_26 2 rfl ?_
    refine V_get (ci := 6) (k := 0) C dX7_echoes_27 RX7 RX7 TX7 5 fw_X7 rfl (by decide) tw_528 rfl rfl ((wset_n (by simp)).trans (SW_h hj)) rfl ?_
    refine V_alen (v := nI (hSc (cH σ j))) C dX7_echoes_30 rfl ((wset_n (by simp)).trans (SW_s hj)) rfl ?_
    refine V_icmpn_ge (tgt := 185) C dX7_echoes_31 (by decide) (by omega) (by omega) (fun hb1 => ?_) (fun hb1 => by exfalso; omega)
    refine V_aload C dX7_echoes_185 1 rfl ?_
    exact V_aretA C .int dX7_echoes_187 hr (by rw [show u = hSc (cH σ j) by omega]; exact hq) (by omega) (by omega)
  | succ n ih =>
    intro u hk
    have hu := hσ.2.2.1 j hj
    have hu1 := hu.1
    have hu2 := hu.2.1
    have hu3 := hu.2.2.1
    have hu4 := hu.2.2.2.1
    have hσ1 := hσ.1
    have hσ2 := hσ.2.1
    refine V_iload C dX7_echoes_24 0 rfl ?_
    refine V_aload_n C dX7_echoes_26 2 rfl ?_
    refine V_get (ci := 6) (k := 0) C dX7_echoes_27 RX7 RX7 TX7 5 fw_X7 rfl (by decide) tw_528 rfl rfl ((wset_n (by simp)).trans (SW_h hj)) rfl ?_
    refine V_alen (v := nI (hSc (cH σ j))) C dX7_echoes_30 rfl ((wset_n (by simp)).trans (SW_s hj)) rfl ?_
    refine V_icmpn_ge (tgt := 185) C dX7_echoes_31 (by decide) (by omega) (by omega) (fun hb1 => by exfalso; omega) (fun hb1 => ?_)
    have hk0 : u < hSc (cH σ j) := by omega
    refine V_iload_n C dX7_echoes_34 3 rfl ?_
    refine V_istore C [(7, .int (nI click)), (6, .int (nI u)), (5, .ref (ad [i, 9])), (0, .ref (ad [i, 3, j])), (1, .int (nI click)), (2, .int th), (3, .int (nI dm)), (4, .int (nI du))] dX7_echoes_35 (by decide) rfl ?_
    refine V_bipush (v := nI 6) C dX7_echoes_37 (by decide) ?_
    refine V_aload_n C dX7_echoes_39 3 rfl ?_
    refine V_get (ci := 6) (k := 0) C dX7_echoes_40 RX7 RX7 TX7 5 fw_X7 rfl (by decide) tw_528 rfl rfl ((wset_n (by simp)).trans (SW_h hj)) rfl ?_
    refine V_iload C dX7_echoes_43 1 rfl ?_
    refine V_aaldA (v := .ref (ad [i, 6, j, u])) C dX7_echoes_45 rfl ((wset_n (by simp)).trans (SW_s hj)) (by omega) (by omega) (by rw [adN_lt hk0]; rfl) ?_
    refine V_iconst (v := nI 0) C dX7_echoes_46 (by decide) ?_
    refine V_ialdn (v := (nI ((hSu (cH σ j) u).2))) C dX7_echoes_47 rfl ((wset_n (by simp)).trans (SW_u hj hk0)) (by decide) (by decide) rfl ?_
    refine V_imuln C dX7_echoes_48 ?_
    refine V_istore C [(8, .int (nI (6 * ((hSu (cH σ j) u).2)))), (7, .int (nI click)), (6, .int (nI u)), (5, .ref (ad [i, 9])), (0, .ref (ad [i, 3, j])), (1, .int (nI click)), (2, .int th), (3, .int (nI dm)), (4, .int (nI du))] dX7_echoes_49 (by decide) rfl ?_
    rw [show 6 * (hSu (cH σ j) u).2 = 1 * 6 * (hSu (cH σ j) u).2 by omega]
    refine V_lv [0, 1, 2, 3, 4, 5, 6, 7, 8] rfl ?_
    refine lp_se2 C hl hr (by omega) hσ hj hdm hdu hcl th (by omega) (by omega) hk0 rfl rfl 500 1 click _ (by omega) (by omega) hcl (tG_rows _) ?_
    refine V_wd (w' := wset (SW i ad σ o) [i, 9] (eI 4 (tF (upF (rowsT th dm du click (hSu (cH σ j))) (u + 1) t00)))) rfl ?_
    refine V_iincn C [(6, .int (nI (u + 1))), (5, .ref (ad [i, 9])), (0, .ref (ad [i, 3, j])), (1, .int (nI click)), (2, .int th), (3, .int (nI dm)), (4, .int (nI du))] dX7_echoes_179 0 rfl (by decide) rfl ?_
    refine V_goto (tgt := 24) C dX7_echoes_182 (by decide) ?_
    refine V_lv [0, 1, 2, 3, 4, 5, 6] rfl ?_
    exact ih (u + 1) (by omega)
set_option maxHeartbeats 4000000 in
theorem s_echoes {l : Launch} {D : va_G} {ba d : Nat} {ad : Adr} (hl : l.stackTraces = false) (hd : 4 ≤ d) {i : Nat} {σ : CS} {o : Wd} (hσ : cOK σ) {j : Nat} (hj : j < cN σ) {click dm du : Nat} (hdm : dm ≤ 90) (hdu : du ≤ 100) (hcl : click ≤ 1000) (th : Int32)  : CT l yX7_echoes (wsO yX7_echoes cX7_echoes 9 (some (.array .int))) d 1 4 D ba [.ref (ad [i, 3, j]), .int (nI click), .int th, .int (nI dm), .int (nI du)] ad (SW i ad σ o) (fun v ad' w' => ∃ q, v = some (.ref q) ∧ ad' = aset ad [i, 9] q ∧ w' = wset (SW i ad σ o) [i, 9] (eI 4 (tF (upF (rowsT th dm du click (hSu (cH σ j))) (hSc (cH σ j)) t00)))) noX := by
  refine CT_of RX7 rfl (by decide +kernel) hl (Nat.le_of_ble_eq_true rfl) ?_
  intro p e s m args below meth c C hr hnm
  refine V_lvE (lv' := [(0, .ref (ad [i, 3, j])), (1, .int (nI click)), (2, .int th), (3, .int (nI dm)), (4, .int (nI du))]) rfl ?_
  refine V_iconst (v := nI 4) C dX7_echoes_0 (by decide) ?_
  refine V_newIn (N := 4) C [i, 9] dX7_echoes_1 tw_69 (by decide) SW_9 (by omega) (by omega) (fun q => ?_)
  obtain ⟨ad1, hA⟩ : ∃ z, z = aset ad [i, 9] q := ⟨_, rfl⟩
  have hq9 : q = ad1 [i, 9] := by rw [hA]; exact aset_s.symm
  have hN3 : ad [i, 3, j] = ad1 [i, 3, j] := by rw [hA]; exact (aset_n (by simp)).symm
  rw [← hA, hN3]
  refine V_wd (w' := wset (SW i ad1 σ o) [i, 9] (eI 4 (fun _ => 0))) (by rw [hA, SW_ad9]) ?_
  refine V_stE (st' := [.ref (ad1 [i, 9])]) (by rw [hq9]) ?_
  refine V_dup C dX7_echoes_3 rfl ?_
  refine V_iconst (v := nI 0) C dX7_echoes_4 (by decide) ?_
  refine V_iconst (v := nI 0) C dX7_echoes_5 (by decide) ?_
  refine V_iastn C dX7_echoes_6 rfl wset_s (by omega) (by decide) ?_
  refine V_wd (w' := wset (SW i ad1 σ o) ([i, 9]) (eI 4 (upd (fun _ => 0) 0 (nI 0)))) wset_wset ?_
  refine V_dup C dX7_echoes_7 rfl ?_
  refine V_iconst (v := nI 1) C dX7_echoes_8 (by decide) ?_
  refine V_iconst (v := nI 0) C dX7_echoes_9 (by decide) ?_
  refine V_iastn C dX7_echoes_10 rfl wset_s (by omega) (by decide) ?_
  refine V_wd (w' := wset (SW i ad1 σ o) ([i, 9]) (eI 4 (upd (upd (fun _ => 0) 0 (nI 0)) 1 (nI 0)))) wset_wset ?_
  refine V_dup C dX7_echoes_11 rfl ?_
  refine V_iconst (v := nI 2) C dX7_echoes_12 (by decide) ?_
  refine V_iconst (v := -1) C dX7_echoes_13 (by decide) ?_
  refine V_iastn C dX7_echoes_14 rfl wset_s (by omega) (by decide) ?_
  refine V_wd (w' := wset (SW i ad1 σ o) ([i, 9]) (eI 4 (upd (upd (upd (fun _ => 0) 0 (nI 0)) 1 (nI 0)) 2 (-1)))) wset_wset ?_
  refine V_dup C dX7_echoes_15 rfl ?_
  refine V_iconst (v := nI 3) C dX7_echoes_16 (by decide) ?_
  refine V_iconst (v := -1) C dX7_echoes_17 (by decide) ?_
  refine V_iastn C dX7_echoes_18 rfl wset_s (by omega) (by decide) ?_
  refine V_wd (w' := wset (SW i ad1 σ o) ([i, 9]) (eI 4 (upd (upd (upd (upd (fun _ => 0) 0 (nI 0)) 1 (nI 0)) 2 (-1)) 3 (-1)))) wset_wset ?_
  refine V_astore C [(5, .ref (ad1 [i, 9])), (0, .ref (ad1 [i, 3, j])), (1, .int (nI click)), (2, .int th), (3, .int (nI dm)), (4, .int (nI du))] dX7_echoes_19 (by decide) rfl ?_
  refine V_iconst (v := nI 0) C dX7_echoes_21 (by decide) ?_
  refine V_istore C [(6, .int (nI 0)), (5, .ref (ad1 [i, 9])), (0, .ref (ad1 [i, 3, j])), (1, .int (nI click)), (2, .int th), (3, .int (nI dm)), (4, .int (nI du))] dX7_echoes_22 (by decide) rfl ?_
  refine V_wd (w' := wset (SW i ad1 σ o) [i, 9] (eI 4 (tF (upF (rowsT th dm du click (hSu (cH σ j))) 0 t00)))) rfl ?_
  refine V_lv [0, 1, 2, 3, 4, 5, 6] rfl ?_
  exact lp_se1 C hl hr (by omega) hσ hj hdm hdu hcl th (by omega) (by omega) ⟨q, by rw [hq9], hA, by rw [hA, SW_ad9]⟩ (hSc (cH σ j)) 0 (by omega)
section BK
variable {p : Program} {l : Launch} {e : Env} {s : State} {m : MethodId} {args : Array Value} {below : List Frame} {meth : Method} {c : Code} {D : va_G} {ba d mc ms nL pc cells slots : Nat} {ad : Adr} {Q : State → Prop} {lv : List (Nat × Value)} {rest : List Value} {i : Nat} {σ : CS} {o : Wd}
theorem V_back9 {q : Nat} {e0 : Ent} (k : V p l e s m args below meth c D ba d mc ms Q nL ad (SW i ad σ o) pc lv rest cells slots) : V p l e s m args below meth c D ba d mc ms Q nL (aset ad [i, 9] q) (wset (SW i ad σ o) [i, 9] e0) pc lv rest cells slots := by
  refine V_del [i, 9] ?_
  rw [wdel_wset SW_9]
  refine V_adr (ad' := ad) (fun L hL => ?_) k
  by_cases h : L = [i, 9]
  · exact absurd (by rw [h]; exact SW_9) hL
  · exact (aset_n h).symm
end BK
theorem rowE_lz {th : Int32} (E : List (Nat × Nat)) : ∀ t : TT, ∃ a b : Nat, (List.foldl (hearT th) t E).1 = t.1 + nI a ∧ (List.foldl (hearT th) t E).2.1 = t.2.1 + nI b ∧ b ≤ a ∧ a ≤ E.length := by
  induction E with
  | nil => exact fun t => ⟨0, 0, by rw [nI_0, Int32.add_zero]; rfl, by rw [nI_0, Int32.add_zero]; rfl, Nat.le_refl _, Nat.le_refl _⟩
  | cons q E ih =>
    intro t
    obtain ⟨a, b, h1, h2, h3, h4⟩ := ih (hearT th t q)
    have e1 : (hearT th t q).1 = t.1 + nI 1 := rfl
    by_cases hc : nI q.2 < th
    · have e2 : (hearT th t q).2.1 = t.2.1 := by show tLo (nI q.2) th t.2.1 = _; unfold tLo; rw [if_pos hc]
      refine ⟨a + 1, b, ?_, ?_, by omega, by simp only [List.length_cons]; omega⟩
      · rw [List.foldl_cons, h1, e1, Int32.add_assoc, nI_add, Nat.add_comm]
      · rw [List.foldl_cons, h2, e2]
    · have e2 : (hearT th t q).2.1 = t.2.1 + nI 1 := by show tLo (nI q.2) th t.2.1 = _; unfold tLo; rw [if_neg hc]
      refine ⟨a + 1, b + 1, ?_, ?_, by omega, by simp only [List.length_cons]; omega⟩
      · rw [List.foldl_cons, h1, e1, Int32.add_assoc, nI_add, Nat.add_comm]
      · rw [List.foldl_cons, h2, e2, Int32.add_assoc, nI_add, Nat.add_comm]
theorem rowE_len {hd dm ds : Nat} : ∀ n k l, (rowE hd dm ds n k l).length ≤ n
  | 0, _, _ => Nat.le_refl 0
  | n + 1, k, l => by
    rw [rowE]
    split
    · exact Nat.zero_le _
    · split
      · simp only [List.length_cons]
        have := rowE_len (hd := hd) (dm := dm) (ds := ds) n (k + 1) (nx hd dm l)
        omega
      · exact Nat.zero_le _
theorem rows_nat {th : Int32} {dm du click : Nat} {su : Nat → Nat × Nat} : ∀ m, ∃ a b : Nat, (upF (rowsT th dm du click su) m t00).1 = nI a ∧ (upF (rowsT th dm du click su) m t00).2.1 = nI b ∧ b ≤ a ∧ a ≤ 500 * m
  | 0 => ⟨0, 0, rfl, rfl, Nat.le_refl _, Nat.le_refl _⟩
  | m + 1 => by
    obtain ⟨a, b, h1, h2, h3, h4⟩ := rows_nat (th := th) (dm := dm) (du := du) (click := click) (su := su) m
    obtain ⟨a', b', g1, g2, g3, g4⟩ := rowE_lz (th := th) (rowE ((su m).1 - du / 5) dm (su m).2 500 1 click) (upF (rowsT th dm du click su) m t00)
    have hl := rowE_len (hd := (su m).1 - du / 5) (dm := dm) (ds := (su m).2) 500 1 click
    refine ⟨a + a', b + b', ?_, ?_, by omega, by omega⟩
    · show (List.foldl (hearT th) (upF (rowsT th dm du click su) m t00) (rowE ((su m).1 - du / 5) dm (su m).2 500 1 click)).1 = _
      rw [g1, h1, nI_add]
    · show (List.foldl (hearT th) (upF (rowsT th dm du click su) m t00) (rowE ((su m).1 - du / 5) dm (su m).2 500 1 click)).2.1 = _
      rw [g2, h2, nI_add]
theorem tlyW_z {hh : HallS} {q : StdS} {dm du mo : Nat} (hs : hSc hh ≤ 6) (hm : mo < 2 ^ 31) (h : (tlyW hh q dm du).1 = 0) : ¬ nI mo < (tlyW hh q dm du).2.1 := by
  obtain ⟨a, b, h1, h2, h3, h4⟩ := rows_nat (th := nI q.2.1) (dm := dm) (du := du) (click := 1000) (su := hSu hh) (hSc hh)
  have e1 : (tlyW hh q dm du).1 = nI a := h1
  have e2 : (tlyW hh q dm du).2.1 = nI b := h2
  have ha : a = 0 := Nat.eq_zero_of_not_pos (fun z => nI_ne0 z (by omega) (e1.symm.trans h))
  rw [e2]
  exact nI_nlt (by omega) hm
set_option maxHeartbeats 4000000 in
theorem s_meets {l : Launch} {D : va_G} {ba d : Nat} {ad : Adr} (hl : l.stackTraces = false) (hd : 5 ≤ d) {i : Nat} {σ : CS} {o : Wd} (hσ : cOK σ) {j : Nat} (hj : j < cN σ) {q : Nat} (hq : q < cK σ) {dm du : Nat} (hdm : dm ≤ 90) (hdu : du ≤ 100) : CT l yX7_meets (wsO yX7_meets cX7_meets 5 (some .boolean)) d 1 4 D ba [.ref (ad [i, 3, j]), .ref (ad [i, 4, q]), .int (nI dm), .int (nI du)] ad (SW i ad σ o) (isR (some (.int (nI (metW (cH σ j) (cS σ q) dm du)))) ad (SW i ad σ o)) noX := by
  refine CT_of RX7 rfl (by decide +kernel) hl (Nat.le_of_ble_eq_true rfl) ?_
  intro p e s m args below meth c C hr hnm
  refine V_lvE (lv' := [(0, .ref (ad [i, 3, j])), (1, .ref (ad [i, 4, q])), (2, .int (nI dm)), (3, .int (nI du))]) rfl ?_
  have hu := hσ.2.2.1 j hj
  have hu1 := hu.1
  have hu2 := hu.2.1
  have hu3 := hu.2.2.1
  have hu4 := hu.2.2.2.1
  have hσ1 := hσ.1
  have hσ2 := hσ.2.1
  have hd9 := hσ.2.2.2 q hq
  have hd8 := hd9.2.2.2.1
  refine V_aload_n C dX7_meets_0 0 rfl ?_
  refine V_sipush (v := nI 1000) C dX7_meets_1 (by decide) ?_
  refine V_aload_n C dX7_meets_4 1 rfl ?_
  refine V_iconst (v := nI 1) C dX7_meets_5 (by decide) ?_
  refine V_ialdn (v := (nI ((cS σ q).2.1))) C dX7_meets_6 rfl (SW_d hq) (by decide) (by decide) rfl ?_
  refine V_iload_n C dX7_meets_7 2 rfl ?_
  refine V_iload_n C dX7_meets_8 3 rfl ?_
  refine V_callV (r := (RX7, TX7, 5)) C [.int (nI 1000), .int (nI ((cS σ q).2.1)), .int (nI dm), .int (nI du)] dX7_meets_9 m_X7_echoes k_X7_echoes tw_506 rfl rfl rfl (SW_h hj) rfl rfl (Nat.le_of_ble_eq_true rfl) ⟨by omega, by omega, by omega, by omega⟩ (s_echoes hl (by omega) hσ hj hdm hdu (by decide) (nI (cS σ q).2.1)) ?_ kx_no
  rintro v2 ad2 w2 ⟨q9, rfl, rfl, rfl⟩
  obtain ⟨ad1, hA⟩ : ∃ z, z = aset ad [i, 9] q9 := ⟨_, rfl⟩
  have hq9 : q9 = ad1 [i, 9] := by rw [hA]; exact aset_s.symm
  have hN4 : ad [i, 4, q] = ad1 [i, 4, q] := by rw [hA]; exact (aset_n (by simp)).symm
  refine V_lv [1] rfl ?_
  refine V_lvE (lv' := [(1, .ref (ad1 [i, 4, q]))]) (by rw [← hN4]; rfl) ?_
  refine V_stE (st' := [.ref (ad1 [i, 9])]) (by rw [hq9]; rfl) ?_
  refine V_wd (w' := wset (SW i ad σ o) [i, 9] (eI 4 (tF (tlyW (cH σ j) (cS σ q) dm du)))) rfl ?_
  rw [← hA]
  refine V_astore C [(4, .ref (ad1 [i, 9])), (1, .ref (ad1 [i, 4, q]))] dX7_meets_12 (by decide) rfl ?_
  refine V_aload C dX7_meets_14 0 rfl ?_
  refine V_iconst (v := nI 0) C dX7_meets_16 (by decide) ?_
  refine V_ialdn (v := ((tlyW (cH σ j) (cS σ q) dm du).1)) C dX7_meets_17 rfl wset_s (by decide) (by decide) rfl ?_
  refine V_if_eq (tgt := 41) C dX7_meets_18 (by decide) (fun hb1 => ?_) (fun hb1 => ?_)
  · skip
    refine V_aload C dX7_meets_41 0 rfl ?_
    refine V_iconst (v := nI 1) C dX7_meets_43 (by decide) ?_
    refine V_ialdn (v := ((tlyW (cH σ j) (cS σ q) dm du).2.1)) C dX7_meets_44 rfl wset_s (by decide) (by decide) rfl ?_
    refine V_aload_n C dX7_meets_45 1 rfl ?_
    refine V_iconst (v := nI 2) C dX7_meets_46 (by decide) ?_
    refine V_ialdn (v := (nI ((cS σ q).2.2.1))) C dX7_meets_47 rfl ((wset_n (by simp)).trans (SW_d hq)) (by decide) (by decide) rfl ?_
    refine V_icmp_gt (tgt := 55) C dX7_meets_48 (by decide) (fun hb2 => ?_) (fun hb2 => ?_)
    · skip
      exact absurd hb2 (tlyW_z hu1 (by omega) hb1)
    · skip
      refine V_iconst (v := nI 1) C dX7_meets_51 (by decide) ?_
      refine V_goto (tgt := 56) C dX7_meets_52 (by decide) ?_
      refine V_lv [] rfl ?_
      rw [hA]
      refine V_back9 ?_
      exact V_iret C .boolean dX7_meets_56 hr rfl ⟨by rw [metW, okT, okS, if_pos hb1], rfl, rfl⟩ (by omega) (by omega)
  · skip
    refine V_aload C dX7_meets_21 0 rfl ?_
    refine V_iconst (v := nI 2) C dX7_meets_23 (by decide) ?_
    refine V_ialdn (v := ((tlyW (cH σ j) (cS σ q) dm du).2.2.1)) C dX7_meets_24 rfl wset_s (by decide) (by decide) rfl ?_
    refine V_aload_n C dX7_meets_25 1 rfl ?_
    refine V_iconst (v := nI 0) C dX7_meets_26 (by decide) ?_
    refine V_ialdn (v := (nI ((cS σ q).1))) C dX7_meets_27 rfl ((wset_n (by simp)).trans (SW_d hq)) (by decide) (by decide) rfl ?_
    refine V_icmp_lt (tgt := 55) C dX7_meets_28 (by decide) (fun hb3 => ?_) (fun hb3 => ?_)
    · skip
      refine V_iconst (v := nI 0) C dX7_meets_55 (by decide) ?_
      refine V_lv [] rfl ?_
      rw [hA]
      refine V_back9 ?_
      exact V_iret C .boolean dX7_meets_56 hr rfl ⟨by rw [metW, okT, okS, if_neg hb1, if_pos hb3], rfl, rfl⟩ (by omega) (by omega)
    · skip
      refine V_aload C dX7_meets_31 0 rfl ?_
      refine V_iconst (v := nI 3) C dX7_meets_33 (by decide) ?_
      refine V_ialdn (v := ((tlyW (cH σ j) (cS σ q) dm du).2.2.2)) C dX7_meets_34 rfl wset_s (by decide) (by decide) rfl ?_
      refine V_aload_n C dX7_meets_35 1 rfl ?_
      refine V_iconst (v := nI 3) C dX7_meets_36 (by decide) ?_
      refine V_ialdn (v := (nI ((cS σ q).2.2.2.1))) C dX7_meets_37 rfl ((wset_n (by simp)).trans (SW_d hq)) (by decide) (by decide) rfl ?_
      refine V_icmp_gt (tgt := 55) C dX7_meets_38 (by decide) (fun hb4 => ?_) (fun hb4 => ?_)
      · skip
        refine V_iconst (v := nI 0) C dX7_meets_55 (by decide) ?_
        refine V_lv [] rfl ?_
        rw [hA]
        refine V_back9 ?_
        exact V_iret C .boolean dX7_meets_56 hr rfl ⟨by rw [metW, okT, okS, if_neg hb1, if_neg hb3, if_pos hb4], rfl, rfl⟩ (by omega) (by omega)
      · skip
        refine V_aload C dX7_meets_41 0 rfl ?_
        refine V_iconst (v := nI 1) C dX7_meets_43 (by decide) ?_
        refine V_ialdn (v := ((tlyW (cH σ j) (cS σ q) dm du).2.1)) C dX7_meets_44 rfl wset_s (by decide) (by decide) rfl ?_
        refine V_aload_n C dX7_meets_45 1 rfl ?_
        refine V_iconst (v := nI 2) C dX7_meets_46 (by decide) ?_
        refine V_ialdn (v := (nI ((cS σ q).2.2.1))) C dX7_meets_47 rfl ((wset_n (by simp)).trans (SW_d hq)) (by decide) (by decide) rfl ?_
        refine V_icmp_gt (tgt := 55) C dX7_meets_48 (by decide) (fun hb5 => ?_) (fun hb5 => ?_)
        · skip
          refine V_iconst (v := nI 0) C dX7_meets_55 (by decide) ?_
          refine V_lv [] rfl ?_
          rw [hA]
          refine V_back9 ?_
          exact V_iret C .boolean dX7_meets_56 hr rfl ⟨by rw [metW, okT, okS, if_neg hb1, if_neg hb3, if_neg hb4, if_pos hb5], rfl, rfl⟩ (by omega) (by omega)
        · skip
          refine V_iconst (v := nI 1) C dX7_meets_51 (by decide) ?_
          refine V_goto (tgt := 56) C dX7_meets_52 (by decide) ?_
          refine V_lv [] rfl ?_
          rw [hA]
          refine V_back9 ?_
          exact V_iret C .boolean dX7_meets_56 hr rfl ⟨by rw [metW, okT, okS, if_neg hb1, if_neg hb3, if_neg hb4, if_neg hb5], rfl, rfl⟩ (by omega) (by omega)
