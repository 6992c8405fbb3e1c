section Q29
variable {i : Nat} {ad ad2 : Adr} {σ : CS} {th ro : Int32} {lo ma ap : Nat → Int32} {o : Wd}
theorem QW_ad (h : ∀ c, ad2 [i, c] = ad [i, c]) : QW i ad2 σ th ro lo ma ap o = QW i ad σ th ro lo ma ap o := by
  show put i (MC i ad2 σ th ro lo ma ap) o = put i (MC i ad σ th ro lo ma ap) o
  congr 1
  funext L
  rcases L with _ | ⟨c, _ | ⟨x, y⟩⟩
  · show some (eMod i ad2 _ _ _ _ _ _) = some (eMod i ad _ _ _ _ _ _)
    simp only [eMod, h]
  · rfl
  · rfl
theorem QW_tmp {e : Ent} : wset (QW i ad σ th ro lo ma ap o) [] e = QW i ad σ th ro lo ma ap (wset o [] e) := by
  funext L
  rcases L with _ | ⟨j, r⟩
  · rfl
  · rw [wset_n (by simp)]
    show (if j = i then _ else _) = (if j = i then _ else wset o [] e (j :: r))
    rw [wset_n (by simp)]
theorem QW_tmp2 {e e2 : Ent} : wset (QW i ad σ th ro lo ma ap (wset o [] e)) [] e2 = QW i ad σ th ro lo ma ap (wset o [] e2) := by
  rw [QW_tmp, wset_wset]
theorem mxH_step {H : Nat → HallS} {k : Nat} {x : Int64} : upF (fun j => mxH (H j)) (k + 1) x = upF (mxS (H k)) (hSc (H k)) (mxH0 (H k) (upF (fun j => mxH (H j)) k x)) := by
  rw [upF_succ, mxH]
theorem QW_nil : QW i ad σ th ro lo ma ap o [] = o [] := rfl
end Q29
set_option maxHeartbeats 4000000 in
theorem lp_ds {p : Program} {l : Launch} {e : Env} {s : State} {m : MethodId} {args : Array Value} {below : List Frame} {meth : Method} {c : Code} {D : va_G} {ba d mc ms : Nat} {ad : Adr} {cells slots : Nat} {QR : Option Value → Adr → Wd → Prop} {QX : String → Adr → Wd → Prop} (C : Cx p l s m args meth c D ba RX7 cX7_digest 10 [] d) (hl : l.stackTraces = false) (hr : meth.sig.returnType = (some .long)) (hd : 9 ≤ d) {i : Nat} {σ : CS} {o : Wd} (hσ : cOK σ) (ho : o [] = none) {j : Nat} (hj : j < cN σ) {x : Int64} (hcm : cells ≤ mc) (hsm : slots ≤ ms)  : ∀ (n : Nat) (k : Nat) (ro : Int32) (lo ma ap : Nat → Int32), k + n = cK σ → (∀ ro lo ma ap, V p l e s m args below meth c D ba d mc ms (MO D ba QR QX below args s mc ms) 10 ad (QW i ad σ (nI 0) ro lo ma ap o) 407 [(2, .long (upF (mxM (cS σ) (cH σ j)) (cK σ) x)), (4, .int (nI j)), (0, .ref (ad [i]))] [] cells slots) → V p l e s m args below meth c D ba d mc ms (MO D ba QR QX below args s mc ms) 10 ad (QW i ad σ (nI 0) ro lo ma ap o) 368 [(6, .int (nI k)), (2, .long (upF (mxM (cS σ) (cH σ j)) k x)), (4, .int (nI j)), (0, .ref (ad [i]))] [] cells slots := by
  intro n
  induction n with
  | zero =>
    intro k ro lo ma ap hk K
    have hσ2 := hσ.2.1
    have hσ1 := hσ.1
    refine V_iload C dX7_digest_368 0 rfl ?_
    refine V_aload_n C dX7_digest_370 3 rfl ?_
    refine V_get (ci := 6) (k := 2) C dX7_digest_371 RX7 RX7 TX7 17 fw_X7 rfl (by decide) tw_670 rfl rfl QW_o rfl ?_
    refine V_icmpn_ge (tgt := 407) C dX7_digest_374 (by decide) (by omega) (by omega) (fun hb1 => ?_) (fun hb1 => by exfalso; omega)
    refine V_lv [1, 2, 3] rfl ?_
    rw [show k = cK σ by omega]
    exact K _ _ _ _
  | succ n ih =>
    intro k ro lo ma ap hk K
    have hσ2 := hσ.2.1
    have hσ1 := hσ.1
    have hks : k < cK σ := by omega
    refine V_iload C dX7_digest_368 0 rfl ?_
    refine V_aload_n C dX7_digest_370 3 rfl ?_
    refine V_get (ci := 6) (k := 2) C dX7_digest_371 RX7 RX7 TX7 17 fw_X7 rfl (by decide) tw_670 rfl rfl QW_o rfl ?_
    refine V_icmpn_ge (tgt := 407) C dX7_digest_374 (by decide) (by omega) (by omega) (fun hb1 => by exfalso; omega) (fun hb1 => ?_)
    refine V_lload_n C dX7_digest_377 1 rfl ?_
    refine V_ldc2 C dX7_digest_378 tw_965 ?_
    refine V_lmul C dX7_digest_381 ?_
    refine V_aload_n C dX7_digest_382 3 rfl ?_
    refine V_iload C dX7_digest_383 2 rfl ?_
    refine V_iload C dX7_digest_385 0 rfl ?_
    have hle387 := metW_le (cH σ j) (cS σ k) (hDm (cH σ j)) (hDu (cH σ j))
    refine V_callV (r := (RX7, TX7, 17)) C [.int (nI j), .int (nI k)] dX7_digest_387 m_X7_meetsNow k_X7_meetsNow tw_782 rfl rfl rfl QW_o rfl rfl (Nat.le_of_ble_eq_true rfl) ⟨by omega, by omega, by omega, by omega⟩ (m_meetsNow hl (by omega) hσ hj hks) (kr_RQ (x := .int (nI (metW (cH σ j) (cS σ k) (hDm (cH σ j)) (hDu (cH σ j))))) (fun ro lo ma ap => ?_)) kx_no
    refine V_ifn_eq (tgt := 397) C dX7_digest_390 (by decide) (by omega) (fun hb2 => ?_) (fun hb2 => ?_)
    · skip
      refine V_iconst (v := nI 0) C dX7_digest_397 (by decide) ?_
      refine V_stE (st' := [.int (nI (metW (cH σ j) (cS σ k) (hDm (cH σ j)) (hDu (cH σ j)))), .long ((upF (mxM (cS σ) (cH σ j)) k x) * 31)]) (by rw [show metW (cH σ j) (cS σ k) (hDm (cH σ j)) (hDu (cH σ j)) = 0 by omega]) ?_
      refine V_i2l C dX7_digest_398 rfl ?_
      refine V_ladd C dX7_digest_399 ?_
      refine V_stE (st' := [.long (mx (upF (mxM (cS σ) (cH σ j)) k x) (nI (metW (cH σ j) (cS σ k) (hDm (cH σ j)) (hDu (cH σ j)))))]) rfl ?_
      refine V_lstore_n C [(2, .long (mx (upF (mxM (cS σ) (cH σ j)) k x) (nI (metW (cH σ j) (cS σ k) (hDm (cH σ j)) (hDu (cH σ j)))))), (6, .int (nI k)), (4, .int (nI j)), (0, .ref (ad [i]))] dX7_digest_400 (by decide) rfl ?_
      refine V_iincn C [(6, .int (nI (k + 1))), (2, .long (mx (upF (mxM (cS σ) (cH σ j)) k x) (nI (metW (cH σ j) (cS σ k) (hDm (cH σ j)) (hDu (cH σ j)))))), (4, .int (nI j)), (0, .ref (ad [i]))] dX7_digest_401 1 rfl (by decide) rfl ?_
      refine V_goto (tgt := 368) C dX7_digest_404 (by decide) ?_
      refine V_lvE (lv' := [(6, .int (nI (k + 1))), (2, .long (upF (mxM (cS σ) (cH σ j)) (k + 1) x)), (4, .int (nI j)), (0, .ref (ad [i]))]) rfl ?_
      refine V_lv [0, 1, 2, 3] rfl ?_
      exact ih (k + 1) _ _ _ _ (by omega) K
    · skip
      refine V_iconst (v := nI 1) C dX7_digest_393 (by decide) ?_
      refine V_goto (tgt := 398) C dX7_digest_394 (by decide) ?_
      refine V_stE (st' := [.int (nI (metW (cH σ j) (cS σ k) (hDm (cH σ j)) (hDu (cH σ j)))), .long ((upF (mxM (cS σ) (cH σ j)) k x) * 31)]) (by rw [show metW (cH σ j) (cS σ k) (hDm (cH σ j)) (hDu (cH σ j)) = 1 by omega]) ?_
      refine V_i2l C dX7_digest_398 rfl ?_
      refine V_ladd C dX7_digest_399 ?_
      refine V_stE (st' := [.long (mx (upF (mxM (cS σ) (cH σ j)) k x) (nI (metW (cH σ j) (cS σ k) (hDm (cH σ j)) (hDu (cH σ j)))))]) rfl ?_
      refine V_lstore_n C [(2, .long (mx (upF (mxM (cS σ) (cH σ j)) k x) (nI (metW (cH σ j) (cS σ k) (hDm (cH σ j)) (hDu (cH σ j)))))), (6, .int (nI k)), (4, .int (nI j)), (0, .ref (ad [i]))] dX7_digest_400 (by decide) rfl ?_
      refine V_iincn C [(6, .int (nI (k + 1))), (2, .long (mx (upF (mxM (cS σ) (cH σ j)) k x) (nI (metW (cH σ j) (cS σ k) (hDm (cH σ j)) (hDu (cH σ j)))))), (4, .int (nI j)), (0, .ref (ad [i]))] dX7_digest_401 1 rfl (by decide) rfl ?_
      refine V_goto (tgt := 368) C dX7_digest_404 (by decide) ?_
      refine V_lvE (lv' := [(6, .int (nI (k + 1))), (2, .long (upF (mxM (cS σ) (cH σ j)) (k + 1) x)), (4, .int (nI j)), (0, .ref (ad [i]))]) rfl ?_
      refine V_lv [0, 1, 2, 3] rfl ?_
      exact ih (k + 1) _ _ _ _ (by omega) K
set_option maxHeartbeats 4000000 in
theorem lp_du {p : Program} {l : Launch} {e : Env} {s : State} {m : MethodId} {args : Array Value} {below : List Frame} {meth : Method} {c : Code} {D : va_G} {ba d mc ms : Nat} {ad : Adr} {cells slots : Nat} {QR : Option Value → Adr → Wd → Prop} {QX : String → Adr → Wd → Prop} (C : Cx p l s m args meth c D ba RX7 cX7_digest 10 [] d) (hl : l.stackTraces = false) (hr : meth.sig.returnType = (some .long)) (hd : 9 ≤ d) {i : Nat} {σ : CS} {o : Wd} (hσ : cOK σ) (ho : o [] = none) {j : Nat} (hj : j < cN σ) {x : Int64} (hcm : cells ≤ mc) (hsm : slots ≤ ms) {ro : Int32} {lo ma ap : Nat → Int32}  : ∀ (n : Nat) (k : Nat), k + n = hSc (cH σ j) → (V p l e s m args below meth c D ba d mc ms (MO D ba QR QX below args s mc ms) 10 ad (QW i ad σ (nI 0) ro lo ma ap o) 263 [(2, .long (upF (mxS (cH σ j)) (hSc (cH σ j)) x)), (4, .int (nI j)), (0, .ref (ad [i]))] [] cells slots) → V p l e s m args below meth c D ba d mc ms (MO D ba QR QX below args s mc ms) 10 ad (QW i ad σ (nI 0) ro lo ma ap o) 201 [(6, .int (nI k)), (2, .long (upF (mxS (cH σ j)) k x)), (4, .int (nI j)), (0, .ref (ad [i]))] [] cells slots := by
  intro n
  induction n with
  | zero =>
    intro k hk K
    have hσ1 := hσ.1
    have hu := hσ.2.2.1 j hj
    have hu1 := hu.1
    have hu2 := hu.2.1
    have hu3 := hu.2.2.1
    have hu4 := hu.2.2.2.1
    refine V_iload C dX7_digest_201 0 rfl ?_
    refine V_aload_n C dX7_digest_203 3 rfl ?_
    refine V_get (ci := 6) (k := 5) C dX7_digest_204 RX7 RX7 TX7 17 fw_X7 rfl (by decide) tw_673 rfl rfl QW_o rfl ?_
    refine V_iload C dX7_digest_207 2 rfl ?_
    refine V_ialdn (v := (nI (hSc (cH σ j)))) C dX7_digest_209 rfl QW_1 (by omega) (by decide) (row0_in hj) ?_
    refine V_icmpn_ge (tgt := 263) C dX7_digest_210 (by decide) (by omega) (by omega) (fun hb1 => ?_) (fun hb1 => by exfalso; omega)
    refine V_lv [1, 2, 3] rfl ?_
    rw [show k = hSc (cH σ j) by omega]
    exact K
  | succ n ih =>
    intro k hk K
    have hσ1 := hσ.1
    have hu := hσ.2.2.1 j hj
    have hu1 := hu.1
    have hu2 := hu.2.1
    have hu3 := hu.2.2.1
    have hu4 := hu.2.2.2.1
    have hks : k < hSc (cH σ j) := by omega
    refine V_iload C dX7_digest_201 0 rfl ?_
    refine V_aload_n C dX7_digest_203 3 rfl ?_
    refine V_get (ci := 6) (k := 5) C dX7_digest_204 RX7 RX7 TX7 17 fw_X7 rfl (by decide) tw_673 rfl rfl QW_o rfl ?_
    refine V_iload C dX7_digest_207 2 rfl ?_
    refine V_ialdn (v := (nI (hSc (cH σ j)))) C dX7_digest_209 rfl QW_1 (by omega) (by decide) (row0_in hj) ?_
    refine V_icmpn_ge (tgt := 263) C dX7_digest_210 (by decide) (by omega) (by omega) (fun hb1 => by exfalso; omega) (fun hb1 => ?_)
    refine V_lload_n C dX7_digest_213 1 rfl ?_
    refine V_ldc2 C dX7_digest_214 tw_965 ?_
    refine V_lmul C dX7_digest_217 ?_
    refine V_aload_n C dX7_digest_218 3 rfl ?_
    refine V_get (ci := 6) (k := 10) C dX7_digest_219 RX7 RX7 TX7 17 fw_X7 rfl (by decide) tw_678 rfl rfl QW_o rfl ?_
    refine V_bipush (v := nI 6) C dX7_digest_222 (by decide) ?_
    refine V_iload C dX7_digest_224 2 rfl ?_
    refine V_imuln C dX7_digest_226 ?_
    refine V_iload C dX7_digest_227 0 rfl ?_
    refine V_iaddn C dX7_digest_229 ?_
    refine V_ialdn (v := (nI ((hSu (cH σ j) k).2))) C dX7_digest_230 rfl QW_6 (by omega) (by decide) (aDs_at hj hks (by omega)) ?_
    refine V_i2l C dX7_digest_231 rfl ?_
    refine V_ladd C dX7_digest_232 ?_
    refine V_stE (st' := [.long (mx (upF (mxS (cH σ j)) k x) (nI ((hSu (cH σ j) k).2)))]) rfl ?_
    refine V_lstore_n C [(2, .long (mx (upF (mxS (cH σ j)) k x) (nI ((hSu (cH σ j) k).2)))), (6, .int (nI k)), (4, .int (nI j)), (0, .ref (ad [i]))] dX7_digest_233 (by decide) rfl ?_
    refine V_lload_n C dX7_digest_234 0 rfl ?_
    refine V_ldc2 C dX7_digest_235 tw_965 ?_
    refine V_lmul C dX7_digest_238 ?_
    refine V_aload_n C dX7_digest_239 3 rfl ?_
    refine V_iload C dX7_digest_240 2 rfl ?_
    refine V_iload C dX7_digest_242 1 rfl ?_
    refine V_aload_n C dX7_digest_244 3 rfl ?_
    refine V_get (ci := 6) (k := 7) C dX7_digest_245 RX7 RX7 TX7 17 fw_X7 rfl (by decide) tw_675 rfl rfl QW_o rfl ?_
    refine V_iload C dX7_digest_248 2 rfl ?_
    refine V_ialdn (v := (nI (hDu (cH σ j)))) C dX7_digest_250 rfl QW_3 (by omega) (by decide) (row0_in hj) ?_
    refine V_callV (r := (RX7, TX7, 17)) C [.int (nI j), .int (nI k), .int (nI (hDu (cH σ j)))] dX7_digest_251 m_X7_hard k_X7_hard tw_794 rfl rfl rfl QW_o rfl rfl (Nat.le_of_ble_eq_true rfl) ⟨by omega, by omega, by omega, by omega⟩ (m_hard hl (by omega) hσ hj hks hu3) (kr_some (x := .int (nI ((hSu (cH σ j) k).1 - hDu (cH σ j) / 5))) ?_) kx_no
    refine V_i2l C dX7_digest_254 rfl ?_
    refine V_ladd C dX7_digest_255 ?_
    refine V_stE (st' := [.long (mx (mx (upF (mxS (cH σ j)) k x) (nI ((hSu (cH σ j) k).2))) (nI ((hSu (cH σ j) k).1 - hDu (cH σ j) / 5)))]) rfl ?_
    refine V_lstore_n C [(2, .long (mx (mx (upF (mxS (cH σ j)) k x) (nI ((hSu (cH σ j) k).2))) (nI ((hSu (cH σ j) k).1 - hDu (cH σ j) / 5)))), (6, .int (nI k)), (4, .int (nI j)), (0, .ref (ad [i]))] dX7_digest_256 (by decide) rfl ?_
    refine V_iincn C [(6, .int (nI (k + 1))), (2, .long (mx (mx (upF (mxS (cH σ j)) k x) (nI ((hSu (cH σ j) k).2))) (nI ((hSu (cH σ j) k).1 - hDu (cH σ j) / 5)))), (4, .int (nI j)), (0, .ref (ad [i]))] dX7_digest_257 1 rfl (by decide) rfl ?_
    refine V_goto (tgt := 201) C dX7_digest_260 (by decide) ?_
    refine V_lvE (lv' := [(6, .int (nI (k + 1))), (2, .long (upF (mxS (cH σ j)) (k + 1) x)), (4, .int (nI j)), (0, .ref (ad [i]))]) rfl ?_
    refine V_lv [0, 1, 2, 3] rfl ?_
    exact ih (k + 1) (by omega) K
set_option maxHeartbeats 4000000 in
theorem lp_d2 {p : Program} {l : Launch} {e : Env} {s : State} {m : MethodId} {args : Array Value} {below : List Frame} {meth : Method} {c : Code} {D : va_G} {ba d mc ms : Nat} {ad : Adr} {QR : Option Value → Adr → Wd → Prop} {QX : String → Adr → Wd → Prop} (C : Cx p l s m args meth c D ba RX7 cX7_digest 10 [] d) (hl : l.stackTraces = false) (hr : meth.sig.returnType = (some .long)) (hd : 10 ≤ d) {i : Nat} {σ : CS} {o : Wd} (hσ : cOK σ) (ho : o [] = none) (hmc : 20 ≤ mc) (hms : 100 ≤ ms) (hq1 : ∀ ro lo ma ap, QR (some (.long (mxC σ))) ad (QW i ad σ (nI 0) ro lo ma ap o))  : ∀ (n : Nat) (k : Nat) (ro : Int32) (lo ma ap : Nat → Int32), k + n = cN σ → V p l e s m args below meth c D ba d mc ms (MO D ba QR QX below args s mc ms) 10 ad (QW i ad σ (nI 0) ro lo ma ap o) 272 [(4, .int (nI k)), (2, .long (upF (fun j => mxE (cS σ) (cK σ) (cH σ j)) k (mxC1 σ))), (0, .ref (ad [i]))] [] (9 + k) (45 + 4 * k) := by
  intro n
  induction n with
  | zero =>
    intro k ro lo ma ap hk
    have hσ1 := hσ.1
    refine V_iload C dX7_digest_272 0 rfl ?_
    refine V_aload_n C dX7_digest_274 2 rfl ?_
    refine V_get (ci := 6) (k := 1) C dX7_digest_275 RX7 RX7 TX7 17 fw_X7 rfl (by decide) tw_669 rfl rfl QW_o rfl ?_
    refine V_icmpn_ge (tgt := 413) C dX7_digest_278 (by decide) (by omega) (by omega) (fun hb1 => ?_) (fun hb1 => by exfalso; omega)
    refine V_lload_n C dX7_digest_413 1 rfl ?_
    exact V_lret C dX7_digest_414 hr (by rw [show k = cN σ by omega]; exact hq1 _ _ _ _) (by omega) (by omega)
  | succ n ih =>
    intro k ro lo ma ap hk
    have hσ1 := hσ.1
    have hks : k < cN σ := by omega
    have hu := hσ.2.2.1 k hks
    have hL := laid (dm := hDm (cH σ k)) (du := hDu (cH σ k)) (lo := lo) (ma := ma) (ap := ap) hu (show 1000 ≤ 1000 by decide)
    refine V_iload C dX7_digest_272 0 rfl ?_
    refine V_aload_n C dX7_digest_274 2 rfl ?_
    refine V_get (ci := 6) (k := 1) C dX7_digest_275 RX7 RX7 TX7 17 fw_X7 rfl (by decide) tw_669 rfl rfl QW_o rfl ?_
    refine V_icmpn_ge (tgt := 413) C dX7_digest_278 (by decide) (by omega) (by omega) (fun hb1 => by exfalso; omega) (fun hb1 => ?_)
    refine V_aload_n C dX7_digest_281 2 rfl ?_
    refine V_iload C dX7_digest_282 0 rfl ?_
    refine V_sipush (v := nI 1000) C dX7_digest_284 (by decide) ?_
    refine V_callV (r := (RX7, TX7, 17)) C [.int (nI k), .int (nI 1000)] dX7_digest_287 m_X7_clickNow k_X7_clickNow tw_860 rfl rfl rfl QW_o rfl rfl (Nat.le_of_ble_eq_true rfl) ⟨by omega, by omega, by omega, by omega⟩ (m_clickNow hl (by omega) hσ hks (by decide)) (kr_none ?_) kx_no
    refine V_iconst (v := nI 4) C dX7_digest_290 (by decide) ?_
    refine V_newI (N := 4) C [] dX7_digest_291 tw_69 (by decide) (by decide) (by decide) (QW_nil.trans ho) (by omega) (by omega) (fun q1 => ?_)
    obtain ⟨ad2, hA⟩ : ∃ ad2, ad2 = aset ad [] q1 := ⟨_, rfl⟩
    rw [← hA]
    have hq1 : q1 = ad2 [] := by rw [hA]; exact aset_s.symm
    have hAn : ∀ L, L ≠ [] → ad2 L = ad L := fun L hL => by rw [hA]; exact aset_n hL
    have e0 : ad [i] = ad2 [i] := (hAn _ (by simp)).symm
    refine V_wd (w' := QW i ad2 σ (nI 0) (nI (hSc (cH σ k))) (clLo (cH σ k) (hDm (cH σ k)) (hDu (cH σ k)) 1000 (hSc (cH σ k)) lo) (clMa (cH σ k) (hDm (cH σ k)) (hDu (cH σ k)) 1000 (hSc (cH σ k)) ma) (clAp (cH σ k) (hSc (cH σ k)) ap) (wset o [] (eI 4 (fun _ => 0)))) (by rw [QW_tmp]; exact (QW_ad (fun c => hAn _ (by simp))).symm) ?_
    rw [e0]
    refine V_dup C dX7_digest_293 rfl ?_
    refine V_iconst (v := nI 0) C dX7_digest_294 (by decide) ?_
    refine V_aload_n C dX7_digest_295 2 rfl ?_
    refine V_callV (r := (RX7, TX7, 17)) C [] dX7_digest_296 m_X7_all k_X7_all tw_799 rfl rfl rfl QW_o rfl rfl (Nat.le_of_ble_eq_true rfl) ⟨by omega, by omega, by omega, by omega⟩ (m_all hl (by omega) hL) (kr_some (x := .int (nI (sumR (RQh (cH σ k) (hDm (cH σ k)) (hDu (cH σ k)) 1000) (hSc (cH σ k))))) ?_) kx_no
    refine V_iastn C dX7_digest_299 hq1 (QW_nil.trans wset_s) (by omega) (by decide) ?_
    refine V_wd (w' := wset (QW i ad2 σ (nI 0) (nI (hSc (cH σ k))) (clLo (cH σ k) (hDm (cH σ k)) (hDu (cH σ k)) 1000 (hSc (cH σ k)) lo) (clMa (cH σ k) (hDm (cH σ k)) (hDu (cH σ k)) 1000 (hSc (cH σ k)) ma) (clAp (cH σ k) (hSc (cH σ k)) ap) (wset o [] (eI 4 (fun _ => 0)))) ([]) (eI 4 (upd (fun _ => 0) 0 (nI (sumR (RQh (cH σ k) (hDm (cH σ k)) (hDu (cH σ k)) 1000) (hSc (cH σ k))))))) rfl ?_
    refine V_wd (w' := QW i ad2 σ (nI 0) (nI (hSc (cH σ k))) (clLo (cH σ k) (hDm (cH σ k)) (hDu (cH σ k)) 1000 (hSc (cH σ k)) lo) (clMa (cH σ k) (hDm (cH σ k)) (hDu (cH σ k)) 1000 (hSc (cH σ k)) ma) (clAp (cH σ k) (hSc (cH σ k)) ap) (wset o [] (eI 4 (upd (fun _ => 0) 0 (nI (sumR (RQh (cH σ k) (hDm (cH σ k)) (hDu (cH σ k)) 1000) (hSc (cH σ k)))))))) QW_tmp2 ?_
    refine V_dup C dX7_digest_300 rfl ?_
    refine V_iconst (v := nI 1) C dX7_digest_301 (by decide) ?_
    refine V_aload_n C dX7_digest_302 2 rfl ?_
    refine V_callV (r := (RX7, TX7, 17)) C [] dX7_digest_303 m_X7_first k_X7_first tw_803 rfl rfl rfl QW_o rfl rfl (Nat.le_of_ble_eq_true rfl) ⟨by omega, by omega, by omega, by omega⟩ (m_first hl (by omega) hL) (kr_some (x := .int (fiR (RQh (cH σ k) (hDm (cH σ k)) (hDu (cH σ k)) 1000) (DQh (cH σ k)) (hSc (cH σ k)))) ?_) kx_no
    refine V_iastn C dX7_digest_306 hq1 (QW_nil.trans wset_s) (by omega) (by decide) ?_
    refine V_wd (w' := wset (QW i ad2 σ (nI 0) (nI (hSc (cH σ k))) (clLo (cH σ k) (hDm (cH σ k)) (hDu (cH σ k)) 1000 (hSc (cH σ k)) lo) (clMa (cH σ k) (hDm (cH σ k)) (hDu (cH σ k)) 1000 (hSc (cH σ k)) ma) (clAp (cH σ k) (hSc (cH σ k)) ap) (wset o [] (eI 4 (upd (fun _ => 0) 0 (nI (sumR (RQh (cH σ k) (hDm (cH σ k)) (hDu (cH σ k)) 1000) (hSc (cH σ k)))))))) ([]) (eI 4 (upd (upd (fun _ => 0) 0 (nI (sumR (RQh (cH σ k) (hDm (cH σ k)) (hDu (cH σ k)) 1000) (hSc (cH σ k))))) 1 (fiR (RQh (cH σ k) (hDm (cH σ k)) (hDu (cH σ k)) 1000) (DQh (cH σ k)) (hSc (cH σ k)))))) rfl ?_
    refine V_wd (w' := QW i ad2 σ (nI 0) (nI (hSc (cH σ k))) (clLo (cH σ k) (hDm (cH σ k)) (hDu (cH σ k)) 1000 (hSc (cH σ k)) lo) (clMa (cH σ k) (hDm (cH σ k)) (hDu (cH σ k)) 1000 (hSc (cH σ k)) ma) (clAp (cH σ k) (hSc (cH σ k)) ap) (wset o [] (eI 4 (upd (upd (fun _ => 0) 0 (nI (sumR (RQh (cH σ k) (hDm (cH σ k)) (hDu (cH σ k)) 1000) (hSc (cH σ k))))) 1 (fiR (RQh (cH σ k) (hDm (cH σ k)) (hDu (cH σ k)) 1000) (DQh (cH σ k)) (hSc (cH σ k))))))) QW_tmp2 ?_
    refine V_dup C dX7_digest_307 rfl ?_
    refine V_iconst (v := nI 2) C dX7_digest_308 (by decide) ?_
    refine V_aload_n C dX7_digest_309 2 rfl ?_
    refine V_callV (r := (RX7, TX7, 17)) C [] dX7_digest_310 m_X7_last k_X7_last tw_811 rfl rfl rfl QW_o rfl rfl (Nat.le_of_ble_eq_true rfl) ⟨by omega, by omega, by omega, by omega⟩ (m_last hl (by omega) hL) (kr_some (x := .int (laR (RQh (cH σ k) (hDm (cH σ k)) (hDu (cH σ k)) 1000) (DQh (cH σ k)) (hSc (cH σ k)))) ?_) kx_no
    refine V_iastn C dX7_digest_313 hq1 (QW_nil.trans wset_s) (by omega) (by decide) ?_
    refine V_wd (w' := wset (QW i ad2 σ (nI 0) (nI (hSc (cH σ k))) (clLo (cH σ k) (hDm (cH σ k)) (hDu (cH σ k)) 1000 (hSc (cH σ k)) lo) (clMa (cH σ k) (hDm (cH σ k)) (hDu (cH σ k)) 1000 (hSc (cH σ k)) ma) (clAp (cH σ k) (hSc (cH σ k)) ap) (wset o [] (eI 4 (upd (upd (fun _ => 0) 0 (nI (sumR (RQh (cH σ k) (hDm (cH σ k)) (hDu (cH σ k)) 1000) (hSc (cH σ k))))) 1 (fiR (RQh (cH σ k) (hDm (cH σ k)) (hDu (cH σ k)) 1000) (DQh (cH σ k)) (hSc (cH σ k))))))) ([]) (eI 4 (upd (upd (upd (fun _ => 0) 0 (nI (sumR (RQh (cH σ k) (hDm (cH σ k)) (hDu (cH σ k)) 1000) (hSc (cH σ k))))) 1 (fiR (RQh (cH σ k) (hDm (cH σ k)) (hDu (cH σ k)) 1000) (DQh (cH σ k)) (hSc (cH σ k)))) 2 (laR (RQh (cH σ k) (hDm (cH σ k)) (hDu (cH σ k)) 1000) (DQh (cH σ k)) (hSc (cH σ k)))))) rfl ?_
    refine V_wd (w' := QW i ad2 σ (nI 0) (nI (hSc (cH σ k))) (clLo (cH σ k) (hDm (cH σ k)) (hDu (cH σ k)) 1000 (hSc (cH σ k)) lo) (clMa (cH σ k) (hDm (cH σ k)) (hDu (cH σ k)) 1000 (hSc (cH σ k)) ma) (clAp (cH σ k) (hSc (cH σ k)) ap) (wset o [] (eI 4 (upd (upd (upd (fun _ => 0) 0 (nI (sumR (RQh (cH σ k) (hDm (cH σ k)) (hDu (cH σ k)) 1000) (hSc (cH σ k))))) 1 (fiR (RQh (cH σ k) (hDm (cH σ k)) (hDu (cH σ k)) 1000) (DQh (cH σ k)) (hSc (cH σ k)))) 2 (laR (RQh (cH σ k) (hDm (cH σ k)) (hDu (cH σ k)) 1000) (DQh (cH σ k)) (hSc (cH σ k))))))) QW_tmp2 ?_
    refine V_dup C dX7_digest_314 rfl ?_
    refine V_iconst (v := nI 3) C dX7_digest_315 (by decide) ?_
    refine V_aload_n C dX7_digest_316 2 rfl ?_
    refine V_callV (r := (RX7, TX7, 17)) C [] dX7_digest_317 m_X7_loudest k_X7_loudest tw_888 rfl rfl rfl QW_o rfl rfl (Nat.le_of_ble_eq_true rfl) ⟨by omega, by omega, by omega, by omega⟩ (m_loudest hl (by omega) hL) (kr_some (x := .int ((ldR (RQh (cH σ k) (hDm (cH σ k)) (hDu (cH σ k)) 1000) (DQh (cH σ k)) (hSc (cH σ k)) (hSc (cH σ k))).1)) ?_) kx_no
    refine V_iastn C dX7_digest_320 hq1 (QW_nil.trans wset_s) (by omega) (by decide) ?_
    refine V_wd (w' := wset (QW i ad2 σ (nI 0) (nI (hSc (cH σ k))) (clLo (cH σ k) (hDm (cH σ k)) (hDu (cH σ k)) 1000 (hSc (cH σ k)) lo) (clMa (cH σ k) (hDm (cH σ k)) (hDu (cH σ k)) 1000 (hSc (cH σ k)) ma) (clAp (cH σ k) (hSc (cH σ k)) ap) (wset o [] (eI 4 (upd (upd (upd (fun _ => 0) 0 (nI (sumR (RQh (cH σ k) (hDm (cH σ k)) (hDu (cH σ k)) 1000) (hSc (cH σ k))))) 1 (fiR (RQh (cH σ k) (hDm (cH σ k)) (hDu (cH σ k)) 1000) (DQh (cH σ k)) (hSc (cH σ k)))) 2 (laR (RQh (cH σ k) (hDm (cH σ k)) (hDu (cH σ k)) 1000) (DQh (cH σ k)) (hSc (cH σ k))))))) ([]) (eI 4 (upd (upd (upd (upd (fun _ => 0) 0 (nI (sumR (RQh (cH σ k) (hDm (cH σ k)) (hDu (cH σ k)) 1000) (hSc (cH σ k))))) 1 (fiR (RQh (cH σ k) (hDm (cH σ k)) (hDu (cH σ k)) 1000) (DQh (cH σ k)) (hSc (cH σ k)))) 2 (laR (RQh (cH σ k) (hDm (cH σ k)) (hDu (cH σ k)) 1000) (DQh (cH σ k)) (hSc (cH σ k)))) 3 ((ldR (RQh (cH σ k) (hDm (cH σ k)) (hDu (cH σ k)) 1000) (DQh (cH σ k)) (hSc (cH σ k)) (hSc (cH σ k))).1)))) rfl ?_
    refine V_wd (w' := QW i ad2 σ (nI 0) (nI (hSc (cH σ k))) (clLo (cH σ k) (hDm (cH σ k)) (hDu (cH σ k)) 1000 (hSc (cH σ k)) lo) (clMa (cH σ k) (hDm (cH σ k)) (hDu (cH σ k)) 1000 (hSc (cH σ k)) ma) (clAp (cH σ k) (hSc (cH σ k)) ap) (wset o [] (eI 4 (upd (upd (upd (upd (fun _ => 0) 0 (nI (sumR (RQh (cH σ k) (hDm (cH σ k)) (hDu (cH σ k)) 1000) (hSc (cH σ k))))) 1 (fiR (RQh (cH σ k) (hDm (cH σ k)) (hDu (cH σ k)) 1000) (DQh (cH σ k)) (hSc (cH σ k)))) 2 (laR (RQh (cH σ k) (hDm (cH σ k)) (hDu (cH σ k)) 1000) (DQh (cH σ k)) (hSc (cH σ k)))) 3 ((ldR (RQh (cH σ k) (hDm (cH σ k)) (hDu (cH σ k)) 1000) (DQh (cH σ k)) (hSc (cH σ k)) (hSc (cH σ k))).1))))) QW_tmp2 ?_
    refine V_astore C [(5, .ref q1), (4, .int (nI k)), (2, .long (upF (fun j => mxE (cS σ) (cK σ) (cH σ j)) k (mxC1 σ))), (0, .ref (ad2 [i]))] dX7_digest_321 (by decide) rfl ?_
    refine V_aload C dX7_digest_323 0 rfl ?_
    refine V_astore C [(6, .ref q1), (5, .ref q1), (4, .int (nI k)), (2, .long (upF (fun j => mxE (cS σ) (cK σ) (cH σ j)) k (mxC1 σ))), (0, .ref (ad2 [i]))] dX7_digest_325 (by decide) rfl ?_
    refine V_aload C dX7_digest_327 0 rfl ?_
    refine V_alen (v := nI 4) C dX7_digest_329 hq1 (QW_nil.trans wset_s) rfl ?_
    refine V_istore C [(7, .int (nI 4)), (6, .ref q1), (5, .ref q1), (4, .int (nI k)), (2, .long (upF (fun j => mxE (cS σ) (cK σ) (cH σ j)) k (mxC1 σ))), (0, .ref (ad2 [i]))] dX7_digest_330 (by decide) rfl ?_
    refine V_iconst (v := nI 0) C dX7_digest_332 (by decide) ?_
    refine V_istore C [(8, .int (nI 0)), (7, .int (nI 4)), (6, .ref q1), (5, .ref q1), (4, .int (nI k)), (2, .long (upF (fun j => mxE (cS σ) (cK σ) (cH σ j)) k (mxC1 σ))), (0, .ref (ad2 [i]))] dX7_digest_333 (by decide) rfl ?_
    refine V_iload C dX7_digest_335 0 rfl ?_
    refine V_iload C dX7_digest_337 1 rfl ?_
    refine V_icmpn_ge (tgt := 365) C dX7_digest_339 (by decide) (by decide) (by decide) (fun hb2 => by exfalso; omega) (fun hb2 => ?_)
    refine V_aload C dX7_digest_342 2 rfl ?_
    refine V_iload C dX7_digest_344 0 rfl ?_
    refine V_ialdn (v := (nI (sumR (RQh (cH σ k) (hDm (cH σ k)) (hDu (cH σ k)) 1000) (hSc (cH σ k))))) C dX7_digest_346 hq1 (QW_nil.trans wset_s) (by decide) (by decide) rfl ?_
    refine V_istore C [(9, .int (nI (sumR (RQh (cH σ k) (hDm (cH σ k)) (hDu (cH σ k)) 1000) (hSc (cH σ k))))), (8, .int (nI 0)), (7, .int (nI 4)), (6, .ref q1), (5, .ref q1), (4, .int (nI k)), (2, .long (upF (fun j => mxE (cS σ) (cK σ) (cH σ j)) k (mxC1 σ))), (0, .ref (ad2 [i]))] dX7_digest_347 (by decide) rfl ?_
    refine V_lload_n C dX7_digest_349 6 rfl ?_
    refine V_ldc2 C dX7_digest_350 tw_965 ?_
    refine V_lmul C dX7_digest_353 ?_
    refine V_iload C dX7_digest_354 0 rfl ?_
    refine V_i2l C dX7_digest_356 rfl ?_
    refine V_ladd C dX7_digest_357 ?_
    refine V_stE (st' := [.long (mx (upF (fun j => mxE (cS σ) (cK σ) (cH σ j)) k (mxC1 σ)) (nI (sumR (RQh (cH σ k) (hDm (cH σ k)) (hDu (cH σ k)) 1000) (hSc (cH σ k)))))]) rfl ?_
    refine V_lstore_n C [(2, .long (mx (upF (fun j => mxE (cS σ) (cK σ) (cH σ j)) k (mxC1 σ)) (nI (sumR (RQh (cH σ k) (hDm (cH σ k)) (hDu (cH σ k)) 1000) (hSc (cH σ k)))))), (9, .int (nI (sumR (RQh (cH σ k) (hDm (cH σ k)) (hDu (cH σ k)) 1000) (hSc (cH σ k))))), (8, .int (nI 0)), (7, .int (nI 4)), (6, .ref q1), (5, .ref q1), (4, .int (nI k)), (0, .ref (ad2 [i]))] dX7_digest_358 (by decide) rfl ?_
    refine V_iincn C [(8, .int (nI (0 + 1))), (2, .long (mx (upF (fun j => mxE (cS σ) (cK σ) (cH σ j)) k (mxC1 σ)) (nI (sumR (RQh (cH σ k) (hDm (cH σ k)) (hDu (cH σ k)) 1000) (hSc (cH σ k)))))), (9, .int (nI (sumR (RQh (cH σ k) (hDm (cH σ k)) (hDu (cH σ k)) 1000) (hSc (cH σ k))))), (7, .int (nI 4)), (6, .ref q1), (5, .ref q1), (4, .int (nI k)), (0, .ref (ad2 [i]))] dX7_digest_359 2 rfl (by decide) rfl ?_
    refine V_lvE (lv' := [(8, .int (nI 1)), (2, .long (mx (upF (fun j => mxE (cS σ) (cK σ) (cH σ j)) k (mxC1 σ)) (nI (sumR (RQh (cH σ k) (hDm (cH σ k)) (hDu (cH σ k)) 1000) (hSc (cH σ k)))))), (9, .int (nI (sumR (RQh (cH σ k) (hDm (cH σ k)) (hDu (cH σ k)) 1000) (hSc (cH σ k))))), (7, .int (nI 4)), (6, .ref q1), (5, .ref q1), (4, .int (nI k)), (0, .ref (ad2 [i]))]) rfl ?_
    refine V_goto (tgt := 335) C dX7_digest_362 (by decide) ?_
    refine V_iload C dX7_digest_335 0 rfl ?_
    refine V_iload C dX7_digest_337 3 rfl ?_
    refine V_icmpn_ge (tgt := 365) C dX7_digest_339 (by decide) (by decide) (by decide) (fun hb3 => by exfalso; omega) (fun hb3 => ?_)
    refine V_aload C dX7_digest_342 4 rfl ?_
    refine V_iload C dX7_digest_344 0 rfl ?_
    refine V_ialdn (v := (fiR (RQh (cH σ k) (hDm (cH σ k)) (hDu (cH σ k)) 1000) (DQh (cH σ k)) (hSc (cH σ k)))) C dX7_digest_346 hq1 (QW_nil.trans wset_s) (by decide) (by decide) rfl ?_
    refine V_istore C [(9, .int (fiR (RQh (cH σ k) (hDm (cH σ k)) (hDu (cH σ k)) 1000) (DQh (cH σ k)) (hSc (cH σ k)))), (8, .int (nI 1)), (2, .long (mx (upF (fun j => mxE (cS σ) (cK σ) (cH σ j)) k (mxC1 σ)) (nI (sumR (RQh (cH σ k) (hDm (cH σ k)) (hDu (cH σ k)) 1000) (hSc (cH σ k)))))), (7, .int (nI 4)), (6, .ref q1), (5, .ref q1), (4, .int (nI k)), (0, .ref (ad2 [i]))] dX7_digest_347 (by decide) rfl ?_
    refine V_lload_n C dX7_digest_349 2 rfl ?_
    refine V_ldc2 C dX7_digest_350 tw_965 ?_
    refine V_lmul C dX7_digest_353 ?_
    refine V_iload C dX7_digest_354 0 rfl ?_
    refine V_i2l C dX7_digest_356 rfl ?_
    refine V_ladd C dX7_digest_357 ?_
    refine V_stE (st' := [.long (mx (mx (upF (fun j => mxE (cS σ) (cK σ) (cH σ j)) k (mxC1 σ)) (nI (sumR (RQh (cH σ k) (hDm (cH σ k)) (hDu (cH σ k)) 1000) (hSc (cH σ k))))) (fiR (RQh (cH σ k) (hDm (cH σ k)) (hDu (cH σ k)) 1000) (DQh (cH σ k)) (hSc (cH σ k))))]) rfl ?_
    refine V_lstore_n C [(2, .long (mx (mx (upF (fun j => mxE (cS σ) (cK σ) (cH σ j)) k (mxC1 σ)) (nI (sumR (RQh (cH σ k) (hDm (cH σ k)) (hDu (cH σ k)) 1000) (hSc (cH σ k))))) (fiR (RQh (cH σ k) (hDm (cH σ k)) (hDu (cH σ k)) 1000) (DQh (cH σ k)) (hSc (cH σ k))))), (9, .int (fiR (RQh (cH σ k) (hDm (cH σ k)) (hDu (cH σ k)) 1000) (DQh (cH σ k)) (hSc (cH σ k)))), (8, .int (nI 1)), (7, .int (nI 4)), (6, .ref q1), (5, .ref q1), (4, .int (nI k)), (0, .ref (ad2 [i]))] dX7_digest_358 (by decide) rfl ?_
    refine V_iincn C [(8, .int (nI (1 + 1))), (2, .long (mx (mx (upF (fun j => mxE (cS σ) (cK σ) (cH σ j)) k (mxC1 σ)) (nI (sumR (RQh (cH σ k) (hDm (cH σ k)) (hDu (cH σ k)) 1000) (hSc (cH σ k))))) (fiR (RQh (cH σ k) (hDm (cH σ k)) (hDu (cH σ k)) 1000) (DQh (cH σ k)) (hSc (cH σ k))))), (9, .int (fiR (RQh (cH σ k) (hDm (cH σ k)) (hDu (cH σ k)) 1000) (DQh (cH σ k)) (hSc (cH σ k)))), (7, .int (nI 4)), (6, .ref q1), (5, .ref q1), (4, .int (nI k)), (0, .ref (ad2 [i]))] dX7_digest_359 2 rfl (by decide) rfl ?_
    refine V_lvE (lv' := [(8, .int (nI 2)), (2, .long (mx (mx (upF (fun j => mxE (cS σ) (cK σ) (cH σ j)) k (mxC1 σ)) (nI (sumR (RQh (cH σ k) (hDm (cH σ k)) (hDu (cH σ k)) 1000) (hSc (cH σ k))))) (fiR (RQh (cH σ k) (hDm (cH σ k)) (hDu (cH σ k)) 1000) (DQh (cH σ k)) (hSc (cH σ k))))), (9, .int (fiR (RQh (cH σ k) (hDm (cH σ k)) (hDu (cH σ k)) 1000) (DQh (cH σ k)) (hSc (cH σ k)))), (7, .int (nI 4)), (6, .ref q1), (5, .ref q1), (4, .int (nI k)), (0, .ref (ad2 [i]))]) rfl ?_
    refine V_goto (tgt := 335) C dX7_digest_362 (by decide) ?_
    refine V_iload C dX7_digest_335 0 rfl ?_
    refine V_iload C dX7_digest_337 3 rfl ?_
    refine V_icmpn_ge (tgt := 365) C dX7_digest_339 (by decide) (by decide) (by decide) (fun hb4 => by exfalso; omega) (fun hb4 => ?_)
    refine V_aload C dX7_digest_342 4 rfl ?_
    refine V_iload C dX7_digest_344 0 rfl ?_
    refine V_ialdn (v := (laR (RQh (cH σ k) (hDm (cH σ k)) (hDu (cH σ k)) 1000) (DQh (cH σ k)) (hSc (cH σ k)))) C dX7_digest_346 hq1 (QW_nil.trans wset_s) (by decide) (by decide) rfl ?_
    refine V_istore C [(9, .int (laR (RQh (cH σ k) (hDm (cH σ k)) (hDu (cH σ k)) 1000) (DQh (cH σ k)) (hSc (cH σ k)))), (8, .int (nI 2)), (2, .long (mx (mx (upF (fun j => mxE (cS σ) (cK σ) (cH σ j)) k (mxC1 σ)) (nI (sumR (RQh (cH σ k) (hDm (cH σ k)) (hDu (cH σ k)) 1000) (hSc (cH σ k))))) (fiR (RQh (cH σ k) (hDm (cH σ k)) (hDu (cH σ k)) 1000) (DQh (cH σ k)) (hSc (cH σ k))))), (7, .int (nI 4)), (6, .ref q1), (5, .ref q1), (4, .int (nI k)), (0, .ref (ad2 [i]))] dX7_digest_347 (by decide) rfl ?_
    refine V_lload_n C dX7_digest_349 2 rfl ?_
    refine V_ldc2 C dX7_digest_350 tw_965 ?_
    refine V_lmul C dX7_digest_353 ?_
    refine V_iload C dX7_digest_354 0 rfl ?_
    refine V_i2l C dX7_digest_356 rfl ?_
    refine V_ladd C dX7_digest_357 ?_
    refine V_stE (st' := [.long (mx (mx (mx (upF (fun j => mxE (cS σ) (cK σ) (cH σ j)) k (mxC1 σ)) (nI (sumR (RQh (cH σ k) (hDm (cH σ k)) (hDu (cH σ k)) 1000) (hSc (cH σ k))))) (fiR (RQh (cH σ k) (hDm (cH σ k)) (hDu (cH σ k)) 1000) (DQh (cH σ k)) (hSc (cH σ k)))) (laR (RQh (cH σ k) (hDm (cH σ k)) (hDu (cH σ k)) 1000) (DQh (cH σ k)) (hSc (cH σ k))))]) rfl ?_
    refine V_lstore_n C [(2, .long (mx (mx (mx (upF (fun j => mxE (cS σ) (cK σ) (cH σ j)) k (mxC1 σ)) (nI (sumR (RQh (cH σ k) (hDm (cH σ k)) (hDu (cH σ k)) 1000) (hSc (cH σ k))))) (fiR (RQh (cH σ k) (hDm (cH σ k)) (hDu (cH σ k)) 1000) (DQh (cH σ k)) (hSc (cH σ k)))) (laR (RQh (cH σ k) (hDm (cH σ k)) (hDu (cH σ k)) 1000) (DQh (cH σ k)) (hSc (cH σ k))))), (9, .int (laR (RQh (cH σ k) (hDm (cH σ k)) (hDu (cH σ k)) 1000) (DQh (cH σ k)) (hSc (cH σ k)))), (8, .int (nI 2)), (7, .int (nI 4)), (6, .ref q1), (5, .ref q1), (4, .int (nI k)), (0, .ref (ad2 [i]))] dX7_digest_358 (by decide) rfl ?_
    refine V_iincn C [(8, .int (nI (2 + 1))), (2, .long (mx (mx (mx (upF (fun j => mxE (cS σ) (cK σ) (cH σ j)) k (mxC1 σ)) (nI (sumR (RQh (cH σ k) (hDm (cH σ k)) (hDu (cH σ k)) 1000) (hSc (cH σ k))))) (fiR (RQh (cH σ k) (hDm (cH σ k)) (hDu (cH σ k)) 1000) (DQh (cH σ k)) (hSc (cH σ k)))) (laR (RQh (cH σ k) (hDm (cH σ k)) (hDu (cH σ k)) 1000) (DQh (cH σ k)) (hSc (cH σ k))))), (9, .int (laR (RQh (cH σ k) (hDm (cH σ k)) (hDu (cH σ k)) 1000) (DQh (cH σ k)) (hSc (cH σ k)))), (7, .int (nI 4)), (6, .ref q1), (5, .ref q1), (4, .int (nI k)), (0, .ref (ad2 [i]))] dX7_digest_359 2 rfl (by decide) rfl ?_
    refine V_lvE (lv' := [(8, .int (nI 3)), (2, .long (mx (mx (mx (upF (fun j => mxE (cS σ) (cK σ) (cH σ j)) k (mxC1 σ)) (nI (sumR (RQh (cH σ k) (hDm (cH σ k)) (hDu (cH σ k)) 1000) (hSc (cH σ k))))) (fiR (RQh (cH σ k) (hDm (cH σ k)) (hDu (cH σ k)) 1000) (DQh (cH σ k)) (hSc (cH σ k)))) (laR (RQh (cH σ k) (hDm (cH σ k)) (hDu (cH σ k)) 1000) (DQh (cH σ k)) (hSc (cH σ k))))), (9, .int (laR (RQh (cH σ k) (hDm (cH σ k)) (hDu (cH σ k)) 1000) (DQh (cH σ k)) (hSc (cH σ k)))), (7, .int (nI 4)), (6, .ref q1), (5, .ref q1), (4, .int (nI k)), (0, .ref (ad2 [i]))]) rfl ?_
    refine V_goto (tgt := 335) C dX7_digest_362 (by decide) ?_
    refine V_iload C dX7_digest_335 0 rfl ?_
    refine V_iload C dX7_digest_337 3 rfl ?_
    refine V_icmpn_ge (tgt := 365) C dX7_digest_339 (by decide) (by decide) (by decide) (fun hb5 => by exfalso; omega) (fun hb5 => ?_)
    refine V_aload C dX7_digest_342 4 rfl ?_
    refine V_iload C dX7_digest_344 0 rfl ?_
    refine V_ialdn (v := ((ldR (RQh (cH σ k) (hDm (cH σ k)) (hDu (cH σ k)) 1000) (DQh (cH σ k)) (hSc (cH σ k)) (hSc (cH σ k))).1)) C dX7_digest_346 hq1 (QW_nil.trans wset_s) (by decide) (by decide) rfl ?_
    refine V_istore C [(9, .int ((ldR (RQh (cH σ k) (hDm (cH σ k)) (hDu (cH σ k)) 1000) (DQh (cH σ k)) (hSc (cH σ k)) (hSc (cH σ k))).1)), (8, .int (nI 3)), (2, .long (mx (mx (mx (upF (fun j => mxE (cS σ) (cK σ) (cH σ j)) k (mxC1 σ)) (nI (sumR (RQh (cH σ k) (hDm (cH σ k)) (hDu (cH σ k)) 1000) (hSc (cH σ k))))) (fiR (RQh (cH σ k) (hDm (cH σ k)) (hDu (cH σ k)) 1000) (DQh (cH σ k)) (hSc (cH σ k)))) (laR (RQh (cH σ k) (hDm (cH σ k)) (hDu (cH σ k)) 1000) (DQh (cH σ k)) (hSc (cH σ k))))), (7, .int (nI 4)), (6, .ref q1), (5, .ref q1), (4, .int (nI k)), (0, .ref (ad2 [i]))] dX7_digest_347 (by decide) rfl ?_
    refine V_lload_n C dX7_digest_349 2 rfl ?_
    refine V_ldc2 C dX7_digest_350 tw_965 ?_
    refine V_lmul C dX7_digest_353 ?_
    refine V_iload C dX7_digest_354 0 rfl ?_
    refine V_i2l C dX7_digest_356 rfl ?_
    refine V_ladd C dX7_digest_357 ?_
    refine V_stE (st' := [.long (mx (mx (mx (mx (upF (fun j => mxE (cS σ) (cK σ) (cH σ j)) k (mxC1 σ)) (nI (sumR (RQh (cH σ k) (hDm (cH σ k)) (hDu (cH σ k)) 1000) (hSc (cH σ k))))) (fiR (RQh (cH σ k) (hDm (cH σ k)) (hDu (cH σ k)) 1000) (DQh (cH σ k)) (hSc (cH σ k)))) (laR (RQh (cH σ k) (hDm (cH σ k)) (hDu (cH σ k)) 1000) (DQh (cH σ k)) (hSc (cH σ k)))) ((ldR (RQh (cH σ k) (hDm (cH σ k)) (hDu (cH σ k)) 1000) (DQh (cH σ k)) (hSc (cH σ k)) (hSc (cH σ k))).1))]) rfl ?_
    refine V_lstore_n C [(2, .long (mx (mx (mx (mx (upF (fun j => mxE (cS σ) (cK σ) (cH σ j)) k (mxC1 σ)) (nI (sumR (RQh (cH σ k) (hDm (cH σ k)) (hDu (cH σ k)) 1000) (hSc (cH σ k))))) (fiR (RQh (cH σ k) (hDm (cH σ k)) (hDu (cH σ k)) 1000) (DQh (cH σ k)) (hSc (cH σ k)))) (laR (RQh (cH σ k) (hDm (cH σ k)) (hDu (cH σ k)) 1000) (DQh (cH σ k)) (hSc (cH σ k)))) ((ldR (RQh (cH σ k) (hDm (cH σ k)) (hDu (cH σ k)) 1000) (DQh (cH σ k)) (hSc (cH σ k)) (hSc (cH σ k))).1))), (9, .int ((ldR (RQh (cH σ k) (hDm (cH σ k)) (hDu (cH σ k)) 1000) (DQh (cH σ k)) (hSc (cH σ k)) (hSc (cH σ k))).1)), (8, .int (nI 3)), (7, .int (nI 4)), (6, .ref q1), (5, .ref q1), (4, .int (nI k)), (0, .ref (ad2 [i]))] dX7_digest_358 (by decide) rfl ?_
    refine V_iincn C [(8, .int (nI (3 + 1))), (2, .long (mx (mx (mx (mx (upF (fun j => mxE (cS σ) (cK σ) (cH σ j)) k (mxC1 σ)) (nI (sumR (RQh (cH σ k) (hDm (cH σ k)) (hDu (cH σ k)) 1000) (hSc (cH σ k))))) (fiR (RQh (cH σ k) (hDm (cH σ k)) (hDu (cH σ k)) 1000) (DQh (cH σ k)) (hSc (cH σ k)))) (laR (RQh (cH σ k) (hDm (cH σ k)) (hDu (cH σ k)) 1000) (DQh (cH σ k)) (hSc (cH σ k)))) ((ldR (RQh (cH σ k) (hDm (cH σ k)) (hDu (cH σ k)) 1000) (DQh (cH σ k)) (hSc (cH σ k)) (hSc (cH σ k))).1))), (9, .int ((ldR (RQh (cH σ k) (hDm (cH σ k)) (hDu (cH σ k)) 1000) (DQh (cH σ k)) (hSc (cH σ k)) (hSc (cH σ k))).1)), (7, .int (nI 4)), (6, .ref q1), (5, .ref q1), (4, .int (nI k)), (0, .ref (ad2 [i]))] dX7_digest_359 2 rfl (by decide) rfl ?_
    refine V_lvE (lv' := [(8, .int (nI 4)), (2, .long (mx (mx (mx (mx (upF (fun j => mxE (cS σ) (cK σ) (cH σ j)) k (mxC1 σ)) (nI (sumR (RQh (cH σ k) (hDm (cH σ k)) (hDu (cH σ k)) 1000) (hSc (cH σ k))))) (fiR (RQh (cH σ k) (hDm (cH σ k)) (hDu (cH σ k)) 1000) (DQh (cH σ k)) (hSc (cH σ k)))) (laR (RQh (cH σ k) (hDm (cH σ k)) (hDu (cH σ k)) 1000) (DQh (cH σ k)) (hSc (cH σ k)))) ((ldR (RQh (cH σ k) (hDm (cH σ k)) (hDu (cH σ k)) 1000) (DQh (cH σ k)) (hSc (cH σ k)) (hSc (cH σ k))).1))), (9, .int ((ldR (RQh (cH σ k) (hDm (cH σ k)) (hDu (cH σ k)) 1000) (DQh (cH σ k)) (hSc (cH σ k)) (hSc (cH σ k))).1)), (7, .int (nI 4)), (6, .ref q1), (5, .ref q1), (4, .int (nI k)), (0, .ref (ad2 [i]))]) rfl ?_
    refine V_goto (tgt := 335) C dX7_digest_362 (by decide) ?_
    refine V_iload C dX7_digest_335 0 rfl ?_
    refine V_iload C dX7_digest_337 3 rfl ?_
    refine V_icmpn_ge (tgt := 365) C dX7_digest_339 (by decide) (by decide) (by decide) (fun hb6 => ?_) (fun hb6 => by exfalso; omega)
    refine V_less (w' := QW i ad2 σ (nI 0) (nI (hSc (cH σ k))) (clLo (cH σ k) (hDm (cH σ k)) (hDu (cH σ k)) 1000 (hSc (cH σ k)) lo) (clMa (cH σ k) (hDm (cH σ k)) (hDu (cH σ k)) 1000 (hSc (cH σ k)) ma) (clAp (cH σ k) (hSc (cH σ k)) ap) o) (fun L e hL => ?_) ?_
    · rcases L with _ | ⟨a, b⟩
      · exact absurd (hL.symm.trans (QW_nil.trans ho)) (by simp)
      · rw [← hL]; show (if a = i then _ else wset o [] _ (a :: b)) = (if a = i then _ else o (a :: b)); rw [wset_n (by simp)]
    refine V_adr (ad' := ad) (fun L hL => ?_) ?_
    · rcases L with _ | ⟨a, b⟩
      · exact absurd (QW_nil.trans ho) hL
      · exact (hAn _ (by simp)).symm
    refine V_wd (w' := QW i ad σ (nI 0) (nI (hSc (cH σ k))) (clLo (cH σ k) (hDm (cH σ k)) (hDu (cH σ k)) 1000 (hSc (cH σ k)) lo) (clMa (cH σ k) (hDm (cH σ k)) (hDu (cH σ k)) 1000 (hSc (cH σ k)) ma) (clAp (cH σ k) (hSc (cH σ k)) ap) o) (QW_ad (fun c => hAn _ (by simp))) ?_
    refine V_lv [1, 6, 7] rfl ?_
    refine V_lvE (lv' := [(2, .long (mx (mx (mx (mx (upF (fun j => mxE (cS σ) (cK σ) (cH σ j)) k (mxC1 σ)) (nI (sumR (RQh (cH σ k) (hDm (cH σ k)) (hDu (cH σ k)) 1000) (hSc (cH σ k))))) (fiR (RQh (cH σ k) (hDm (cH σ k)) (hDu (cH σ k)) 1000) (DQh (cH σ k)) (hSc (cH σ k)))) (laR (RQh (cH σ k) (hDm (cH σ k)) (hDu (cH σ k)) 1000) (DQh (cH σ k)) (hSc (cH σ k)))) ((ldR (RQh (cH σ k) (hDm (cH σ k)) (hDu (cH σ k)) 1000) (DQh (cH σ k)) (hSc (cH σ k)) (hSc (cH σ k))).1))), (4, .int (nI k)), (0, .ref (ad [i]))]) (by rw [e0]; rfl) ?_
    refine V_lvE (lv' := [(2, .long (mxE0 (cH σ k) (upF (fun j => mxE (cS σ) (cK σ) (cH σ j)) k (mxC1 σ)))), (4, .int (nI k)), (0, .ref (ad [i]))]) (by rw [mxE0, tly_rows hu (show 1000 ≤ 1000 by decide), loudest_rows hu (show 1000 ≤ 1000 by decide)]) ?_
    refine V_iconst (v := nI 0) C dX7_digest_365 (by decide) ?_
    refine V_istore C [(6, .int (nI 0)), (2, .long (mxE0 (cH σ k) (upF (fun j => mxE (cS σ) (cK σ) (cH σ j)) k (mxC1 σ)))), (4, .int (nI k)), (0, .ref (ad [i]))] dX7_digest_366 (by decide) rfl ?_
    refine V_lv [0, 1, 2, 3] rfl ?_
    refine lp_ds (x := mxE0 (cH σ k) (upF (fun j => mxE (cS σ) (cK σ) (cH σ j)) k (mxC1 σ))) C hl hr (by omega) hσ ho hks (by omega) (by omega) (cK σ) 0 _ _ _ _ (by omega) (fun ro lo ma ap => ?_)
    refine V_lvE (lv' := [(2, .long (upF (fun j => mxE (cS σ) (cK σ) (cH σ j)) (k + 1) (mxC1 σ))), (4, .int (nI k)), (0, .ref (ad [i]))]) rfl ?_
    refine V_iincn C [(4, .int (nI (k + 1))), (2, .long (upF (fun j => mxE (cS σ) (cK σ) (cH σ j)) (k + 1) (mxC1 σ))), (0, .ref (ad [i]))] dX7_digest_407 1 rfl (by decide) rfl ?_
    refine V_goto (tgt := 272) C dX7_digest_410 (by decide) ?_
    refine V_lvE (lv' := [(4, .int (nI (k + 1))), (2, .long (upF (fun j => mxE (cS σ) (cK σ) (cH σ j)) (k + 1) (mxC1 σ))), (0, .ref (ad [i]))]) rfl ?_
    refine V_cs (cells' := 9 + (k + 1)) (slots' := 45 + 4 * (k + 1)) (by omega) (by omega) ?_
    refine V_lv [0, 1, 2] rfl ?_
    exact ih (k + 1) _ _ _ _ (by omega)
set_option maxHeartbeats 4000000 in
theorem lp_d1 {p : Program} {l : Launch} {e : Env} {s : State} {m : MethodId} {args : Array Value} {below : List Frame} {meth : Method} {c : Code} {D : va_G} {ba d mc ms : Nat} {ad : Adr} {QR : Option Value → Adr → Wd → Prop} {QX : String → Adr → Wd → Prop} (C : Cx p l s m args meth c D ba RX7 cX7_digest 10 [] d) (hl : l.stackTraces = false) (hr : meth.sig.returnType = (some .long)) (hd : 10 ≤ d) {i : Nat} {σ : CS} {o : Wd} (hσ : cOK σ) (ho : o [] = none) {ro : Int32} {lo ma ap : Nat → Int32} (hmc : 20 ≤ mc) (hms : 100 ≤ ms) (hq1 : ∀ ro lo ma ap, QR (some (.long (mxC σ))) ad (QW i ad σ (nI 0) ro lo ma ap o))  : ∀ (n : Nat) (k : Nat), k + n = cN σ → V p l e s m args below meth c D ba d mc ms (MO D ba QR QX below args s mc ms) 10 ad (QW i ad σ (nI 0) ro lo ma ap o) 92 [(4, .int (nI k)), (2, .long (upF (fun j => mxH (cH σ j)) k (mxC0 σ))), (0, .ref (ad [i]))] [] (1 + k) (5 + 5 * k) := by
  intro n
  induction n with
  | zero =>
    intro k hk
    have hσ1 := hσ.1
    refine V_iload C dX7_digest_92 0 rfl ?_
    refine V_aload_n C dX7_digest_94 2 rfl ?_
    refine V_get (ci := 6) (k := 1) C dX7_digest_95 RX7 RX7 TX7 17 fw_X7 rfl (by decide) tw_669 rfl rfl QW_o rfl ?_
    refine V_icmpn_ge (tgt := 269) C dX7_digest_98 (by decide) (by omega) (by omega) (fun hb1 => ?_) (fun hb1 => by exfalso; omega)
    rw [show k = cN σ by omega]
    refine V_lvE (lv' := [(4, .int (nI (cN σ))), (2, .long (mxC1 σ)), (0, .ref (ad [i]))]) (by rw [mxC1]) ?_
    refine V_iconst (v := nI 0) C dX7_digest_269 (by decide) ?_
    refine V_istore C [(4, .int (nI 0)), (2, .long (mxC1 σ)), (0, .ref (ad [i]))] dX7_digest_270 (by decide) rfl ?_
    refine V_cs (cells' := 9 + 0) (slots' := 45 + 4 * 0) (by omega) (by omega) ?_
    refine V_lv [0, 1, 2] rfl ?_
    exact lp_d2 C hl hr (by omega) hσ ho hmc hms hq1 (cN σ) 0 _ _ _ _ (by omega)
  | succ n ih =>
    intro k hk
    have hσ1 := hσ.1
    have hks : k < cN σ := by omega
    have hu := hσ.2.2.1 k hks
    refine V_iload C dX7_digest_92 0 rfl ?_
    refine V_aload_n C dX7_digest_94 2 rfl ?_
    refine V_get (ci := 6) (k := 1) C dX7_digest_95 RX7 RX7 TX7 17 fw_X7 rfl (by decide) tw_669 rfl rfl QW_o rfl ?_
    refine V_icmpn_ge (tgt := 269) C dX7_digest_98 (by decide) (by omega) (by omega) (fun hb1 => by exfalso; omega) (fun hb1 => ?_)
    refine V_iconst (v := nI 5) C dX7_digest_101 (by decide) ?_
    refine V_newI (N := 5) C [] dX7_digest_102 tw_69 (by decide) (by decide) (by decide) (QW_nil.trans ho) (by omega) (by omega) (fun q1 => ?_)
    obtain ⟨ad2, hA⟩ : ∃ ad2, ad2 = aset ad [] q1 := ⟨_, rfl⟩
    rw [← hA]
    have hq1 : q1 = ad2 [] := by rw [hA]; exact aset_s.symm
    have hAn : ∀ L, L ≠ [] → ad2 L = ad L := fun L hL => by rw [hA]; exact aset_n hL
    have e0 : ad [i] = ad2 [i] := (hAn _ (by simp)).symm
    refine V_wd (w' := QW i ad2 σ (nI 0) ro lo ma ap (wset o [] (eI 5 (fun _ => 0)))) (by rw [QW_tmp]; exact (QW_ad (fun c => hAn _ (by simp))).symm) ?_
    rw [e0]
    refine V_dup C dX7_digest_104 rfl ?_
    refine V_iconst (v := nI 0) C dX7_digest_105 (by decide) ?_
    refine V_aload_n C dX7_digest_106 2 rfl ?_
    refine V_get (ci := 6) (k := 5) C dX7_digest_107 RX7 RX7 TX7 17 fw_X7 rfl (by decide) tw_673 rfl rfl QW_o rfl ?_
    refine V_iload C dX7_digest_110 0 rfl ?_
    refine V_ialdn (v := (nI (hSc (cH σ k)))) C dX7_digest_112 rfl QW_1 (by omega) (by decide) (row0_in hks) ?_
    refine V_iastn C dX7_digest_113 hq1 (QW_nil.trans wset_s) (by omega) (by decide) ?_
    refine V_wd (w' := wset (QW i ad2 σ (nI 0) ro lo ma ap (wset o [] (eI 5 (fun _ => 0)))) ([]) (eI 5 (upd (fun _ => 0) 0 (nI (hSc (cH σ k)))))) rfl ?_
    refine V_wd (w' := QW i ad2 σ (nI 0) ro lo ma ap (wset o [] (eI 5 (upd (fun _ => 0) 0 (nI (hSc (cH σ k))))))) QW_tmp2 ?_
    refine V_dup C dX7_digest_114 rfl ?_
    refine V_iconst (v := nI 1) C dX7_digest_115 (by decide) ?_
    refine V_aload_n C dX7_digest_116 2 rfl ?_
    refine V_get (ci := 6) (k := 6) C dX7_digest_117 RX7 RX7 TX7 17 fw_X7 rfl (by decide) tw_674 rfl rfl QW_o rfl ?_
    refine V_iload C dX7_digest_120 0 rfl ?_
    refine V_ialdn (v := (nI (hDm (cH σ k)))) C dX7_digest_122 rfl QW_2 (by omega) (by decide) (row0_in hks) ?_
    refine V_iastn C dX7_digest_123 hq1 (QW_nil.trans wset_s) (by omega) (by decide) ?_
    refine V_wd (w' := wset (QW i ad2 σ (nI 0) ro lo ma ap (wset o [] (eI 5 (upd (fun _ => 0) 0 (nI (hSc (cH σ k))))))) ([]) (eI 5 (upd (upd (fun _ => 0) 0 (nI (hSc (cH σ k)))) 1 (nI (hDm (cH σ k)))))) rfl ?_
    refine V_wd (w' := QW i ad2 σ (nI 0) ro lo ma ap (wset o [] (eI 5 (upd (upd (fun _ => 0) 0 (nI (hSc (cH σ k)))) 1 (nI (hDm (cH σ k))))))) QW_tmp2 ?_
    refine V_dup C dX7_digest_124 rfl ?_
    refine V_iconst (v := nI 2) C dX7_digest_125 (by decide) ?_
    refine V_aload_n C dX7_digest_126 2 rfl ?_
    refine V_get (ci := 6) (k := 7) C dX7_digest_127 RX7 RX7 TX7 17 fw_X7 rfl (by decide) tw_675 rfl rfl QW_o rfl ?_
    refine V_iload C dX7_digest_130 0 rfl ?_
    refine V_ialdn (v := (nI (hDu (cH σ k)))) C dX7_digest_132 rfl QW_3 (by omega) (by decide) (row0_in hks) ?_
    refine V_iastn C dX7_digest_133 hq1 (QW_nil.trans wset_s) (by omega) (by decide) ?_
    refine V_wd (w' := wset (QW i ad2 σ (nI 0) ro lo ma ap (wset o [] (eI 5 (upd (upd (fun _ => 0) 0 (nI (hSc (cH σ k)))) 1 (nI (hDm (cH σ k))))))) ([]) (eI 5 (upd (upd (upd (fun _ => 0) 0 (nI (hSc (cH σ k)))) 1 (nI (hDm (cH σ k)))) 2 (nI (hDu (cH σ k)))))) rfl ?_
    refine V_wd (w' := QW i ad2 σ (nI 0) ro lo ma ap (wset o [] (eI 5 (upd (upd (upd (fun _ => 0) 0 (nI (hSc (cH σ k)))) 1 (nI (hDm (cH σ k)))) 2 (nI (hDu (cH σ k))))))) QW_tmp2 ?_
    refine V_dup C dX7_digest_134 rfl ?_
    refine V_iconst (v := nI 3) C dX7_digest_135 (by decide) ?_
    refine V_aload_n C dX7_digest_136 2 rfl ?_
    refine V_get (ci := 6) (k := 8) C dX7_digest_137 RX7 RX7 TX7 17 fw_X7 rfl (by decide) tw_676 rfl rfl QW_o rfl ?_
    refine V_iload C dX7_digest_140 0 rfl ?_
    refine V_ialdn (v := (hCe (cH σ k))) C dX7_digest_142 rfl QW_4 (by omega) (by decide) (row0_in hks) ?_
    refine V_iastn C dX7_digest_143 hq1 (QW_nil.trans wset_s) (by omega) (by decide) ?_
    refine V_wd (w' := wset (QW i ad2 σ (nI 0) ro lo ma ap (wset o [] (eI 5 (upd (upd (upd (fun _ => 0) 0 (nI (hSc (cH σ k)))) 1 (nI (hDm (cH σ k)))) 2 (nI (hDu (cH σ k))))))) ([]) (eI 5 (upd (upd (upd (upd (fun _ => 0) 0 (nI (hSc (cH σ k)))) 1 (nI (hDm (cH σ k)))) 2 (nI (hDu (cH σ k)))) 3 (hCe (cH σ k))))) rfl ?_
    refine V_wd (w' := QW i ad2 σ (nI 0) ro lo ma ap (wset o [] (eI 5 (upd (upd (upd (upd (fun _ => 0) 0 (nI (hSc (cH σ k)))) 1 (nI (hDm (cH σ k)))) 2 (nI (hDu (cH σ k)))) 3 (hCe (cH σ k)))))) QW_tmp2 ?_
    refine V_dup C dX7_digest_144 rfl ?_
    refine V_iconst (v := nI 4) C dX7_digest_145 (by decide) ?_
    refine V_aload_n C dX7_digest_146 2 rfl ?_
    refine V_get (ci := 6) (k := 9) C dX7_digest_147 RX7 RX7 TX7 17 fw_X7 rfl (by decide) tw_677 rfl rfl QW_o rfl ?_
    refine V_iload C dX7_digest_150 0 rfl ?_
    refine V_ialdn (v := (nI (hDy (cH σ k)))) C dX7_digest_152 rfl QW_5 (by omega) (by decide) (row0_in hks) ?_
    refine V_iastn C dX7_digest_153 hq1 (QW_nil.trans wset_s) (by omega) (by decide) ?_
    refine V_wd (w' := wset (QW i ad2 σ (nI 0) ro lo ma ap (wset o [] (eI 5 (upd (upd (upd (upd (fun _ => 0) 0 (nI (hSc (cH σ k)))) 1 (nI (hDm (cH σ k)))) 2 (nI (hDu (cH σ k)))) 3 (hCe (cH σ k)))))) ([]) (eI 5 (upd (upd (upd (upd (upd (fun _ => 0) 0 (nI (hSc (cH σ k)))) 1 (nI (hDm (cH σ k)))) 2 (nI (hDu (cH σ k)))) 3 (hCe (cH σ k))) 4 (nI (hDy (cH σ k)))))) rfl ?_
    refine V_wd (w' := QW i ad2 σ (nI 0) ro lo ma ap (wset o [] (eI 5 (upd (upd (upd (upd (upd (fun _ => 0) 0 (nI (hSc (cH σ k)))) 1 (nI (hDm (cH σ k)))) 2 (nI (hDu (cH σ k)))) 3 (hCe (cH σ k))) 4 (nI (hDy (cH σ k))))))) QW_tmp2 ?_
    refine V_astore C [(5, .ref q1), (4, .int (nI k)), (2, .long (upF (fun j => mxH (cH σ j)) k (mxC0 σ))), (0, .ref (ad2 [i]))] dX7_digest_154 (by decide) rfl ?_
    refine V_aload C dX7_digest_156 0 rfl ?_
    refine V_astore C [(6, .ref q1), (5, .ref q1), (4, .int (nI k)), (2, .long (upF (fun j => mxH (cH σ j)) k (mxC0 σ))), (0, .ref (ad2 [i]))] dX7_digest_158 (by decide) rfl ?_
    refine V_aload C dX7_digest_160 0 rfl ?_
    refine V_alen (v := nI 5) C dX7_digest_162 hq1 (QW_nil.trans wset_s) rfl ?_
    refine V_istore C [(7, .int (nI 5)), (6, .ref q1), (5, .ref q1), (4, .int (nI k)), (2, .long (upF (fun j => mxH (cH σ j)) k (mxC0 σ))), (0, .ref (ad2 [i]))] dX7_digest_163 (by decide) rfl ?_
    refine V_iconst (v := nI 0) C dX7_digest_165 (by decide) ?_
    refine V_istore C [(8, .int (nI 0)), (7, .int (nI 5)), (6, .ref q1), (5, .ref q1), (4, .int (nI k)), (2, .long (upF (fun j => mxH (cH σ j)) k (mxC0 σ))), (0, .ref (ad2 [i]))] dX7_digest_166 (by decide) rfl ?_
    refine V_iload C dX7_digest_168 0 rfl ?_
    refine V_iload C dX7_digest_170 1 rfl ?_
    refine V_icmpn_ge (tgt := 198) C dX7_digest_172 (by decide) (by decide) (by decide) (fun hb2 => by exfalso; omega) (fun hb2 => ?_)
    refine V_aload C dX7_digest_175 2 rfl ?_
    refine V_iload C dX7_digest_177 0 rfl ?_
    refine V_ialdn (v := (nI (hSc (cH σ k)))) C dX7_digest_179 hq1 (QW_nil.trans wset_s) (by decide) (by decide) rfl ?_
    refine V_istore C [(9, .int (nI (hSc (cH σ k)))), (8, .int (nI 0)), (7, .int (nI 5)), (6, .ref q1), (5, .ref q1), (4, .int (nI k)), (2, .long (upF (fun j => mxH (cH σ j)) k (mxC0 σ))), (0, .ref (ad2 [i]))] dX7_digest_180 (by decide) rfl ?_
    refine V_lload_n C dX7_digest_182 6 rfl ?_
    refine V_ldc2 C dX7_digest_183 tw_965 ?_
    refine V_lmul C dX7_digest_186 ?_
    refine V_iload C dX7_digest_187 0 rfl ?_
    refine V_i2l C dX7_digest_189 rfl ?_
    refine V_ladd C dX7_digest_190 ?_
    refine V_stE (st' := [.long (mx (upF (fun j => mxH (cH σ j)) k (mxC0 σ)) (nI (hSc (cH σ k))))]) rfl ?_
    refine V_lstore_n C [(2, .long (mx (upF (fun j => mxH (cH σ j)) k (mxC0 σ)) (nI (hSc (cH σ k))))), (9, .int (nI (hSc (cH σ k)))), (8, .int (nI 0)), (7, .int (nI 5)), (6, .ref q1), (5, .ref q1), (4, .int (nI k)), (0, .ref (ad2 [i]))] dX7_digest_191 (by decide) rfl ?_
    refine V_iincn C [(8, .int (nI (0 + 1))), (2, .long (mx (upF (fun j => mxH (cH σ j)) k (mxC0 σ)) (nI (hSc (cH σ k))))), (9, .int (nI (hSc (cH σ k)))), (7, .int (nI 5)), (6, .ref q1), (5, .ref q1), (4, .int (nI k)), (0, .ref (ad2 [i]))] dX7_digest_192 2 rfl (by decide) rfl ?_
    refine V_lvE (lv' := [(8, .int (nI 1)), (2, .long (mx (upF (fun j => mxH (cH σ j)) k (mxC0 σ)) (nI (hSc (cH σ k))))), (9, .int (nI (hSc (cH σ k)))), (7, .int (nI 5)), (6, .ref q1), (5, .ref q1), (4, .int (nI k)), (0, .ref (ad2 [i]))]) rfl ?_
    refine V_goto (tgt := 168) C dX7_digest_195 (by decide) ?_
    refine V_iload C dX7_digest_168 0 rfl ?_
    refine V_iload C dX7_digest_170 3 rfl ?_
    refine V_icmpn_ge (tgt := 198) C dX7_digest_172 (by decide) (by decide) (by decide) (fun hb3 => by exfalso; omega) (fun hb3 => ?_)
    refine V_aload C dX7_digest_175 4 rfl ?_
    refine V_iload C dX7_digest_177 0 rfl ?_
    refine V_ialdn (v := (nI (hDm (cH σ k)))) C dX7_digest_179 hq1 (QW_nil.trans wset_s) (by decide) (by decide) rfl ?_
    refine V_istore C [(9, .int (nI (hDm (cH σ k)))), (8, .int (nI 1)), (2, .long (mx (upF (fun j => mxH (cH σ j)) k (mxC0 σ)) (nI (hSc (cH σ k))))), (7, .int (nI 5)), (6, .ref q1), (5, .ref q1), (4, .int (nI k)), (0, .ref (ad2 [i]))] dX7_digest_180 (by decide) rfl ?_
    refine V_lload_n C dX7_digest_182 2 rfl ?_
    refine V_ldc2 C dX7_digest_183 tw_965 ?_
    refine V_lmul C dX7_digest_186 ?_
    refine V_iload C dX7_digest_187 0 rfl ?_
    refine V_i2l C dX7_digest_189 rfl ?_
    refine V_ladd C dX7_digest_190 ?_
    refine V_stE (st' := [.long (mx (mx (upF (fun j => mxH (cH σ j)) k (mxC0 σ)) (nI (hSc (cH σ k)))) (nI (hDm (cH σ k))))]) rfl ?_
    refine V_lstore_n C [(2, .long (mx (mx (upF (fun j => mxH (cH σ j)) k (mxC0 σ)) (nI (hSc (cH σ k)))) (nI (hDm (cH σ k))))), (9, .int (nI (hDm (cH σ k)))), (8, .int (nI 1)), (7, .int (nI 5)), (6, .ref q1), (5, .ref q1), (4, .int (nI k)), (0, .ref (ad2 [i]))] dX7_digest_191 (by decide) rfl ?_
    refine V_iincn C [(8, .int (nI (1 + 1))), (2, .long (mx (mx (upF (fun j => mxH (cH σ j)) k (mxC0 σ)) (nI (hSc (cH σ k)))) (nI (hDm (cH σ k))))), (9, .int (nI (hDm (cH σ k)))), (7, .int (nI 5)), (6, .ref q1), (5, .ref q1), (4, .int (nI k)), (0, .ref (ad2 [i]))] dX7_digest_192 2 rfl (by decide) rfl ?_
    refine V_lvE (lv' := [(8, .int (nI 2)), (2, .long (mx (mx (upF (fun j => mxH (cH σ j)) k (mxC0 σ)) (nI (hSc (cH σ k)))) (nI (hDm (cH σ k))))), (9, .int (nI (hDm (cH σ k)))), (7, .int (nI 5)), (6, .ref q1), (5, .ref q1), (4, .int (nI k)), (0, .ref (ad2 [i]))]) rfl ?_
    refine V_goto (tgt := 168) C dX7_digest_195 (by decide) ?_
    refine V_iload C dX7_digest_168 0 rfl ?_
    refine V_iload C dX7_digest_170 3 rfl ?_
    refine V_icmpn_ge (tgt := 198) C dX7_digest_172 (by decide) (by decide) (by decide) (fun hb4 => by exfalso; omega) (fun hb4 => ?_)
    refine V_aload C dX7_digest_175 4 rfl ?_
    refine V_iload C dX7_digest_177 0 rfl ?_
    refine V_ialdn (v := (nI (hDu (cH σ k)))) C dX7_digest_179 hq1 (QW_nil.trans wset_s) (by decide) (by decide) rfl ?_
    refine V_istore C [(9, .int (nI (hDu (cH σ k)))), (8, .int (nI 2)), (2, .long (mx (mx (upF (fun j => mxH (cH σ j)) k (mxC0 σ)) (nI (hSc (cH σ k)))) (nI (hDm (cH σ k))))), (7, .int (nI 5)), (6, .ref q1), (5, .ref q1), (4, .int (nI k)), (0, .ref (ad2 [i]))] dX7_digest_180 (by decide) rfl ?_
    refine V_lload_n C dX7_digest_182 2 rfl ?_
    refine V_ldc2 C dX7_digest_183 tw_965 ?_
    refine V_lmul C dX7_digest_186 ?_
    refine V_iload C dX7_digest_187 0 rfl ?_
    refine V_i2l C dX7_digest_189 rfl ?_
    refine V_ladd C dX7_digest_190 ?_
    refine V_stE (st' := [.long (mx (mx (mx (upF (fun j => mxH (cH σ j)) k (mxC0 σ)) (nI (hSc (cH σ k)))) (nI (hDm (cH σ k)))) (nI (hDu (cH σ k))))]) rfl ?_
    refine V_lstore_n C [(2, .long (mx (mx (mx (upF (fun j => mxH (cH σ j)) k (mxC0 σ)) (nI (hSc (cH σ k)))) (nI (hDm (cH σ k)))) (nI (hDu (cH σ k))))), (9, .int (nI (hDu (cH σ k)))), (8, .int (nI 2)), (7, .int (nI 5)), (6, .ref q1), (5, .ref q1), (4, .int (nI k)), (0, .ref (ad2 [i]))] dX7_digest_191 (by decide) rfl ?_
    refine V_iincn C [(8, .int (nI (2 + 1))), (2, .long (mx (mx (mx (upF (fun j => mxH (cH σ j)) k (mxC0 σ)) (nI (hSc (cH σ k)))) (nI (hDm (cH σ k)))) (nI (hDu (cH σ k))))), (9, .int (nI (hDu (cH σ k)))), (7, .int (nI 5)), (6, .ref q1), (5, .ref q1), (4, .int (nI k)), (0, .ref (ad2 [i]))] dX7_digest_192 2 rfl (by decide) rfl ?_
    refine V_lvE (lv' := [(8, .int (nI 3)), (2, .long (mx (mx (mx (upF (fun j => mxH (cH σ j)) k (mxC0 σ)) (nI (hSc (cH σ k)))) (nI (hDm (cH σ k)))) (nI (hDu (cH σ k))))), (9, .int (nI (hDu (cH σ k)))), (7, .int (nI 5)), (6, .ref q1), (5, .ref q1), (4, .int (nI k)), (0, .ref (ad2 [i]))]) rfl ?_
    refine V_goto (tgt := 168) C dX7_digest_195 (by decide) ?_
    refine V_iload C dX7_digest_168 0 rfl ?_
    refine V_iload C dX7_digest_170 3 rfl ?_
    refine V_icmpn_ge (tgt := 198) C dX7_digest_172 (by decide) (by decide) (by decide) (fun hb5 => by exfalso; omega) (fun hb5 => ?_)
    refine V_aload C dX7_digest_175 4 rfl ?_
    refine V_iload C dX7_digest_177 0 rfl ?_
    refine V_ialdn (v := (hCe (cH σ k))) C dX7_digest_179 hq1 (QW_nil.trans wset_s) (by decide) (by decide) rfl ?_
    refine V_istore C [(9, .int (hCe (cH σ k))), (8, .int (nI 3)), (2, .long (mx (mx (mx (upF (fun j => mxH (cH σ j)) k (mxC0 σ)) (nI (hSc (cH σ k)))) (nI (hDm (cH σ k)))) (nI (hDu (cH σ k))))), (7, .int (nI 5)), (6, .ref q1), (5, .ref q1), (4, .int (nI k)), (0, .ref (ad2 [i]))] dX7_digest_180 (by decide) rfl ?_
    refine V_lload_n C dX7_digest_182 2 rfl ?_
    refine V_ldc2 C dX7_digest_183 tw_965 ?_
    refine V_lmul C dX7_digest_186 ?_
    refine V_iload C dX7_digest_187 0 rfl ?_
    refine V_i2l C dX7_digest_189 rfl ?_
    refine V_ladd C dX7_digest_190 ?_
    refine V_stE (st' := [.long (mx (mx (mx (mx (upF (fun j => mxH (cH σ j)) k (mxC0 σ)) (nI (hSc (cH σ k)))) (nI (hDm (cH σ k)))) (nI (hDu (cH σ k)))) (hCe (cH σ k)))]) rfl ?_
    refine V_lstore_n C [(2, .long (mx (mx (mx (mx (upF (fun j => mxH (cH σ j)) k (mxC0 σ)) (nI (hSc (cH σ k)))) (nI (hDm (cH σ k)))) (nI (hDu (cH σ k)))) (hCe (cH σ k)))), (9, .int (hCe (cH σ k))), (8, .int (nI 3)), (7, .int (nI 5)), (6, .ref q1), (5, .ref q1), (4, .int (nI k)), (0, .ref (ad2 [i]))] dX7_digest_191 (by decide) rfl ?_
    refine V_iincn C [(8, .int (nI (3 + 1))), (2, .long (mx (mx (mx (mx (upF (fun j => mxH (cH σ j)) k (mxC0 σ)) (nI (hSc (cH σ k)))) (nI (hDm (cH σ k)))) (nI (hDu (cH σ k)))) (hCe (cH σ k)))), (9, .int (hCe (cH σ k))), (7, .int (nI 5)), (6, .ref q1), (5, .ref q1), (4, .int (nI k)), (0, .ref (ad2 [i]))] dX7_digest_192 2 rfl (by decide) rfl ?_
    refine V_lvE (lv' := [(8, .int (nI 4)), (2, .long (mx (mx (mx (mx (upF (fun j => mxH (cH σ j)) k (mxC0 σ)) (nI (hSc (cH σ k)))) (nI (hDm (cH σ k)))) (nI (hDu (cH σ k)))) (hCe (cH σ k)))), (9, .int (hCe (cH σ k))), (7, .int (nI 5)), (6, .ref q1), (5, .ref q1), (4, .int (nI k)), (0, .ref (ad2 [i]))]) rfl ?_
    refine V_goto (tgt := 168) C dX7_digest_195 (by decide) ?_
    refine V_iload C dX7_digest_168 0 rfl ?_
    refine V_iload C dX7_digest_170 3 rfl ?_
    refine V_icmpn_ge (tgt := 198) C dX7_digest_172 (by decide) (by decide) (by decide) (fun hb6 => by exfalso; omega) (fun hb6 => ?_)
    refine V_aload C dX7_digest_175 4 rfl ?_
    refine V_iload C dX7_digest_177 0 rfl ?_
    refine V_ialdn (v := (nI (hDy (cH σ k)))) C dX7_digest_179 hq1 (QW_nil.trans wset_s) (by decide) (by decide) rfl ?_
    refine V_istore C [(9, .int (nI (hDy (cH σ k)))), (8, .int (nI 4)), (2, .long (mx (mx (mx (mx (upF (fun j => mxH (cH σ j)) k (mxC0 σ)) (nI (hSc (cH σ k)))) (nI (hDm (cH σ k)))) (nI (hDu (cH σ k)))) (hCe (cH σ k)))), (7, .int (nI 5)), (6, .ref q1), (5, .ref q1), (4, .int (nI k)), (0, .ref (ad2 [i]))] dX7_digest_180 (by decide) rfl ?_
    refine V_lload_n C dX7_digest_182 2 rfl ?_
    refine V_ldc2 C dX7_digest_183 tw_965 ?_
    refine V_lmul C dX7_digest_186 ?_
    refine V_iload C dX7_digest_187 0 rfl ?_
    refine V_i2l C dX7_digest_189 rfl ?_
    refine V_ladd C dX7_digest_190 ?_
    refine V_stE (st' := [.long (mx (mx (mx (mx (mx (upF (fun j => mxH (cH σ j)) k (mxC0 σ)) (nI (hSc (cH σ k)))) (nI (hDm (cH σ k)))) (nI (hDu (cH σ k)))) (hCe (cH σ k))) (nI (hDy (cH σ k))))]) rfl ?_
    refine V_lstore_n C [(2, .long (mx (mx (mx (mx (mx (upF (fun j => mxH (cH σ j)) k (mxC0 σ)) (nI (hSc (cH σ k)))) (nI (hDm (cH σ k)))) (nI (hDu (cH σ k)))) (hCe (cH σ k))) (nI (hDy (cH σ k))))), (9, .int (nI (hDy (cH σ k)))), (8, .int (nI 4)), (7, .int (nI 5)), (6, .ref q1), (5, .ref q1), (4, .int (nI k)), (0, .ref (ad2 [i]))] dX7_digest_191 (by decide) rfl ?_
    refine V_iincn C [(8, .int (nI (4 + 1))), (2, .long (mx (mx (mx (mx (mx (upF (fun j => mxH (cH σ j)) k (mxC0 σ)) (nI (hSc (cH σ k)))) (nI (hDm (cH σ k)))) (nI (hDu (cH σ k)))) (hCe (cH σ k))) (nI (hDy (cH σ k))))), (9, .int (nI (hDy (cH σ k)))), (7, .int (nI 5)), (6, .ref q1), (5, .ref q1), (4, .int (nI k)), (0, .ref (ad2 [i]))] dX7_digest_192 2 rfl (by decide) rfl ?_
    refine V_lvE (lv' := [(8, .int (nI 5)), (2, .long (mx (mx (mx (mx (mx (upF (fun j => mxH (cH σ j)) k (mxC0 σ)) (nI (hSc (cH σ k)))) (nI (hDm (cH σ k)))) (nI (hDu (cH σ k)))) (hCe (cH σ k))) (nI (hDy (cH σ k))))), (9, .int (nI (hDy (cH σ k)))), (7, .int (nI 5)), (6, .ref q1), (5, .ref q1), (4, .int (nI k)), (0, .ref (ad2 [i]))]) rfl ?_
    refine V_goto (tgt := 168) C dX7_digest_195 (by decide) ?_
    refine V_iload C dX7_digest_168 0 rfl ?_
    refine V_iload C dX7_digest_170 3 rfl ?_
    refine V_icmpn_ge (tgt := 198) C dX7_digest_172 (by decide) (by decide) (by decide) (fun hb7 => ?_) (fun hb7 => by exfalso; omega)
    refine V_less (w' := QW i ad2 σ (nI 0) ro lo ma ap o) (fun L e hL => ?_) ?_
    · rcases L with _ | ⟨a, b⟩
      · exact absurd (hL.symm.trans (QW_nil.trans ho)) (by simp)
      · rw [← hL]; show (if a = i then _ else wset o [] _ (a :: b)) = (if a = i then _ else o (a :: b)); rw [wset_n (by simp)]
    refine V_adr (ad' := ad) (fun L hL => ?_) ?_
    · rcases L with _ | ⟨a, b⟩
      · exact absurd (QW_nil.trans ho) hL
      · exact (hAn _ (by simp)).symm
    refine V_wd (w' := QW i ad σ (nI 0) ro lo ma ap o) (QW_ad (fun c => hAn _ (by simp))) ?_
    refine V_lv [1, 6, 7] rfl ?_
    refine V_lvE (lv' := [(2, .long (mx (mx (mx (mx (mx (upF (fun j => mxH (cH σ j)) k (mxC0 σ)) (nI (hSc (cH σ k)))) (nI (hDm (cH σ k)))) (nI (hDu (cH σ k)))) (hCe (cH σ k))) (nI (hDy (cH σ k))))), (4, .int (nI k)), (0, .ref (ad [i]))]) (by rw [e0]; rfl) ?_
    refine V_lvE (lv' := [(2, .long (mxH0 (cH σ k) (upF (fun j => mxH (cH σ j)) k (mxC0 σ)))), (4, .int (nI k)), (0, .ref (ad [i]))]) (by rw [mxH0]) ?_
    refine V_iconst (v := nI 0) C dX7_digest_198 (by decide) ?_
    refine V_istore C [(6, .int (nI 0)), (2, .long (mxH0 (cH σ k) (upF (fun j => mxH (cH σ j)) k (mxC0 σ)))), (4, .int (nI k)), (0, .ref (ad [i]))] dX7_digest_199 (by decide) rfl ?_
    refine V_lv [0, 1, 2, 3] rfl ?_
    refine lp_du (x := mxH0 (cH σ k) (upF (fun j => mxH (cH σ j)) k (mxC0 σ))) C hl hr (by omega) hσ ho hks (by omega) (by omega) (hSc (cH σ k)) 0 (by omega) ?_
    refine V_lvE (lv' := [(2, .long (upF (fun j => mxH (cH σ j)) (k + 1) (mxC0 σ))), (4, .int (nI k)), (0, .ref (ad [i]))]) (by rw [mxH_step]) ?_
    refine V_iincn C [(4, .int (nI (k + 1))), (2, .long (upF (fun j => mxH (cH σ j)) (k + 1) (mxC0 σ))), (0, .ref (ad [i]))] dX7_digest_263 1 rfl (by decide) rfl ?_
    refine V_goto (tgt := 92) C dX7_digest_266 (by decide) ?_
    refine V_cs (cells' := 1 + (k + 1)) (slots' := 5 + 5 * (k + 1)) (by omega) (by omega) ?_
    refine V_lv [0, 1, 2] rfl ?_
    exact ih (k + 1) (by omega)
set_option maxHeartbeats 4000000 in
theorem m_digest {l : Launch} {D : va_G} {ba d : Nat} {ad : Adr} (hl : l.stackTraces = false) (hd : 11 ≤ d) {i : Nat} {σ : CS} {th ro : Int32} {lo ma ap : Nat → Int32} {o : Wd} (hσ : cOK σ) (ho : o [] = none)  : CT l yX7_digest (wsO yX7_digest cX7_digest 10 (some .long)) d 20 100 D ba [.ref (ad [i])] ad (QW i ad σ th ro lo ma ap o) (RQ i ad σ o (nI 0) (some (.long (mxC σ)))) noX := by
  refine CT_of RX7 rfl (by decide +kernel) hl (Nat.le_of_ble_eq_true rfl) ?_
  intro p e s m args below meth c C hr hnm
  refine V_lvE (lv' := [(0, .ref (ad [i]))]) rfl ?_
  have hσ1 := hσ.1
  have hσ2 := hσ.2.1
  refine V_aload_n C dX7_digest_0 0 rfl ?_
  refine V_iconst (v := nI 0) C dX7_digest_1 (by decide) ?_
  refine V_put (ci := 6) (k := 0) C dX7_digest_2 RX7 RX7 TX7 17 tyX7 tyX7_ok nmX7 fw_X7 rfl (by decide) tw_668 rfl (Or.inl rfl) rfl rfl rfl QW_o (Nat.le_of_ble_eq_true rfl) ?_
  refine V_wd (w' := wset (QW i ad σ th ro lo ma ap o) ([i]) (.inr (6, [.int (nI 0), .int (nI (cN σ)), .int (nI (cK σ)), .int (cDay σ), .int (cIns σ), .ref (ad [i, 1]), .ref (ad [i, 2]), .ref (ad [i, 3]), .ref (ad [i, 4]), .ref (ad [i, 5]), .ref (ad [i, 6]), .ref (ad [i, 7]), .ref (ad [i, 8]), .ref (ad [i, 9]), .ref (ad [i, 10]), .ref (ad [i, 11]), .int ro]))) rfl ?_
  refine V_wd (w' := QW i ad σ (nI 0) ro lo ma ap o) QW_th ?_
  refine V_iconst (v := nI 5) C dX7_digest_5 (by decide) ?_
  refine V_newI (N := 5) C [] dX7_digest_6 tw_69 (by decide) (by decide) (by decide) (QW_nil.trans ho) (by omega) (by omega) (fun q1 => ?_)
  obtain ⟨ad2, hA⟩ : ∃ ad2, ad2 = aset ad [] q1 := ⟨_, rfl⟩
  rw [← hA]
  have hq1 : q1 = ad2 [] := by rw [hA]; exact aset_s.symm
  have hAn : ∀ L, L ≠ [] → ad2 L = ad L := fun L hL => by rw [hA]; exact aset_n hL
  have e0 : ad [i] = ad2 [i] := (hAn _ (by simp)).symm
  refine V_wd (w' := QW i ad2 σ (nI 0) ro lo ma ap (wset o [] (eI 5 (fun _ => 0)))) (by rw [QW_tmp]; exact (QW_ad (fun c => hAn _ (by simp))).symm) ?_
  rw [e0]
  refine V_dup C dX7_digest_8 rfl ?_
  refine V_iconst (v := nI 0) C dX7_digest_9 (by decide) ?_
  refine V_aload_n C dX7_digest_10 0 rfl ?_
  refine V_get (ci := 6) (k := 1) C dX7_digest_11 RX7 RX7 TX7 17 fw_X7 rfl (by decide) tw_669 rfl rfl QW_o rfl ?_
  refine V_iastn C dX7_digest_14 hq1 (QW_nil.trans wset_s) (by omega) (by decide) ?_
  refine V_wd (w' := wset (QW i ad2 σ (nI 0) ro lo ma ap (wset o [] (eI 5 (fun _ => 0)))) ([]) (eI 5 (upd (fun _ => 0) 0 (nI (cN σ))))) rfl ?_
  refine V_wd (w' := QW i ad2 σ (nI 0) ro lo ma ap (wset o [] (eI 5 (upd (fun _ => 0) 0 (nI (cN σ)))))) QW_tmp2 ?_
  refine V_dup C dX7_digest_15 rfl ?_
  refine V_iconst (v := nI 1) C dX7_digest_16 (by decide) ?_
  refine V_aload_n C dX7_digest_17 0 rfl ?_
  refine V_get (ci := 6) (k := 2) C dX7_digest_18 RX7 RX7 TX7 17 fw_X7 rfl (by decide) tw_670 rfl rfl QW_o rfl ?_
  refine V_iastn C dX7_digest_21 hq1 (QW_nil.trans wset_s) (by omega) (by decide) ?_
  refine V_wd (w' := wset (QW i ad2 σ (nI 0) ro lo ma ap (wset o [] (eI 5 (upd (fun _ => 0) 0 (nI (cN σ)))))) ([]) (eI 5 (upd (upd (fun _ => 0) 0 (nI (cN σ))) 1 (nI (cK σ))))) rfl ?_
  refine V_wd (w' := QW i ad2 σ (nI 0) ro lo ma ap (wset o [] (eI 5 (upd (upd (fun _ => 0) 0 (nI (cN σ))) 1 (nI (cK σ)))))) QW_tmp2 ?_
  refine V_dup C dX7_digest_22 rfl ?_
  refine V_iconst (v := nI 2) C dX7_digest_23 (by decide) ?_
  refine V_aload_n C dX7_digest_24 0 rfl ?_
  refine V_get (ci := 6) (k := 3) C dX7_digest_25 RX7 RX7 TX7 17 fw_X7 rfl (by decide) tw_671 rfl rfl QW_o rfl ?_
  refine V_iastn C dX7_digest_28 hq1 (QW_nil.trans wset_s) (by omega) (by decide) ?_
  refine V_wd (w' := wset (QW i ad2 σ (nI 0) ro lo ma ap (wset o [] (eI 5 (upd (upd (fun _ => 0) 0 (nI (cN σ))) 1 (nI (cK σ)))))) ([]) (eI 5 (upd (upd (upd (fun _ => 0) 0 (nI (cN σ))) 1 (nI (cK σ))) 2 (cDay σ)))) rfl ?_
  refine V_wd (w' := QW i ad2 σ (nI 0) ro lo ma ap (wset o [] (eI 5 (upd (upd (upd (fun _ => 0) 0 (nI (cN σ))) 1 (nI (cK σ))) 2 (cDay σ))))) QW_tmp2 ?_
  refine V_dup C dX7_digest_29 rfl ?_
  refine V_iconst (v := nI 3) C dX7_digest_30 (by decide) ?_
  refine V_aload_n C dX7_digest_31 0 rfl ?_
  refine V_get (ci := 6) (k := 4) C dX7_digest_32 RX7 RX7 TX7 17 fw_X7 rfl (by decide) tw_672 rfl rfl QW_o rfl ?_
  refine V_iastn C dX7_digest_35 hq1 (QW_nil.trans wset_s) (by omega) (by decide) ?_
  refine V_wd (w' := wset (QW i ad2 σ (nI 0) ro lo ma ap (wset o [] (eI 5 (upd (upd (upd (fun _ => 0) 0 (nI (cN σ))) 1 (nI (cK σ))) 2 (cDay σ))))) ([]) (eI 5 (upd (upd (upd (upd (fun _ => 0) 0 (nI (cN σ))) 1 (nI (cK σ))) 2 (cDay σ)) 3 (cIns σ)))) rfl ?_
  refine V_wd (w' := QW i ad2 σ (nI 0) ro lo ma ap (wset o [] (eI 5 (upd (upd (upd (upd (fun _ => 0) 0 (nI (cN σ))) 1 (nI (cK σ))) 2 (cDay σ)) 3 (cIns σ))))) QW_tmp2 ?_
  refine V_dup C dX7_digest_36 rfl ?_
  refine V_iconst (v := nI 4) C dX7_digest_37 (by decide) ?_
  refine V_aload_n C dX7_digest_38 0 rfl ?_
  refine V_callV (r := (RX7, TX7, 17)) C [] dX7_digest_39 m_X7_certified k_X7_certified tw_828 rfl rfl rfl QW_o rfl rfl (Nat.le_of_ble_eq_true rfl) ⟨by omega, by omega, by omega, by omega⟩ (m_cert hl (by omega) hσ) (kr_some (x := .int (nI (certs (cH σ) (cN σ)))) ?_) kx_no
  refine V_iastn C dX7_digest_42 hq1 (QW_nil.trans wset_s) (by omega) (by decide) ?_
  refine V_wd (w' := wset (QW i ad2 σ (nI 0) ro lo ma ap (wset o [] (eI 5 (upd (upd (upd (upd (fun _ => 0) 0 (nI (cN σ))) 1 (nI (cK σ))) 2 (cDay σ)) 3 (cIns σ))))) ([]) (eI 5 (upd (upd (upd (upd (upd (fun _ => 0) 0 (nI (cN σ))) 1 (nI (cK σ))) 2 (cDay σ)) 3 (cIns σ)) 4 (nI (certs (cH σ) (cN σ)))))) rfl ?_
  refine V_wd (w' := QW i ad2 σ (nI 0) ro lo ma ap (wset o [] (eI 5 (upd (upd (upd (upd (upd (fun _ => 0) 0 (nI (cN σ))) 1 (nI (cK σ))) 2 (cDay σ)) 3 (cIns σ)) 4 (nI (certs (cH σ) (cN σ))))))) QW_tmp2 ?_
  refine V_astore_n C [(1, .ref q1), (0, .ref (ad2 [i]))] dX7_digest_43 (by decide) rfl ?_
  refine V_ldc2 C dX7_digest_44 tw_964 ?_
  refine V_lstore_n C [(2, .long 1871), (1, .ref q1), (0, .ref (ad2 [i]))] dX7_digest_47 (by decide) rfl ?_
  refine V_aload_n C dX7_digest_48 1 rfl ?_
  refine V_astore C [(4, .ref q1), (2, .long 1871), (1, .ref q1), (0, .ref (ad2 [i]))] dX7_digest_49 (by decide) rfl ?_
  refine V_aload C dX7_digest_51 0 rfl ?_
  refine V_alen (v := nI 5) C dX7_digest_53 hq1 (QW_nil.trans wset_s) rfl ?_
  refine V_istore C [(5, .int (nI 5)), (4, .ref q1), (2, .long 1871), (1, .ref q1), (0, .ref (ad2 [i]))] dX7_digest_54 (by decide) rfl ?_
  refine V_iconst (v := nI 0) C dX7_digest_56 (by decide) ?_
  refine V_istore C [(6, .int (nI 0)), (5, .int (nI 5)), (4, .ref q1), (2, .long 1871), (1, .ref q1), (0, .ref (ad2 [i]))] dX7_digest_57 (by decide) rfl ?_
  refine V_iload C dX7_digest_59 0 rfl ?_
  refine V_iload C dX7_digest_61 1 rfl ?_
  refine V_icmpn_ge (tgt := 89) C dX7_digest_63 (by decide) (by decide) (by decide) (fun hb1 => by exfalso; omega) (fun hb1 => ?_)
  refine V_aload C dX7_digest_66 2 rfl ?_
  refine V_iload C dX7_digest_68 0 rfl ?_
  refine V_ialdn (v := (nI (cN σ))) C dX7_digest_70 hq1 (QW_nil.trans wset_s) (by decide) (by decide) rfl ?_
  refine V_istore C [(7, .int (nI (cN σ))), (6, .int (nI 0)), (5, .int (nI 5)), (4, .ref q1), (2, .long 1871), (1, .ref q1), (0, .ref (ad2 [i]))] dX7_digest_71 (by decide) rfl ?_
  refine V_lload_n C dX7_digest_73 4 rfl ?_
  refine V_ldc2 C dX7_digest_74 tw_965 ?_
  refine V_lmul C dX7_digest_77 ?_
  refine V_iload C dX7_digest_78 0 rfl ?_
  refine V_i2l C dX7_digest_80 rfl ?_
  refine V_ladd C dX7_digest_81 ?_
  refine V_stE (st' := [.long (mx 1871 (nI (cN σ)))]) rfl ?_
  refine V_lstore_n C [(2, .long (mx 1871 (nI (cN σ)))), (7, .int (nI (cN σ))), (6, .int (nI 0)), (5, .int (nI 5)), (4, .ref q1), (1, .ref q1), (0, .ref (ad2 [i]))] dX7_digest_82 (by decide) rfl ?_
  refine V_iincn C [(6, .int (nI (0 + 1))), (2, .long (mx 1871 (nI (cN σ)))), (7, .int (nI (cN σ))), (5, .int (nI 5)), (4, .ref q1), (1, .ref q1), (0, .ref (ad2 [i]))] dX7_digest_83 2 rfl (by decide) rfl ?_
  refine V_lvE (lv' := [(6, .int (nI 1)), (2, .long (mx 1871 (nI (cN σ)))), (7, .int (nI (cN σ))), (5, .int (nI 5)), (4, .ref q1), (1, .ref q1), (0, .ref (ad2 [i]))]) rfl ?_
  refine V_goto (tgt := 59) C dX7_digest_86 (by decide) ?_
  refine V_iload C dX7_digest_59 0 rfl ?_
  refine V_iload C dX7_digest_61 3 rfl ?_
  refine V_icmpn_ge (tgt := 89) C dX7_digest_63 (by decide) (by decide) (by decide) (fun hb2 => by exfalso; omega) (fun hb2 => ?_)
  refine V_aload C dX7_digest_66 4 rfl ?_
  refine V_iload C dX7_digest_68 0 rfl ?_
  refine V_ialdn (v := (nI (cK σ))) C dX7_digest_70 hq1 (QW_nil.trans wset_s) (by decide) (by decide) rfl ?_
  refine V_istore C [(7, .int (nI (cK σ))), (6, .int (nI 1)), (2, .long (mx 1871 (nI (cN σ)))), (5, .int (nI 5)), (4, .ref q1), (1, .ref q1), (0, .ref (ad2 [i]))] dX7_digest_71 (by decide) rfl ?_
  refine V_lload_n C dX7_digest_73 2 rfl ?_
  refine V_ldc2 C dX7_digest_74 tw_965 ?_
  refine V_lmul C dX7_digest_77 ?_
  refine V_iload C dX7_digest_78 0 rfl ?_
  refine V_i2l C dX7_digest_80 rfl ?_
  refine V_ladd C dX7_digest_81 ?_
  refine V_stE (st' := [.long (mx (mx 1871 (nI (cN σ))) (nI (cK σ)))]) rfl ?_
  refine V_lstore_n C [(2, .long (mx (mx 1871 (nI (cN σ))) (nI (cK σ)))), (7, .int (nI (cK σ))), (6, .int (nI 1)), (5, .int (nI 5)), (4, .ref q1), (1, .ref q1), (0, .ref (ad2 [i]))] dX7_digest_82 (by decide) rfl ?_
  refine V_iincn C [(6, .int (nI (1 + 1))), (2, .long (mx (mx 1871 (nI (cN σ))) (nI (cK σ)))), (7, .int (nI (cK σ))), (5, .int (nI 5)), (4, .ref q1), (1, .ref q1), (0, .ref (ad2 [i]))] dX7_digest_83 2 rfl (by decide) rfl ?_
  refine V_lvE (lv' := [(6, .int (nI 2)), (2, .long (mx (mx 1871 (nI (cN σ))) (nI (cK σ)))), (7, .int (nI (cK σ))), (5, .int (nI 5)), (4, .ref q1), (1, .ref q1), (0, .ref (ad2 [i]))]) rfl ?_
  refine V_goto (tgt := 59) C dX7_digest_86 (by decide) ?_
  refine V_iload C dX7_digest_59 0 rfl ?_
  refine V_iload C dX7_digest_61 3 rfl ?_
  refine V_icmpn_ge (tgt := 89) C dX7_digest_63 (by decide) (by decide) (by decide) (fun hb3 => by exfalso; omega) (fun hb3 => ?_)
  refine V_aload C dX7_digest_66 4 rfl ?_
  refine V_iload C dX7_digest_68 0 rfl ?_
  refine V_ialdn (v := (cDay σ)) C dX7_digest_70 hq1 (QW_nil.trans wset_s) (by decide) (by decide) rfl ?_
  refine V_istore C [(7, .int (cDay σ)), (6, .int (nI 2)), (2, .long (mx (mx 1871 (nI (cN σ))) (nI (cK σ)))), (5, .int (nI 5)), (4, .ref q1), (1, .ref q1), (0, .ref (ad2 [i]))] dX7_digest_71 (by decide) rfl ?_
  refine V_lload_n C dX7_digest_73 2 rfl ?_
  refine V_ldc2 C dX7_digest_74 tw_965 ?_
  refine V_lmul C dX7_digest_77 ?_
  refine V_iload C dX7_digest_78 0 rfl ?_
  refine V_i2l C dX7_digest_80 rfl ?_
  refine V_ladd C dX7_digest_81 ?_
  refine V_stE (st' := [.long (mx (mx (mx 1871 (nI (cN σ))) (nI (cK σ))) (cDay σ))]) rfl ?_
  refine V_lstore_n C [(2, .long (mx (mx (mx 1871 (nI (cN σ))) (nI (cK σ))) (cDay σ))), (7, .int (cDay σ)), (6, .int (nI 2)), (5, .int (nI 5)), (4, .ref q1), (1, .ref q1), (0, .ref (ad2 [i]))] dX7_digest_82 (by decide) rfl ?_
  refine V_iincn C [(6, .int (nI (2 + 1))), (2, .long (mx (mx (mx 1871 (nI (cN σ))) (nI (cK σ))) (cDay σ))), (7, .int (cDay σ)), (5, .int (nI 5)), (4, .ref q1), (1, .ref q1), (0, .ref (ad2 [i]))] dX7_digest_83 2 rfl (by decide) rfl ?_
  refine V_lvE (lv' := [(6, .int (nI 3)), (2, .long (mx (mx (mx 1871 (nI (cN σ))) (nI (cK σ))) (cDay σ))), (7, .int (cDay σ)), (5, .int (nI 5)), (4, .ref q1), (1, .ref q1), (0, .ref (ad2 [i]))]) rfl ?_
  refine V_goto (tgt := 59) C dX7_digest_86 (by decide) ?_
  refine V_iload C dX7_digest_59 0 rfl ?_
  refine V_iload C dX7_digest_61 3 rfl ?_
  refine V_icmpn_ge (tgt := 89) C dX7_digest_63 (by decide) (by decide) (by decide) (fun hb4 => by exfalso; omega) (fun hb4 => ?_)
  refine V_aload C dX7_digest_66 4 rfl ?_
  refine V_iload C dX7_digest_68 0 rfl ?_
  refine V_ialdn (v := (cIns σ)) C dX7_digest_70 hq1 (QW_nil.trans wset_s) (by decide) (by decide) rfl ?_
  refine V_istore C [(7, .int (cIns σ)), (6, .int (nI 3)), (2, .long (mx (mx (mx 1871 (nI (cN σ))) (nI (cK σ))) (cDay σ))), (5, .int (nI 5)), (4, .ref q1), (1, .ref q1), (0, .ref (ad2 [i]))] dX7_digest_71 (by decide) rfl ?_
  refine V_lload_n C dX7_digest_73 2 rfl ?_
  refine V_ldc2 C dX7_digest_74 tw_965 ?_
  refine V_lmul C dX7_digest_77 ?_
  refine V_iload C dX7_digest_78 0 rfl ?_
  refine V_i2l C dX7_digest_80 rfl ?_
  refine V_ladd C dX7_digest_81 ?_
  refine V_stE (st' := [.long (mx (mx (mx (mx 1871 (nI (cN σ))) (nI (cK σ))) (cDay σ)) (cIns σ))]) rfl ?_
  refine V_lstore_n C [(2, .long (mx (mx (mx (mx 1871 (nI (cN σ))) (nI (cK σ))) (cDay σ)) (cIns σ))), (7, .int (cIns σ)), (6, .int (nI 3)), (5, .int (nI 5)), (4, .ref q1), (1, .ref q1), (0, .ref (ad2 [i]))] dX7_digest_82 (by decide) rfl ?_
  refine V_iincn C [(6, .int (nI (3 + 1))), (2, .long (mx (mx (mx (mx 1871 (nI (cN σ))) (nI (cK σ))) (cDay σ)) (cIns σ))), (7, .int (cIns σ)), (5, .int (nI 5)), (4, .ref q1), (1, .ref q1), (0, .ref (ad2 [i]))] dX7_digest_83 2 rfl (by decide) rfl ?_
  refine V_lvE (lv' := [(6, .int (nI 4)), (2, .long (mx (mx (mx (mx 1871 (nI (cN σ))) (nI (cK σ))) (cDay σ)) (cIns σ))), (7, .int (cIns σ)), (5, .int (nI 5)), (4, .ref q1), (1, .ref q1), (0, .ref (ad2 [i]))]) rfl ?_
  refine V_goto (tgt := 59) C dX7_digest_86 (by decide) ?_
  refine V_iload C dX7_digest_59 0 rfl ?_
  refine V_iload C dX7_digest_61 3 rfl ?_
  refine V_icmpn_ge (tgt := 89) C dX7_digest_63 (by decide) (by decide) (by decide) (fun hb5 => by exfalso; omega) (fun hb5 => ?_)
  refine V_aload C dX7_digest_66 4 rfl ?_
  refine V_iload C dX7_digest_68 0 rfl ?_
  refine V_ialdn (v := (nI (certs (cH σ) (cN σ)))) C dX7_digest_70 hq1 (QW_nil.trans wset_s) (by decide) (by decide) rfl ?_
  refine V_istore C [(7, .int (nI (certs (cH σ) (cN σ)))), (6, .int (nI 4)), (2, .long (mx (mx (mx (mx 1871 (nI (cN σ))) (nI (cK σ))) (cDay σ)) (cIns σ))), (5, .int (nI 5)), (4, .ref q1), (1, .ref q1), (0, .ref (ad2 [i]))] dX7_digest_71 (by decide) rfl ?_
  refine V_lload_n C dX7_digest_73 2 rfl ?_
  refine V_ldc2 C dX7_digest_74 tw_965 ?_
  refine V_lmul C dX7_digest_77 ?_
  refine V_iload C dX7_digest_78 0 rfl ?_
  refine V_i2l C dX7_digest_80 rfl ?_
  refine V_ladd C dX7_digest_81 ?_
  refine V_stE (st' := [.long (mx (mx (mx (mx (mx 1871 (nI (cN σ))) (nI (cK σ))) (cDay σ)) (cIns σ)) (nI (certs (cH σ) (cN σ))))]) rfl ?_
  refine V_lstore_n C [(2, .long (mx (mx (mx (mx (mx 1871 (nI (cN σ))) (nI (cK σ))) (cDay σ)) (cIns σ)) (nI (certs (cH σ) (cN σ))))), (7, .int (nI (certs (cH σ) (cN σ)))), (6, .int (nI 4)), (5, .int (nI 5)), (4, .ref q1), (1, .ref q1), (0, .ref (ad2 [i]))] dX7_digest_82 (by decide) rfl ?_
  refine V_iincn C [(6, .int (nI (4 + 1))), (2, .long (mx (mx (mx (mx (mx 1871 (nI (cN σ))) (nI (cK σ))) (cDay σ)) (cIns σ)) (nI (certs (cH σ) (cN σ))))), (7, .int (nI (certs (cH σ) (cN σ)))), (5, .int (nI 5)), (4, .ref q1), (1, .ref q1), (0, .ref (ad2 [i]))] dX7_digest_83 2 rfl (by decide) rfl ?_
  refine V_lvE (lv' := [(6, .int (nI 5)), (2, .long (mx (mx (mx (mx (mx 1871 (nI (cN σ))) (nI (cK σ))) (cDay σ)) (cIns σ)) (nI (certs (cH σ) (cN σ))))), (7, .int (nI (certs (cH σ) (cN σ)))), (5, .int (nI 5)), (4, .ref q1), (1, .ref q1), (0, .ref (ad2 [i]))]) rfl ?_
  refine V_goto (tgt := 59) C dX7_digest_86 (by decide) ?_
  refine V_iload C dX7_digest_59 0 rfl ?_
  refine V_iload C dX7_digest_61 3 rfl ?_
  refine V_icmpn_ge (tgt := 89) C dX7_digest_63 (by decide) (by decide) (by decide) (fun hb6 => ?_) (fun hb6 => by exfalso; omega)
  refine V_less (w' := QW i ad2 σ (nI 0) ro lo ma ap o) (fun L e hL => ?_) ?_
  · rcases L with _ | ⟨a, b⟩
    · exact absurd (hL.symm.trans (QW_nil.trans ho)) (by simp)
    · rw [← hL]; show (if a = i then _ else wset o [] _ (a :: b)) = (if a = i then _ else o (a :: b)); rw [wset_n (by simp)]
  refine V_adr (ad' := ad) (fun L hL => ?_) ?_
  · rcases L with _ | ⟨a, b⟩
    · exact absurd (QW_nil.trans ho) hL
    · exact (hAn _ (by simp)).symm
  refine V_wd (w' := QW i ad σ (nI 0) ro lo ma ap o) (QW_ad (fun c => hAn _ (by simp))) ?_
  refine V_lv [1, 6] rfl ?_
  refine V_lvE (lv' := [(2, .long (mx (mx (mx (mx (mx 1871 (nI (cN σ))) (nI (cK σ))) (cDay σ)) (cIns σ)) (nI (certs (cH σ) (cN σ))))), (0, .ref (ad [i]))]) (by rw [e0]; rfl) ?_
  refine V_lvE (lv' := [(2, .long (mxC0 σ)), (0, .ref (ad [i]))]) rfl ?_
  refine V_iconst (v := nI 0) C dX7_digest_89 (by decide) ?_
  refine V_istore C [(4, .int (nI 0)), (2, .long (mxC0 σ)), (0, .ref (ad [i]))] dX7_digest_90 (by decide) rfl ?_
  refine V_cs (cells' := 1 + 0) (slots' := 5 + 5 * 0) (by omega) (by omega) ?_
  refine V_lv [0, 1, 2] rfl ?_
  exact lp_d1 C hl hr (by omega) hσ ho (by omega) (by omega) (fun _ _ _ _ => ⟨rfl, rfl, _, _, _, _, rfl⟩) (cN σ) 0 (by omega)
