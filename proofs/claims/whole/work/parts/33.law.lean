theorem lg_self (x : Int64) : lg_cmp x x = 0 := by simp [lg_cmp]
abbrev Bf (f : Nat → Int64) : Wd := wset (fun _ => none) [2] (eJ 1 f)
/-- both bureaus and the row for answers -/
abbrev LW (ad : Adr) (σ : CS) (tl : Int32) (t : TT) (lo : Nat → Int32) (th ro : Int32) (lo2 ma ap : Nat → Int32) (f : Nat → Int64) : Wd := PW 0 ad σ tl t lo (QW 1 ad σ th ro lo2 ma ap (Bf f))
theorem QW_2f {ad : Adr} {σ : CS} {th ro : Int32} {lo2 ma ap : Nat → Int32} {f : Nat → Int64} : QW 1 ad σ th ro lo2 ma ap (Bf f) [2] = some (eJ 1 f) := rfl
theorem QW_o2 {ad : Adr} {σ : CS} {th ro : Int32} {lo2 ma ap : Nat → Int32} {o : Wd} {e : Ent} : wset (QW 1 ad σ th ro lo2 ma ap o) [2] e = QW 1 ad σ th ro lo2 ma ap (wset o [2] e) := by
  funext L
  rcases L with _ | ⟨j, r⟩
  · rw [wset_n (by simp)]; rfl
  · show (if j :: r = [2] then some e else if j = 1 then MC 1 ad σ th ro lo2 ma ap r else o (j :: r)) = (if j = 1 then MC 1 ad σ th ro lo2 ma ap r else if j :: r = [2] then some e else o (j :: r))
    by_cases hj : j = 1
    · subst hj; rw [if_neg (by simp), if_pos rfl, if_pos rfl]
    · rw [if_neg hj, if_neg hj]
theorem LW_swap {ad ad2 : Adr} {σ σ2 : CS} {tl : Int32} {t : TT} {lo : Nat → Int32} {th ro : Int32} {lo2 ma ap : Nat → Int32} {f g : Nat → Int64} {k : Nat} (hK : keeps 0 ad ad2) : PW 0 ad2 σ2 tl t lo (if k = 0 then wset (QW 1 ad σ th ro lo2 ma ap (Bf f)) [2] (eJ 1 g) else QW 1 ad σ th ro lo2 ma ap (Bf f)) = QW 1 ad2 σ th ro lo2 ma ap (PW 0 ad2 σ2 tl t lo (Bf (if k = 0 then g else f))) := by
  rw [show QW 1 ad2 σ th ro lo2 ma ap (PW 0 ad2 σ2 tl t lo (Bf (if k = 0 then g else f))) = QW 1 ad σ th ro lo2 ma ap (PW 0 ad2 σ2 tl t lo (Bf (if k = 0 then g else f))) from QW_ad (fun c => hK.1 1 [c] (by decide))]
  by_cases hk : k = 0
  · rw [if_pos hk, if_pos hk, QW_o2, wset_wset]
    exact put_comm (by decide)
  · rw [if_neg hk, if_neg hk]
    exact put_comm (by decide)
theorem LW_swap0 {ad : Adr} {σ σ2 : CS} {tl : Int32} {t : TT} {lo : Nat → Int32} {th ro : Int32} {lo2 ma ap : Nat → Int32} {f : Nat → Int64} : PW 0 ad σ2 tl t lo (QW 1 ad σ th ro lo2 ma ap (Bf f)) = QW 1 ad σ th ro lo2 ma ap (PW 0 ad σ2 tl t lo (Bf f)) := put_comm (by decide)
section K33
variable {p : Program} {l : Launch} {e : Env} {s : State} {m : MethodId} {args : Array Value} {below : List Frame} {meth : Method} {c : Code} {D : va_G} {ba d mc ms nL npc pc cells slots : Nat} {ad : Adr} {w : Wd} {Q : State → Prop} {lv : List (Nat × Value)} {rest : List Value} {σ : CS} {o : Wd}
variable {own : String} {cc : ByteArray} {tb : List ExceptionTableEntry}
theorem kr_WR {k : Nat} (h : ∀ ad2, keeps 0 ad ad2 → ∀ tl t lo, V p l e s m args below meth c D ba d mc ms Q nL ad2 (PW 0 ad2 σ tl t lo o) npc lv (.int (nI k) :: rest) cells slots) : ∀ (v : Option Value) (ad' : Adr) (w' : Wd), WR ad σ o k v ad' w' → V p l e s m args below meth c D ba d mc ms Q nL ad' w' npc lv (v.toList ++ rest) cells slots := by
  rintro v ad' w' ⟨rfl, hK, tl, t, lo, rfl⟩
  exact h ad' hK tl t lo
theorem V_sldn (C : Cx p l s m args meth c D ba own cc nL tb d) {b9 L i : Nat} {xs : Nat → Int32} (hX : va_X b9 L xs s s.heap) (hb : b9 < ba) (hi : i < L) (hL : L < 2 ^ 31) (h : decode cc pc = .ok (.iaload, 1)) (k : V p l e s m args below meth c D ba d mc ms Q nL ad w (pc + 1) lv (.int (xs i) :: rest) cells slots) : V p l e s m args below meth c D ba d mc ms Q nL ad w pc lv (.int (nI i) :: .ref b9 :: rest) cells slots := V_sld C hX hb (vp_in_nI hi hL) h (by rw [nI_clamp (Nat.lt_trans hi hL)]; exact k)
end K33
set_option maxHeartbeats 4000000 in
theorem law_0 {p : Program} {l : Launch} {e : Env} {s : State} {m : MethodId} {args : Array Value} {below : List Frame} {meth : Method} {c : Code} {D : va_G} {ba d mc ms cells slots : Nat} {Q : State → Prop} {ad : Adr} {tb : List ExceptionTableEntry} {σ : CS} {tl : Int32} {t : TT} {lo : Nat → Int32} {th ro : Int32} {lo2 ma ap : Nat → Int32} {f : Nat → Int64} (C : Cx p l s m args meth c D ba RL cL_law 9 tb d) (hl : l.stackTraces = false) (hd : 12 ≤ d) {b9 L i0 : Nat} {xs : Nat → Int32} (hX : va_X b9 L xs s s.heap) (hb : b9 < ba) (hi : i0 + 6 ≤ L) (hL : L ≤ 3072) (hσ : cOK σ) (hcs : cells + 60 ≤ mc) (hss : slots + 300 ≤ ms) (K : ∀ ad2 σ2 tl t lo th ro lo2 ma ap f cells2 slots2, cOK σ2 → cells2 ≤ cells + 60 → slots2 ≤ slots + 300 → V p l e s m args below meth c D ba d mc ms Q 9 ad2 (LW ad2 σ2 tl t lo th ro lo2 ma ap f) 2272 [(4, .int (nI i0)), (3, .ref (ad2 [2])), (2, .ref (ad2 [1])), (1, .ref (ad2 [0])), (0, .ref b9)] [] cells2 slots2) : V p l e s m args below meth c D ba d mc ms Q 9 ad (LW ad σ tl t lo th ro lo2 ma ap f) 200 [(4, .int (nI i0)), (3, .ref (ad [2])), (2, .ref (ad [1])), (1, .ref (ad [0])), (0, .ref b9)] [] cells slots := by
  have hσ1 := hσ.1
  have hσ2 := hσ.2.1
  obtain ⟨k, y, σ2, hk4, hP, hσ2x, hW, hM⟩ := b_addHall (l := l) (D := D) (ba := ba) hl hσ (xs (i0 + 1))
  refine V_aload_n C dL_law_200 3 rfl ?_
  refine V_aload_n C dL_law_201 4 rfl ?_
  refine V_iload C dL_law_202 0 rfl ?_
  refine V_iconst (v := nI 1) C dL_law_204 (by decide) ?_
  refine V_iaddn C dL_law_205 ?_
  refine V_sldn C hX hb (i := i0 + 1) (by omega) (by omega) dL_law_206 ?_
  refine V_aload_n C dL_law_207 1 rfl ?_
  refine V_callSX C [.ref (ad [0]), .int (xs (i0 + 1)), .ref (ad [2])] dL_law_208 m_L_addHall k_L_addHall tw_213 rfl rfl (Nat.le_of_ble_eq_true rfl) ⟨by omega, by omega, by omega, by omega⟩ (hW _ _ _ _ _ _ _ (by omega) QW_2f) (kr_WR (fun ad2 hK tl t lo => ?_)) kx_no
  have e0 := hK.2; have e1 := hK.1 1 [] (by decide); have e2 := hK.1 2 [] (by decide)
  refine V_wd (w' := QW 1 ad2 σ th ro lo2 ma ap (PW 0 ad2 σ2 tl t lo (Bf (if k = 0 then vp_updL f 0 y.toInt64 else f)))) (LW_swap hK) ?_
  rw [← e0, ← e1, ← e2]
  refine V_istore C [(5, .int (nI k)), (4, .int (nI i0)), (3, .ref (ad2 [2])), (2, .ref (ad2 [1])), (1, .ref (ad2 [0])), (0, .ref b9)] dL_law_211 (by decide) rfl ?_
  refine V_aload_n C dL_law_213 3 rfl ?_
  refine V_aload_n C dL_law_214 5 rfl ?_
  refine V_iload C dL_law_215 1 rfl ?_
  refine V_iconst (v := nI 1) C dL_law_217 (by decide) ?_
  refine V_iaddn C dL_law_218 ?_
  refine V_sldn C hX hb (i := i0 + 1) (by omega) (by omega) dL_law_219 ?_
  refine V_callV (r := (RX7, TX7, 17)) C [.int (xs (i0 + 1))] dL_law_220 m_X7_addHall k_X7_addHall tw_724 rfl rfl rfl QW_o rfl rfl (Nat.le_of_ble_eq_true rfl) ⟨by omega, by omega, by omega, by omega⟩ (hM _ _ _ _ _ _ _ _ (by omega)) (kr_RQ (x := .int y) (fun ro lo2 ma ap => ?_)) kx_no
  refine V_istore C [(6, .int y), (5, .int (nI k)), (4, .int (nI i0)), (3, .ref (ad2 [2])), (2, .ref (ad2 [1])), (1, .ref (ad2 [0])), (0, .ref b9)] dL_law_223 (by decide) rfl ?_
  refine V_aload_n C dL_law_225 4 rfl ?_
  refine V_callV (r := (RX7, TX7, 17)) C [] dL_law_226 m_X7_thrown k_X7_thrown tw_720 rfl rfl rfl QW_o rfl rfl (Nat.le_of_ble_eq_true rfl) ⟨by omega, by omega, by omega, by omega⟩ (m_thrown hl (by omega) hσ2x) (kr_some (x := .int (nI k)) ?_) kx_no
  refine V_iload C dL_law_229 1 rfl ?_
  refine V_icmpn_eq (tgt := 236) C dL_law_231 (by decide) (by omega) (by omega) (fun hb1 => ?_) (fun hb1 => by exfalso; omega)
  refine V_iload C dL_law_236 1 rfl ?_
  refine V_ifn_ne (tgt := 253) C dL_law_238 (by decide) (by omega) (fun hb2 => ?_) (fun hb2 => ?_)
  · skip
    refine V_goto (tgt := 2272) C dL_law_253 (by decide) ?_
    refine V_wd (w' := LW ad2 σ2 tl t lo (nI k) ro lo2 ma ap (if k = 0 then vp_updL f 0 y.toInt64 else f)) (put_comm (by decide)) ?_
    refine V_lv [2, 3, 4, 5, 6] rfl ?_
    exact K _ _ _ _ _ _ _ _ _ _ _ _ _ hσ2x (by omega) (by omega)
  · skip
    refine V_aload_n C dL_law_241 3 rfl ?_
    refine V_iconst (v := nI 0) C dL_law_242 (by decide) ?_
    refine V_laldn (v := y.toInt64) C dL_law_243 rfl rfl (by decide) (by decide) (by rw [if_pos hb2]; rfl) ?_
    refine V_iload C dL_law_244 0 rfl ?_
    refine V_i2l C dL_law_246 rfl ?_
    refine V_lcmp C dL_law_247 ?_
    refine V_if_eq (tgt := 253) C dL_law_248 (by decide) (fun hb3 => ?_) (fun hb3 => by exfalso; exact hb3 (lg_self _))
    refine V_goto (tgt := 2272) C dL_law_253 (by decide) ?_
    refine V_wd (w' := LW ad2 σ2 tl t lo (nI k) ro lo2 ma ap (if k = 0 then vp_updL f 0 y.toInt64 else f)) (put_comm (by decide)) ?_
    refine V_lv [2, 3, 4, 5, 6] rfl ?_
    exact K _ _ _ _ _ _ _ _ _ _ _ _ _ hσ2x (by omega) (by omega)
set_option maxHeartbeats 4000000 in
theorem law_1 {p : Program} {l : Launch} {e : Env} {s : State} {m : MethodId} {args : Array Value} {below : List Frame} {meth : Method} {c : Code} {D : va_G} {ba d mc ms cells slots : Nat} {Q : State → Prop} {ad : Adr} {tb : List ExceptionTableEntry} {σ : CS} {tl : Int32} {t : TT} {lo : Nat → Int32} {th ro : Int32} {lo2 ma ap : Nat → Int32} {f : Nat → Int64} (C : Cx p l s m args meth c D ba RL cL_law 9 tb d) (hl : l.stackTraces = false) (hd : 12 ≤ d) {b9 L i0 : Nat} {xs : Nat → Int32} (hX : va_X b9 L xs s s.heap) (hb : b9 < ba) (hi : i0 + 6 ≤ L) (hL : L ≤ 3072) (hσ : cOK σ) (hcs : cells + 60 ≤ mc) (hss : slots + 300 ≤ ms) (K : ∀ ad2 σ2 tl t lo th ro lo2 ma ap f cells2 slots2, cOK σ2 → cells2 ≤ cells + 60 → slots2 ≤ slots + 300 → V p l e s m args below meth c D ba d mc ms Q 9 ad2 (LW ad2 σ2 tl t lo th ro lo2 ma ap f) 2272 [(4, .int (nI i0)), (3, .ref (ad2 [2])), (2, .ref (ad2 [1])), (1, .ref (ad2 [0])), (0, .ref b9)] [] cells2 slots2) : V p l e s m args below meth c D ba d mc ms Q 9 ad (LW ad σ tl t lo th ro lo2 ma ap f) 256 [(4, .int (nI i0)), (3, .ref (ad [2])), (2, .ref (ad [1])), (1, .ref (ad [0])), (0, .ref b9)] [] cells slots := by
  have hσ1 := hσ.1
  have hσ2 := hσ.2.1
  obtain ⟨k, y, σ2, hk4, hP, hσ2x, hW, hM⟩ := b_addSurface (l := l) (D := D) (ba := ba) hl hσ (xs (i0 + 1)) (xs (i0 + 2)) (xs (i0 + 3))
  refine V_aload_n C dL_law_256 3 rfl ?_
  refine V_aload_n C dL_law_257 4 rfl ?_
  refine V_iload C dL_law_258 0 rfl ?_
  refine V_iconst (v := nI 1) C dL_law_260 (by decide) ?_
  refine V_iaddn C dL_law_261 ?_
  refine V_sldn C hX hb (i := i0 + 1) (by omega) (by omega) dL_law_262 ?_
  refine V_aload_n C dL_law_263 4 rfl ?_
  refine V_iload C dL_law_264 0 rfl ?_
  refine V_iconst (v := nI 2) C dL_law_266 (by decide) ?_
  refine V_iaddn C dL_law_267 ?_
  refine V_sldn C hX hb (i := i0 + 2) (by omega) (by omega) dL_law_268 ?_
  refine V_aload_n C dL_law_269 4 rfl ?_
  refine V_iload C dL_law_270 0 rfl ?_
  refine V_iconst (v := nI 3) C dL_law_272 (by decide) ?_
  refine V_iaddn C dL_law_273 ?_
  refine V_sldn C hX hb (i := i0 + 3) (by omega) (by omega) dL_law_274 ?_
  refine V_aload_n C dL_law_275 1 rfl ?_
  refine V_callSX C [.ref (ad [0]), .int (xs (i0 + 1)), .int (xs (i0 + 2)), .int (xs (i0 + 3)), .ref (ad [2])] dL_law_276 m_L_addSurface k_L_addSurface tw_343 rfl rfl (Nat.le_of_ble_eq_true rfl) ⟨by omega, by omega, by omega, by omega⟩ (hW _ _ _ _ _ _ _ (by omega) QW_2f) (kr_WR (fun ad2 hK tl t lo => ?_)) kx_no
  have e0 := hK.2; have e1 := hK.1 1 [] (by decide); have e2 := hK.1 2 [] (by decide)
  refine V_wd (w' := QW 1 ad2 σ th ro lo2 ma ap (PW 0 ad2 σ2 tl t lo (Bf (if k = 0 then vp_updL f 0 y.toInt64 else f)))) (LW_swap hK) ?_
  rw [← e0, ← e1, ← e2]
  refine V_istore C [(5, .int (nI k)), (4, .int (nI i0)), (3, .ref (ad2 [2])), (2, .ref (ad2 [1])), (1, .ref (ad2 [0])), (0, .ref b9)] dL_law_279 (by decide) rfl ?_
  refine V_aload_n C dL_law_281 3 rfl ?_
  refine V_aload_n C dL_law_282 5 rfl ?_
  refine V_iload C dL_law_283 1 rfl ?_
  refine V_iconst (v := nI 1) C dL_law_285 (by decide) ?_
  refine V_iaddn C dL_law_286 ?_
  refine V_sldn C hX hb (i := i0 + 1) (by omega) (by omega) dL_law_287 ?_
  refine V_aload_n C dL_law_288 5 rfl ?_
  refine V_iload C dL_law_289 1 rfl ?_
  refine V_iconst (v := nI 2) C dL_law_291 (by decide) ?_
  refine V_iaddn C dL_law_292 ?_
  refine V_sldn C hX hb (i := i0 + 2) (by omega) (by omega) dL_law_293 ?_
  refine V_aload_n C dL_law_294 5 rfl ?_
  refine V_iload C dL_law_295 1 rfl ?_
  refine V_iconst (v := nI 3) C dL_law_297 (by decide) ?_
  refine V_iaddn C dL_law_298 ?_
  refine V_sldn C hX hb (i := i0 + 3) (by omega) (by omega) dL_law_299 ?_
  refine V_callV (r := (RX7, TX7, 17)) C [.int (xs (i0 + 1)), .int (xs (i0 + 2)), .int (xs (i0 + 3))] dL_law_300 m_X7_addSurface k_X7_addSurface tw_735 rfl rfl rfl QW_o rfl rfl (Nat.le_of_ble_eq_true rfl) ⟨by omega, by omega, by omega, by omega⟩ (hM _ _ _ _ _ _ _ _ (by omega)) (kr_RQ (x := .int y) (fun ro lo2 ma ap => ?_)) kx_no
  refine V_istore C [(6, .int y), (5, .int (nI k)), (4, .int (nI i0)), (3, .ref (ad2 [2])), (2, .ref (ad2 [1])), (1, .ref (ad2 [0])), (0, .ref b9)] dL_law_303 (by decide) rfl ?_
  refine V_aload_n C dL_law_305 4 rfl ?_
  refine V_callV (r := (RX7, TX7, 17)) C [] dL_law_306 m_X7_thrown k_X7_thrown tw_720 rfl rfl rfl QW_o rfl rfl (Nat.le_of_ble_eq_true rfl) ⟨by omega, by omega, by omega, by omega⟩ (m_thrown hl (by omega) hσ2x) (kr_some (x := .int (nI k)) ?_) kx_no
  refine V_iload C dL_law_309 1 rfl ?_
  refine V_icmpn_eq (tgt := 316) C dL_law_311 (by decide) (by omega) (by omega) (fun hb1 => ?_) (fun hb1 => by exfalso; omega)
  refine V_iload C dL_law_316 1 rfl ?_
  refine V_ifn_ne (tgt := 333) C dL_law_318 (by decide) (by omega) (fun hb2 => ?_) (fun hb2 => ?_)
  · skip
    refine V_goto (tgt := 2272) C dL_law_333 (by decide) ?_
    refine V_wd (w' := LW ad2 σ2 tl t lo (nI k) ro lo2 ma ap (if k = 0 then vp_updL f 0 y.toInt64 else f)) (put_comm (by decide)) ?_
    refine V_lv [2, 3, 4, 5, 6] rfl ?_
    exact K _ _ _ _ _ _ _ _ _ _ _ _ _ hσ2x (by omega) (by omega)
  · skip
    refine V_aload_n C dL_law_321 3 rfl ?_
    refine V_iconst (v := nI 0) C dL_law_322 (by decide) ?_
    refine V_laldn (v := y.toInt64) C dL_law_323 rfl rfl (by decide) (by decide) (by rw [if_pos hb2]; rfl) ?_
    refine V_iload C dL_law_324 0 rfl ?_
    refine V_i2l C dL_law_326 rfl ?_
    refine V_lcmp C dL_law_327 ?_
    refine V_if_eq (tgt := 333) C dL_law_328 (by decide) (fun hb3 => ?_) (fun hb3 => by exfalso; exact hb3 (lg_self _))
    refine V_goto (tgt := 2272) C dL_law_333 (by decide) ?_
    refine V_wd (w' := LW ad2 σ2 tl t lo (nI k) ro lo2 ma ap (if k = 0 then vp_updL f 0 y.toInt64 else f)) (put_comm (by decide)) ?_
    refine V_lv [2, 3, 4, 5, 6] rfl ?_
    exact K _ _ _ _ _ _ _ _ _ _ _ _ _ hσ2x (by omega) (by omega)
set_option maxHeartbeats 4000000 in
theorem law_2 {p : Program} {l : Launch} {e : Env} {s : State} {m : MethodId} {args : Array Value} {below : List Frame} {meth : Method} {c : Code} {D : va_G} {ba d mc ms cells slots : Nat} {Q : State → Prop} {ad : Adr} {tb : List ExceptionTableEntry} {σ : CS} {tl : Int32} {t : TT} {lo : Nat → Int32} {th ro : Int32} {lo2 ma ap : Nat → Int32} {f : Nat → Int64} (C : Cx p l s m args meth c D ba RL cL_law 9 tb d) (hl : l.stackTraces = false) (hd : 12 ≤ d) {b9 L i0 : Nat} {xs : Nat → Int32} (hX : va_X b9 L xs s s.heap) (hb : b9 < ba) (hi : i0 + 6 ≤ L) (hL : L ≤ 3072) (hσ : cOK σ) (hcs : cells + 60 ≤ mc) (hss : slots + 300 ≤ ms) (K : ∀ ad2 σ2 tl t lo th ro lo2 ma ap f cells2 slots2, cOK σ2 → cells2 ≤ cells + 60 → slots2 ≤ slots + 300 → V p l e s m args below meth c D ba d mc ms Q 9 ad2 (LW ad2 σ2 tl t lo th ro lo2 ma ap f) 2272 [(4, .int (nI i0)), (3, .ref (ad2 [2])), (2, .ref (ad2 [1])), (1, .ref (ad2 [0])), (0, .ref b9)] [] cells2 slots2) : V p l e s m args below meth c D ba d mc ms Q 9 ad (LW ad σ tl t lo th ro lo2 ma ap f) 336 [(4, .int (nI i0)), (3, .ref (ad [2])), (2, .ref (ad [1])), (1, .ref (ad [0])), (0, .ref b9)] [] cells slots := by
  have hσ1 := hσ.1
  have hσ2 := hσ.2.1
  obtain ⟨k, y, σ2, hk4, hP, hσ2x, hW, hM⟩ := b_moveSurface (l := l) (D := D) (ba := ba) hl hσ (xs (i0 + 1)) (xs (i0 + 2)) (xs (i0 + 3))
  refine V_aload_n C dL_law_336 3 rfl ?_
  refine V_aload_n C dL_law_337 4 rfl ?_
  refine V_iload C dL_law_338 0 rfl ?_
  refine V_iconst (v := nI 1) C dL_law_340 (by decide) ?_
  refine V_iaddn C dL_law_341 ?_
  refine V_sldn C hX hb (i := i0 + 1) (by omega) (by omega) dL_law_342 ?_
  refine V_aload_n C dL_law_343 4 rfl ?_
  refine V_iload C dL_law_344 0 rfl ?_
  refine V_iconst (v := nI 2) C dL_law_346 (by decide) ?_
  refine V_iaddn C dL_law_347 ?_
  refine V_sldn C hX hb (i := i0 + 2) (by omega) (by omega) dL_law_348 ?_
  refine V_aload_n C dL_law_349 4 rfl ?_
  refine V_iload C dL_law_350 0 rfl ?_
  refine V_iconst (v := nI 3) C dL_law_352 (by decide) ?_
  refine V_iaddn C dL_law_353 ?_
  refine V_sldn C hX hb (i := i0 + 3) (by omega) (by omega) dL_law_354 ?_
  refine V_aload_n C dL_law_355 1 rfl ?_
  refine V_callSX C [.ref (ad [0]), .int (xs (i0 + 1)), .int (xs (i0 + 2)), .int (xs (i0 + 3)), .ref (ad [2])] dL_law_356 m_L_moveSurface k_L_moveSurface tw_403 rfl rfl (Nat.le_of_ble_eq_true rfl) ⟨by omega, by omega, by omega, by omega⟩ (hW _ _ _ _ _ _ _ (by omega) QW_2f) (kr_WR (fun ad2 hK tl t lo => ?_)) kx_no
  have e0 := hK.2; have e1 := hK.1 1 [] (by decide); have e2 := hK.1 2 [] (by decide)
  refine V_wd (w' := QW 1 ad2 σ th ro lo2 ma ap (PW 0 ad2 σ2 tl t lo (Bf (if k = 0 then vp_updL f 0 y.toInt64 else f)))) (LW_swap hK) ?_
  rw [← e0, ← e1, ← e2]
  refine V_istore C [(5, .int (nI k)), (4, .int (nI i0)), (3, .ref (ad2 [2])), (2, .ref (ad2 [1])), (1, .ref (ad2 [0])), (0, .ref b9)] dL_law_359 (by decide) rfl ?_
  refine V_aload_n C dL_law_361 3 rfl ?_
  refine V_aload_n C dL_law_362 5 rfl ?_
  refine V_iload C dL_law_363 1 rfl ?_
  refine V_iconst (v := nI 1) C dL_law_365 (by decide) ?_
  refine V_iaddn C dL_law_366 ?_
  refine V_sldn C hX hb (i := i0 + 1) (by omega) (by omega) dL_law_367 ?_
  refine V_aload_n C dL_law_368 5 rfl ?_
  refine V_iload C dL_law_369 1 rfl ?_
  refine V_iconst (v := nI 2) C dL_law_371 (by decide) ?_
  refine V_iaddn C dL_law_372 ?_
  refine V_sldn C hX hb (i := i0 + 2) (by omega) (by omega) dL_law_373 ?_
  refine V_aload_n C dL_law_374 5 rfl ?_
  refine V_iload C dL_law_375 1 rfl ?_
  refine V_iconst (v := nI 3) C dL_law_377 (by decide) ?_
  refine V_iaddn C dL_law_378 ?_
  refine V_sldn C hX hb (i := i0 + 3) (by omega) (by omega) dL_law_379 ?_
  refine V_callV (r := (RX7, TX7, 17)) C [.int (xs (i0 + 1)), .int (xs (i0 + 2)), .int (xs (i0 + 3))] dL_law_380 m_X7_moveSurface k_X7_moveSurface tw_747 rfl rfl rfl QW_o rfl rfl (Nat.le_of_ble_eq_true rfl) ⟨by omega, by omega, by omega, by omega⟩ (hM _ _ _ _ _ _ _ _ (by omega)) (kr_RQ (x := .int y) (fun ro lo2 ma ap => ?_)) kx_no
  refine V_istore C [(6, .int y), (5, .int (nI k)), (4, .int (nI i0)), (3, .ref (ad2 [2])), (2, .ref (ad2 [1])), (1, .ref (ad2 [0])), (0, .ref b9)] dL_law_383 (by decide) rfl ?_
  refine V_aload_n C dL_law_385 4 rfl ?_
  refine V_callV (r := (RX7, TX7, 17)) C [] dL_law_386 m_X7_thrown k_X7_thrown tw_720 rfl rfl rfl QW_o rfl rfl (Nat.le_of_ble_eq_true rfl) ⟨by omega, by omega, by omega, by omega⟩ (m_thrown hl (by omega) hσ2x) (kr_some (x := .int (nI k)) ?_) kx_no
  refine V_iload C dL_law_389 1 rfl ?_
  refine V_icmpn_eq (tgt := 396) C dL_law_391 (by decide) (by omega) (by omega) (fun hb1 => ?_) (fun hb1 => by exfalso; omega)
  refine V_iload C dL_law_396 1 rfl ?_
  refine V_ifn_ne (tgt := 413) C dL_law_398 (by decide) (by omega) (fun hb2 => ?_) (fun hb2 => ?_)
  · skip
    refine V_goto (tgt := 2272) C dL_law_413 (by decide) ?_
    refine V_wd (w' := LW ad2 σ2 tl t lo (nI k) ro lo2 ma ap (if k = 0 then vp_updL f 0 y.toInt64 else f)) (put_comm (by decide)) ?_
    refine V_lv [2, 3, 4, 5, 6] rfl ?_
    exact K _ _ _ _ _ _ _ _ _ _ _ _ _ hσ2x (by omega) (by omega)
  · skip
    refine V_aload_n C dL_law_401 3 rfl ?_
    refine V_iconst (v := nI 0) C dL_law_402 (by decide) ?_
    refine V_laldn (v := y.toInt64) C dL_law_403 rfl rfl (by decide) (by decide) (by rw [if_pos hb2]; rfl) ?_
    refine V_iload C dL_law_404 0 rfl ?_
    refine V_i2l C dL_law_406 rfl ?_
    refine V_lcmp C dL_law_407 ?_
    refine V_if_eq (tgt := 413) C dL_law_408 (by decide) (fun hb3 => ?_) (fun hb3 => by exfalso; exact hb3 (lg_self _))
    refine V_goto (tgt := 2272) C dL_law_413 (by decide) ?_
    refine V_wd (w' := LW ad2 σ2 tl t lo (nI k) ro lo2 ma ap (if k = 0 then vp_updL f 0 y.toInt64 else f)) (put_comm (by decide)) ?_
    refine V_lv [2, 3, 4, 5, 6] rfl ?_
    exact K _ _ _ _ _ _ _ _ _ _ _ _ _ hσ2x (by omega) (by omega)
set_option maxHeartbeats 4000000 in
theorem law_3 {p : Program} {l : Launch} {e : Env} {s : State} {m : MethodId} {args : Array Value} {below : List Frame} {meth : Method} {c : Code} {D : va_G} {ba d mc ms cells slots : Nat} {Q : State → Prop} {ad : Adr} {tb : List ExceptionTableEntry} {σ : CS} {tl : Int32} {t : TT} {lo : Nat → Int32} {th ro : Int32} {lo2 ma ap : Nat → Int32} {f : Nat → Int64} (C : Cx p l s m args meth c D ba RL cL_law 9 tb d) (hl : l.stackTraces = false) (hd : 12 ≤ d) {b9 L i0 : Nat} {xs : Nat → Int32} (hX : va_X b9 L xs s s.heap) (hb : b9 < ba) (hi : i0 + 6 ≤ L) (hL : L ≤ 3072) (hσ : cOK σ) (hcs : cells + 60 ≤ mc) (hss : slots + 300 ≤ ms) (K : ∀ ad2 σ2 tl t lo th ro lo2 ma ap f cells2 slots2, cOK σ2 → cells2 ≤ cells + 60 → slots2 ≤ slots + 300 → V p l e s m args below meth c D ba d mc ms Q 9 ad2 (LW ad2 σ2 tl t lo th ro lo2 ma ap f) 2272 [(4, .int (nI i0)), (3, .ref (ad2 [2])), (2, .ref (ad2 [1])), (1, .ref (ad2 [0])), (0, .ref b9)] [] cells2 slots2) : V p l e s m args below meth c D ba d mc ms Q 9 ad (LW ad σ tl t lo th ro lo2 ma ap f) 416 [(4, .int (nI i0)), (3, .ref (ad [2])), (2, .ref (ad [1])), (1, .ref (ad [0])), (0, .ref b9)] [] cells slots := by
  have hσ1 := hσ.1
  have hσ2 := hσ.2.1
  obtain ⟨k, y, σ2, hk4, hP, hσ2x, hW, hM⟩ := b_setDamping (l := l) (D := D) (ba := ba) hl hσ (xs (i0 + 1)) (xs (i0 + 2))
  refine V_aload_n C dL_law_416 3 rfl ?_
  refine V_aload_n C dL_law_417 4 rfl ?_
  refine V_iload C dL_law_418 0 rfl ?_
  refine V_iconst (v := nI 1) C dL_law_420 (by decide) ?_
  refine V_iaddn C dL_law_421 ?_
  refine V_sldn C hX hb (i := i0 + 1) (by omega) (by omega) dL_law_422 ?_
  refine V_aload_n C dL_law_423 4 rfl ?_
  refine V_iload C dL_law_424 0 rfl ?_
  refine V_iconst (v := nI 2) C dL_law_426 (by decide) ?_
  refine V_iaddn C dL_law_427 ?_
  refine V_sldn C hX hb (i := i0 + 2) (by omega) (by omega) dL_law_428 ?_
  refine V_aload_n C dL_law_429 1 rfl ?_
  refine V_callSX C [.ref (ad [0]), .int (xs (i0 + 1)), .int (xs (i0 + 2)), .ref (ad [2])] dL_law_430 m_L_setDamping k_L_setDamping tw_415 rfl rfl (Nat.le_of_ble_eq_true rfl) ⟨by omega, by omega, by omega, by omega⟩ (hW _ _ _ _ _ _ _ (by omega) QW_2f) (kr_WR (fun ad2 hK tl t lo => ?_)) kx_no
  have e0 := hK.2; have e1 := hK.1 1 [] (by decide); have e2 := hK.1 2 [] (by decide)
  refine V_wd (w' := QW 1 ad2 σ th ro lo2 ma ap (PW 0 ad2 σ2 tl t lo (Bf (if k = 0 then vp_updL f 0 y.toInt64 else f)))) (LW_swap hK) ?_
  rw [← e0, ← e1, ← e2]
  refine V_istore C [(5, .int (nI k)), (4, .int (nI i0)), (3, .ref (ad2 [2])), (2, .ref (ad2 [1])), (1, .ref (ad2 [0])), (0, .ref b9)] dL_law_433 (by decide) rfl ?_
  refine V_aload_n C dL_law_435 3 rfl ?_
  refine V_aload_n C dL_law_436 5 rfl ?_
  refine V_iload C dL_law_437 1 rfl ?_
  refine V_iconst (v := nI 1) C dL_law_439 (by decide) ?_
  refine V_iaddn C dL_law_440 ?_
  refine V_sldn C hX hb (i := i0 + 1) (by omega) (by omega) dL_law_441 ?_
  refine V_aload_n C dL_law_442 5 rfl ?_
  refine V_iload C dL_law_443 1 rfl ?_
  refine V_iconst (v := nI 2) C dL_law_445 (by decide) ?_
  refine V_iaddn C dL_law_446 ?_
  refine V_sldn C hX hb (i := i0 + 2) (by omega) (by omega) dL_law_447 ?_
  refine V_callV (r := (RX7, TX7, 17)) C [.int (xs (i0 + 1)), .int (xs (i0 + 2))] dL_law_448 m_X7_setDamping k_X7_setDamping tw_755 rfl rfl rfl QW_o rfl rfl (Nat.le_of_ble_eq_true rfl) ⟨by omega, by omega, by omega, by omega⟩ (hM _ _ _ _ _ _ _ _ (by omega)) (kr_RQ (x := .int y) (fun ro lo2 ma ap => ?_)) kx_no
  refine V_istore C [(6, .int y), (5, .int (nI k)), (4, .int (nI i0)), (3, .ref (ad2 [2])), (2, .ref (ad2 [1])), (1, .ref (ad2 [0])), (0, .ref b9)] dL_law_451 (by decide) rfl ?_
  refine V_aload_n C dL_law_453 4 rfl ?_
  refine V_callV (r := (RX7, TX7, 17)) C [] dL_law_454 m_X7_thrown k_X7_thrown tw_720 rfl rfl rfl QW_o rfl rfl (Nat.le_of_ble_eq_true rfl) ⟨by omega, by omega, by omega, by omega⟩ (m_thrown hl (by omega) hσ2x) (kr_some (x := .int (nI k)) ?_) kx_no
  refine V_iload C dL_law_457 1 rfl ?_
  refine V_icmpn_eq (tgt := 464) C dL_law_459 (by decide) (by omega) (by omega) (fun hb1 => ?_) (fun hb1 => by exfalso; omega)
  refine V_iload C dL_law_464 1 rfl ?_
  refine V_ifn_ne (tgt := 481) C dL_law_466 (by decide) (by omega) (fun hb2 => ?_) (fun hb2 => ?_)
  · skip
    refine V_goto (tgt := 2272) C dL_law_481 (by decide) ?_
    refine V_wd (w' := LW ad2 σ2 tl t lo (nI k) ro lo2 ma ap (if k = 0 then vp_updL f 0 y.toInt64 else f)) (put_comm (by decide)) ?_
    refine V_lv [2, 3, 4, 5, 6] rfl ?_
    exact K _ _ _ _ _ _ _ _ _ _ _ _ _ hσ2x (by omega) (by omega)
  · skip
    refine V_aload_n C dL_law_469 3 rfl ?_
    refine V_iconst (v := nI 0) C dL_law_470 (by decide) ?_
    refine V_laldn (v := y.toInt64) C dL_law_471 rfl rfl (by decide) (by decide) (by rw [if_pos hb2]; rfl) ?_
    refine V_iload C dL_law_472 0 rfl ?_
    refine V_i2l C dL_law_474 rfl ?_
    refine V_lcmp C dL_law_475 ?_
    refine V_if_eq (tgt := 481) C dL_law_476 (by decide) (fun hb3 => ?_) (fun hb3 => by exfalso; exact hb3 (lg_self _))
    refine V_goto (tgt := 2272) C dL_law_481 (by decide) ?_
    refine V_wd (w' := LW ad2 σ2 tl t lo (nI k) ro lo2 ma ap (if k = 0 then vp_updL f 0 y.toInt64 else f)) (put_comm (by decide)) ?_
    refine V_lv [2, 3, 4, 5, 6] rfl ?_
    exact K _ _ _ _ _ _ _ _ _ _ _ _ _ hσ2x (by omega) (by omega)
set_option maxHeartbeats 4000000 in
theorem law_4 {p : Program} {l : Launch} {e : Env} {s : State} {m : MethodId} {args : Array Value} {below : List Frame} {meth : Method} {c : Code} {D : va_G} {ba d mc ms cells slots : Nat} {Q : State → Prop} {ad : Adr} {tb : List ExceptionTableEntry} {σ : CS} {tl : Int32} {t : TT} {lo : Nat → Int32} {th ro : Int32} {lo2 ma ap : Nat → Int32} {f : Nat → Int64} (C : Cx p l s m args meth c D ba RL cL_law 9 tb d) (hl : l.stackTraces = false) (hd : 12 ≤ d) {b9 L i0 : Nat} {xs : Nat → Int32} (hX : va_X b9 L xs s s.heap) (hb : b9 < ba) (hi : i0 + 6 ≤ L) (hL : L ≤ 3072) (hσ : cOK σ) (hcs : cells + 60 ≤ mc) (hss : slots + 300 ≤ ms) (K : ∀ ad2 σ2 tl t lo th ro lo2 ma ap f cells2 slots2, cOK σ2 → cells2 ≤ cells + 60 → slots2 ≤ slots + 300 → V p l e s m args below meth c D ba d mc ms Q 9 ad2 (LW ad2 σ2 tl t lo th ro lo2 ma ap f) 2272 [(4, .int (nI i0)), (3, .ref (ad2 [2])), (2, .ref (ad2 [1])), (1, .ref (ad2 [0])), (0, .ref b9)] [] cells2 slots2) : V p l e s m args below meth c D ba d mc ms Q 9 ad (LW ad σ tl t lo th ro lo2 ma ap f) 484 [(4, .int (nI i0)), (3, .ref (ad [2])), (2, .ref (ad [1])), (1, .ref (ad [0])), (0, .ref b9)] [] cells slots := by
  have hσ1 := hσ.1
  have hσ2 := hσ.2.1
  obtain ⟨k, y, σ2, hk4, hP, hσ2x, hW, hM⟩ := b_clean (l := l) (D := D) (ba := ba) hl hσ (xs (i0 + 1))
  refine V_aload_n C dL_law_484 3 rfl ?_
  refine V_aload_n C dL_law_485 4 rfl ?_
  refine V_iload C dL_law_486 0 rfl ?_
  refine V_iconst (v := nI 1) C dL_law_488 (by decide) ?_
  refine V_iaddn C dL_law_489 ?_
  refine V_sldn C hX hb (i := i0 + 1) (by omega) (by omega) dL_law_490 ?_
  refine V_aload_n C dL_law_491 1 rfl ?_
  refine V_callSX C [.ref (ad [0]), .int (xs (i0 + 1)), .ref (ad [2])] dL_law_492 m_L_clean k_L_clean tw_422 rfl rfl (Nat.le_of_ble_eq_true rfl) ⟨by omega, by omega, by omega, by omega⟩ (hW _ _ _ _ _ _ _ (by omega) QW_2f) (kr_WR (fun ad2 hK tl t lo => ?_)) kx_no
  have e0 := hK.2; have e1 := hK.1 1 [] (by decide); have e2 := hK.1 2 [] (by decide)
  refine V_wd (w' := QW 1 ad2 σ th ro lo2 ma ap (PW 0 ad2 σ2 tl t lo (Bf (if k = 0 then vp_updL f 0 y.toInt64 else f)))) (LW_swap hK) ?_
  rw [← e0, ← e1, ← e2]
  refine V_istore C [(5, .int (nI k)), (4, .int (nI i0)), (3, .ref (ad2 [2])), (2, .ref (ad2 [1])), (1, .ref (ad2 [0])), (0, .ref b9)] dL_law_495 (by decide) rfl ?_
  refine V_aload_n C dL_law_497 3 rfl ?_
  refine V_aload_n C dL_law_498 5 rfl ?_
  refine V_iload C dL_law_499 1 rfl ?_
  refine V_iconst (v := nI 1) C dL_law_501 (by decide) ?_
  refine V_iaddn C dL_law_502 ?_
  refine V_sldn C hX hb (i := i0 + 1) (by omega) (by omega) dL_law_503 ?_
  refine V_callV (r := (RX7, TX7, 17)) C [.int (xs (i0 + 1))] dL_law_504 m_X7_clean k_X7_clean tw_759 rfl rfl rfl QW_o rfl rfl (Nat.le_of_ble_eq_true rfl) ⟨by omega, by omega, by omega, by omega⟩ (hM _ _ _ _ _ _ _ _ (by omega)) (kr_RQ (x := .int y) (fun ro lo2 ma ap => ?_)) kx_no
  refine V_istore C [(6, .int y), (5, .int (nI k)), (4, .int (nI i0)), (3, .ref (ad2 [2])), (2, .ref (ad2 [1])), (1, .ref (ad2 [0])), (0, .ref b9)] dL_law_507 (by decide) rfl ?_
  refine V_aload_n C dL_law_509 4 rfl ?_
  refine V_callV (r := (RX7, TX7, 17)) C [] dL_law_510 m_X7_thrown k_X7_thrown tw_720 rfl rfl rfl QW_o rfl rfl (Nat.le_of_ble_eq_true rfl) ⟨by omega, by omega, by omega, by omega⟩ (m_thrown hl (by omega) hσ2x) (kr_some (x := .int (nI k)) ?_) kx_no
  refine V_iload C dL_law_513 1 rfl ?_
  refine V_icmpn_eq (tgt := 520) C dL_law_515 (by decide) (by omega) (by omega) (fun hb1 => ?_) (fun hb1 => by exfalso; omega)
  refine V_iload C dL_law_520 1 rfl ?_
  refine V_ifn_ne (tgt := 537) C dL_law_522 (by decide) (by omega) (fun hb2 => ?_) (fun hb2 => ?_)
  · skip
    refine V_goto (tgt := 2272) C dL_law_537 (by decide) ?_
    refine V_wd (w' := LW ad2 σ2 tl t lo (nI k) ro lo2 ma ap (if k = 0 then vp_updL f 0 y.toInt64 else f)) (put_comm (by decide)) ?_
    refine V_lv [2, 3, 4, 5, 6] rfl ?_
    exact K _ _ _ _ _ _ _ _ _ _ _ _ _ hσ2x (by omega) (by omega)
  · skip
    refine V_aload_n C dL_law_525 3 rfl ?_
    refine V_iconst (v := nI 0) C dL_law_526 (by decide) ?_
    refine V_laldn (v := y.toInt64) C dL_law_527 rfl rfl (by decide) (by decide) (by rw [if_pos hb2]; rfl) ?_
    refine V_iload C dL_law_528 0 rfl ?_
    refine V_i2l C dL_law_530 rfl ?_
    refine V_lcmp C dL_law_531 ?_
    refine V_if_eq (tgt := 537) C dL_law_532 (by decide) (fun hb3 => ?_) (fun hb3 => by exfalso; exact hb3 (lg_self _))
    refine V_goto (tgt := 2272) C dL_law_537 (by decide) ?_
    refine V_wd (w' := LW ad2 σ2 tl t lo (nI k) ro lo2 ma ap (if k = 0 then vp_updL f 0 y.toInt64 else f)) (put_comm (by decide)) ?_
    refine V_lv [2, 3, 4, 5, 6] rfl ?_
    exact K _ _ _ _ _ _ _ _ _ _ _ _ _ hσ2x (by omega) (by omega)
set_option maxHeartbeats 4000000 in
theorem law_5 {p : Program} {l : Launch} {e : Env} {s : State} {m : MethodId} {args : Array Value} {below : List Frame} {meth : Method} {c : Code} {D : va_G} {ba d mc ms cells slots : Nat} {Q : State → Prop} {ad : Adr} {tb : List ExceptionTableEntry} {σ : CS} {tl : Int32} {t : TT} {lo : Nat → Int32} {th ro : Int32} {lo2 ma ap : Nat → Int32} {f : Nat → Int64} (C : Cx p l s m args meth c D ba RL cL_law 9 tb d) (hl : l.stackTraces = false) (hd : 12 ≤ d) {b9 L i0 : Nat} {xs : Nat → Int32} (hX : va_X b9 L xs s s.heap) (hb : b9 < ba) (hi : i0 + 6 ≤ L) (hL : L ≤ 3072) (hσ : cOK σ) (hcs : cells + 60 ≤ mc) (hss : slots + 300 ≤ ms) (K : ∀ ad2 σ2 tl t lo th ro lo2 ma ap f cells2 slots2, cOK σ2 → cells2 ≤ cells + 60 → slots2 ≤ slots + 300 → V p l e s m args below meth c D ba d mc ms Q 9 ad2 (LW ad2 σ2 tl t lo th ro lo2 ma ap f) 2272 [(4, .int (nI i0)), (3, .ref (ad2 [2])), (2, .ref (ad2 [1])), (1, .ref (ad2 [0])), (0, .ref b9)] [] cells2 slots2) : V p l e s m args below meth c D ba d mc ms Q 9 ad (LW ad σ tl t lo th ro lo2 ma ap f) 540 [(4, .int (nI i0)), (3, .ref (ad [2])), (2, .ref (ad [1])), (1, .ref (ad [0])), (0, .ref b9)] [] cells slots := by
  have hσ1 := hσ.1
  have hσ2 := hσ.2.1
  obtain ⟨k, y, σ2, hk4, hP, hσ2x, hW, hM⟩ := b_addStandard (l := l) (D := D) (ba := ba) hl hσ (xs (i0 + 1)) (xs (i0 + 2)) (xs (i0 + 3)) (xs (i0 + 4)) (xs (i0 + 5))
  refine V_aload_n C dL_law_540 3 rfl ?_
  refine V_aload_n C dL_law_541 4 rfl ?_
  refine V_iload C dL_law_542 0 rfl ?_
  refine V_iconst (v := nI 1) C dL_law_544 (by decide) ?_
  refine V_iaddn C dL_law_545 ?_
  refine V_sldn C hX hb (i := i0 + 1) (by omega) (by omega) dL_law_546 ?_
  refine V_aload_n C dL_law_547 4 rfl ?_
  refine V_iload C dL_law_548 0 rfl ?_
  refine V_iconst (v := nI 2) C dL_law_550 (by decide) ?_
  refine V_iaddn C dL_law_551 ?_
  refine V_sldn C hX hb (i := i0 + 2) (by omega) (by omega) dL_law_552 ?_
  refine V_aload_n C dL_law_553 4 rfl ?_
  refine V_iload C dL_law_554 0 rfl ?_
  refine V_iconst (v := nI 3) C dL_law_556 (by decide) ?_
  refine V_iaddn C dL_law_557 ?_
  refine V_sldn C hX hb (i := i0 + 3) (by omega) (by omega) dL_law_558 ?_
  refine V_aload_n C dL_law_559 4 rfl ?_
  refine V_iload C dL_law_560 0 rfl ?_
  refine V_iconst (v := nI 4) C dL_law_562 (by decide) ?_
  refine V_iaddn C dL_law_563 ?_
  refine V_sldn C hX hb (i := i0 + 4) (by omega) (by omega) dL_law_564 ?_
  refine V_aload_n C dL_law_565 4 rfl ?_
  refine V_iload C dL_law_566 0 rfl ?_
  refine V_iconst (v := nI 5) C dL_law_568 (by decide) ?_
  refine V_iaddn C dL_law_569 ?_
  refine V_sldn C hX hb (i := i0 + 5) (by omega) (by omega) dL_law_570 ?_
  refine V_aload_n C dL_law_571 1 rfl ?_
  refine V_callSX C [.ref (ad [0]), .int (xs (i0 + 1)), .int (xs (i0 + 2)), .int (xs (i0 + 3)), .int (xs (i0 + 4)), .int (xs (i0 + 5)), .ref (ad [2])] dL_law_572 m_L_addStandard k_L_addStandard tw_429 rfl rfl (Nat.le_of_ble_eq_true rfl) ⟨by omega, by omega, by omega, by omega⟩ (hW _ _ _ _ _ _ _ (by omega) QW_2f) (kr_WR (fun ad2 hK tl t lo => ?_)) kx_no
  have e0 := hK.2; have e1 := hK.1 1 [] (by decide); have e2 := hK.1 2 [] (by decide)
  refine V_wd (w' := QW 1 ad2 σ th ro lo2 ma ap (PW 0 ad2 σ2 tl t lo (Bf (if k = 0 then vp_updL f 0 y.toInt64 else f)))) (LW_swap hK) ?_
  rw [← e0, ← e1, ← e2]
  refine V_istore C [(5, .int (nI k)), (4, .int (nI i0)), (3, .ref (ad2 [2])), (2, .ref (ad2 [1])), (1, .ref (ad2 [0])), (0, .ref b9)] dL_law_575 (by decide) rfl ?_
  refine V_aload_n C dL_law_577 3 rfl ?_
  refine V_aload_n C dL_law_578 5 rfl ?_
  refine V_iload C dL_law_579 1 rfl ?_
  refine V_iconst (v := nI 1) C dL_law_581 (by decide) ?_
  refine V_iaddn C dL_law_582 ?_
  refine V_sldn C hX hb (i := i0 + 1) (by omega) (by omega) dL_law_583 ?_
  refine V_aload_n C dL_law_584 5 rfl ?_
  refine V_iload C dL_law_585 1 rfl ?_
  refine V_iconst (v := nI 2) C dL_law_587 (by decide) ?_
  refine V_iaddn C dL_law_588 ?_
  refine V_sldn C hX hb (i := i0 + 2) (by omega) (by omega) dL_law_589 ?_
  refine V_aload_n C dL_law_590 5 rfl ?_
  refine V_iload C dL_law_591 1 rfl ?_
  refine V_iconst (v := nI 3) C dL_law_593 (by decide) ?_
  refine V_iaddn C dL_law_594 ?_
  refine V_sldn C hX hb (i := i0 + 3) (by omega) (by omega) dL_law_595 ?_
  refine V_aload_n C dL_law_596 5 rfl ?_
  refine V_iload C dL_law_597 1 rfl ?_
  refine V_iconst (v := nI 4) C dL_law_599 (by decide) ?_
  refine V_iaddn C dL_law_600 ?_
  refine V_sldn C hX hb (i := i0 + 4) (by omega) (by omega) dL_law_601 ?_
  refine V_aload_n C dL_law_602 5 rfl ?_
  refine V_iload C dL_law_603 1 rfl ?_
  refine V_iconst (v := nI 5) C dL_law_605 (by decide) ?_
  refine V_iaddn C dL_law_606 ?_
  refine V_sldn C hX hb (i := i0 + 5) (by omega) (by omega) dL_law_607 ?_
  refine V_callV (r := (RX7, TX7, 17)) C [.int (xs (i0 + 1)), .int (xs (i0 + 2)), .int (xs (i0 + 3)), .int (xs (i0 + 4)), .int (xs (i0 + 5))] dL_law_608 m_X7_addStandard k_X7_addStandard tw_763 rfl rfl rfl QW_o rfl rfl (Nat.le_of_ble_eq_true rfl) ⟨by omega, by omega, by omega, by omega⟩ (hM _ _ _ _ _ _ _ _ (by omega)) (kr_RQ (x := .int y) (fun ro lo2 ma ap => ?_)) kx_no
  refine V_istore C [(6, .int y), (5, .int (nI k)), (4, .int (nI i0)), (3, .ref (ad2 [2])), (2, .ref (ad2 [1])), (1, .ref (ad2 [0])), (0, .ref b9)] dL_law_611 (by decide) rfl ?_
  refine V_aload_n C dL_law_613 4 rfl ?_
  refine V_callV (r := (RX7, TX7, 17)) C [] dL_law_614 m_X7_thrown k_X7_thrown tw_720 rfl rfl rfl QW_o rfl rfl (Nat.le_of_ble_eq_true rfl) ⟨by omega, by omega, by omega, by omega⟩ (m_thrown hl (by omega) hσ2x) (kr_some (x := .int (nI k)) ?_) kx_no
  refine V_iload C dL_law_617 1 rfl ?_
  refine V_icmpn_eq (tgt := 624) C dL_law_619 (by decide) (by omega) (by omega) (fun hb1 => ?_) (fun hb1 => by exfalso; omega)
  refine V_iload C dL_law_624 1 rfl ?_
  refine V_ifn_ne (tgt := 641) C dL_law_626 (by decide) (by omega) (fun hb2 => ?_) (fun hb2 => ?_)
  · skip
    refine V_goto (tgt := 2272) C dL_law_641 (by decide) ?_
    refine V_wd (w' := LW ad2 σ2 tl t lo (nI k) ro lo2 ma ap (if k = 0 then vp_updL f 0 y.toInt64 else f)) (put_comm (by decide)) ?_
    refine V_lv [2, 3, 4, 5, 6] rfl ?_
    exact K _ _ _ _ _ _ _ _ _ _ _ _ _ hσ2x (by omega) (by omega)
  · skip
    refine V_aload_n C dL_law_629 3 rfl ?_
    refine V_iconst (v := nI 0) C dL_law_630 (by decide) ?_
    refine V_laldn (v := y.toInt64) C dL_law_631 rfl rfl (by decide) (by decide) (by rw [if_pos hb2]; rfl) ?_
    refine V_iload C dL_law_632 0 rfl ?_
    refine V_i2l C dL_law_634 rfl ?_
    refine V_lcmp C dL_law_635 ?_
    refine V_if_eq (tgt := 641) C dL_law_636 (by decide) (fun hb3 => ?_) (fun hb3 => by exfalso; exact hb3 (lg_self _))
    refine V_goto (tgt := 2272) C dL_law_641 (by decide) ?_
    refine V_wd (w' := LW ad2 σ2 tl t lo (nI k) ro lo2 ma ap (if k = 0 then vp_updL f 0 y.toInt64 else f)) (put_comm (by decide)) ?_
    refine V_lv [2, 3, 4, 5, 6] rfl ?_
    exact K _ _ _ _ _ _ _ _ _ _ _ _ _ hσ2x (by omega) (by omega)
set_option maxHeartbeats 4000000 in
theorem law_6 {p : Program} {l : Launch} {e : Env} {s : State} {m : MethodId} {args : Array Value} {below : List Frame} {meth : Method} {c : Code} {D : va_G} {ba d mc ms cells slots : Nat} {Q : State → Prop} {ad : Adr} {tb : List ExceptionTableEntry} {σ : CS} {tl : Int32} {t : TT} {lo : Nat → Int32} {th ro : Int32} {lo2 ma ap : Nat → Int32} {f : Nat → Int64} (C : Cx p l s m args meth c D ba RL cL_law 9 tb d) (hl : l.stackTraces = false) (hd : 12 ≤ d) {b9 L i0 : Nat} {xs : Nat → Int32} (hX : va_X b9 L xs s s.heap) (hb : b9 < ba) (hi : i0 + 6 ≤ L) (hL : L ≤ 3072) (hσ : cOK σ) (hcs : cells + 60 ≤ mc) (hss : slots + 300 ≤ ms) (K : ∀ ad2 σ2 tl t lo th ro lo2 ma ap f cells2 slots2, cOK σ2 → cells2 ≤ cells + 60 → slots2 ≤ slots + 300 → V p l e s m args below meth c D ba d mc ms Q 9 ad2 (LW ad2 σ2 tl t lo th ro lo2 ma ap f) 2272 [(4, .int (nI i0)), (3, .ref (ad2 [2])), (2, .ref (ad2 [1])), (1, .ref (ad2 [0])), (0, .ref b9)] [] cells2 slots2) : V p l e s m args below meth c D ba d mc ms Q 9 ad (LW ad σ tl t lo th ro lo2 ma ap f) 644 [(4, .int (nI i0)), (3, .ref (ad [2])), (2, .ref (ad [1])), (1, .ref (ad [0])), (0, .ref b9)] [] cells slots := by
  have hσ1 := hσ.1
  have hσ2 := hσ.2.1
  obtain ⟨k, y, σ2, hk4, hP, hσ2x, hW, hM⟩ := b_inspect (l := l) (D := D) (ba := ba) hl hσ (xs (i0 + 1)) (xs (i0 + 2))
  refine V_aload_n C dL_law_644 3 rfl ?_
  refine V_aload_n C dL_law_645 4 rfl ?_
  refine V_iload C dL_law_646 0 rfl ?_
  refine V_iconst (v := nI 1) C dL_law_648 (by decide) ?_
  refine V_iaddn C dL_law_649 ?_
  refine V_sldn C hX hb (i := i0 + 1) (by omega) (by omega) dL_law_650 ?_
  refine V_aload_n C dL_law_651 4 rfl ?_
  refine V_iload C dL_law_652 0 rfl ?_
  refine V_iconst (v := nI 2) C dL_law_654 (by decide) ?_
  refine V_iaddn C dL_law_655 ?_
  refine V_sldn C hX hb (i := i0 + 2) (by omega) (by omega) dL_law_656 ?_
  refine V_aload_n C dL_law_657 1 rfl ?_
  refine V_callSX C [.ref (ad [0]), .int (xs (i0 + 1)), .int (xs (i0 + 2)), .ref (ad [2])] dL_law_658 m_L_inspect k_L_inspect tw_460 rfl rfl (Nat.le_of_ble_eq_true rfl) ⟨by omega, by omega, by omega, by omega⟩ (hW _ _ _ _ _ _ _ (by omega) QW_2f) (kr_WR (fun ad2 hK tl t lo => ?_)) kx_no
  have e0 := hK.2; have e1 := hK.1 1 [] (by decide); have e2 := hK.1 2 [] (by decide)
  refine V_wd (w' := QW 1 ad2 σ th ro lo2 ma ap (PW 0 ad2 σ2 tl t lo (Bf (if k = 0 then vp_updL f 0 y.toInt64 else f)))) (LW_swap hK) ?_
  rw [← e0, ← e1, ← e2]
  refine V_istore C [(5, .int (nI k)), (4, .int (nI i0)), (3, .ref (ad2 [2])), (2, .ref (ad2 [1])), (1, .ref (ad2 [0])), (0, .ref b9)] dL_law_661 (by decide) rfl ?_
  refine V_aload_n C dL_law_663 3 rfl ?_
  refine V_aload_n C dL_law_664 5 rfl ?_
  refine V_iload C dL_law_665 1 rfl ?_
  refine V_iconst (v := nI 1) C dL_law_667 (by decide) ?_
  refine V_iaddn C dL_law_668 ?_
  refine V_sldn C hX hb (i := i0 + 1) (by omega) (by omega) dL_law_669 ?_
  refine V_aload_n C dL_law_670 5 rfl ?_
  refine V_iload C dL_law_671 1 rfl ?_
  refine V_iconst (v := nI 2) C dL_law_673 (by decide) ?_
  refine V_iaddn C dL_law_674 ?_
  refine V_sldn C hX hb (i := i0 + 2) (by omega) (by omega) dL_law_675 ?_
  refine V_callV (r := (RX7, TX7, 17)) C [.int (xs (i0 + 1)), .int (xs (i0 + 2))] dL_law_676 m_X7_inspect k_X7_inspect tw_770 rfl rfl rfl QW_o rfl rfl (Nat.le_of_ble_eq_true rfl) ⟨by omega, by omega, by omega, by omega⟩ (hM _ _ _ _ _ _ _ _ (by omega)) (kr_RQ (x := .int y) (fun ro lo2 ma ap => ?_)) kx_no
  refine V_istore C [(6, .int y), (5, .int (nI k)), (4, .int (nI i0)), (3, .ref (ad2 [2])), (2, .ref (ad2 [1])), (1, .ref (ad2 [0])), (0, .ref b9)] dL_law_679 (by decide) rfl ?_
  refine V_aload_n C dL_law_681 4 rfl ?_
  refine V_callV (r := (RX7, TX7, 17)) C [] dL_law_682 m_X7_thrown k_X7_thrown tw_720 rfl rfl rfl QW_o rfl rfl (Nat.le_of_ble_eq_true rfl) ⟨by omega, by omega, by omega, by omega⟩ (m_thrown hl (by omega) hσ2x) (kr_some (x := .int (nI k)) ?_) kx_no
  refine V_iload C dL_law_685 1 rfl ?_
  refine V_icmpn_eq (tgt := 692) C dL_law_687 (by decide) (by omega) (by omega) (fun hb1 => ?_) (fun hb1 => by exfalso; omega)
  refine V_iload C dL_law_692 1 rfl ?_
  refine V_ifn_ne (tgt := 716) C dL_law_694 (by decide) (by omega) (fun hb2 => ?_) (fun hb2 => ?_)
  · skip
    refine V_goto (tgt := 2272) C dL_law_716 (by decide) ?_
    refine V_wd (w' := LW ad2 σ2 tl t lo (nI k) ro lo2 ma ap (if k = 0 then vp_updL f 0 y.toInt64 else f)) (put_comm (by decide)) ?_
    refine V_lv [2, 3, 4, 5, 6] rfl ?_
    exact K _ _ _ _ _ _ _ _ _ _ _ _ _ hσ2x (by omega) (by omega)
  · skip
    refine V_aload_n C dL_law_697 3 rfl ?_
    refine V_iconst (v := nI 0) C dL_law_698 (by decide) ?_
    refine V_laldn (v := y.toInt64) C dL_law_699 rfl rfl (by decide) (by decide) (by rw [if_pos hb2]; rfl) ?_
    refine V_iload C dL_law_700 0 rfl ?_
    refine V_if_eq (tgt := 709) C dL_law_702 (by decide) (fun hb3 => ?_) (fun hb3 => ?_)
    · skip
      refine V_lconst (v := 0) C dL_law_709 (by decide) ?_
      refine V_lcmp C dL_law_710 ?_
      refine V_if_eq (tgt := 716) C dL_law_711 (by decide) (fun hb4 => ?_) (fun hb4 => by exfalso; exact hb4 (by rw [hb3]; rfl))
      refine V_goto (tgt := 2272) C dL_law_716 (by decide) ?_
      refine V_wd (w' := LW ad2 σ2 tl t lo (nI k) ro lo2 ma ap (if k = 0 then vp_updL f 0 y.toInt64 else f)) (put_comm (by decide)) ?_
      refine V_lv [2, 3, 4, 5, 6] rfl ?_
      exact K _ _ _ _ _ _ _ _ _ _ _ _ _ hσ2x (by omega) (by omega)
    · skip
      refine V_lconst (v := 1) C dL_law_705 (by decide) ?_
      refine V_goto (tgt := 710) C dL_law_706 (by decide) ?_
      refine V_lcmp C dL_law_710 ?_
      refine V_if_eq (tgt := 716) C dL_law_711 (by decide) (fun hb5 => ?_) (fun hb5 => by exfalso; exact hb5 (by rw [hP.resolve_left hb3]; rfl))
      refine V_goto (tgt := 2272) C dL_law_716 (by decide) ?_
      refine V_wd (w' := LW ad2 σ2 tl t lo (nI k) ro lo2 ma ap (if k = 0 then vp_updL f 0 y.toInt64 else f)) (put_comm (by decide)) ?_
      refine V_lv [2, 3, 4, 5, 6] rfl ?_
      exact K _ _ _ _ _ _ _ _ _ _ _ _ _ hσ2x (by omega) (by omega)
set_option maxHeartbeats 4000000 in
theorem law_7 {p : Program} {l : Launch} {e : Env} {s : State} {m : MethodId} {args : Array Value} {below : List Frame} {meth : Method} {c : Code} {D : va_G} {ba d mc ms cells slots : Nat} {Q : State → Prop} {ad : Adr} {tb : List ExceptionTableEntry} {σ : CS} {tl : Int32} {t : TT} {lo : Nat → Int32} {th ro : Int32} {lo2 ma ap : Nat → Int32} {f : Nat → Int64} (C : Cx p l s m args meth c D ba RL cL_law 9 tb d) (hl : l.stackTraces = false) (hd : 12 ≤ d) {b9 L i0 : Nat} {xs : Nat → Int32} (hX : va_X b9 L xs s s.heap) (hb : b9 < ba) (hi : i0 + 6 ≤ L) (hL : L ≤ 3072) (hσ : cOK σ) (hcs : cells + 60 ≤ mc) (hss : slots + 300 ≤ ms) (K : ∀ ad2 σ2 tl t lo th ro lo2 ma ap f cells2 slots2, cOK σ2 → cells2 ≤ cells + 60 → slots2 ≤ slots + 300 → V p l e s m args below meth c D ba d mc ms Q 9 ad2 (LW ad2 σ2 tl t lo th ro lo2 ma ap f) 2272 [(4, .int (nI i0)), (3, .ref (ad2 [2])), (2, .ref (ad2 [1])), (1, .ref (ad2 [0])), (0, .ref b9)] [] cells2 slots2) : V p l e s m args below meth c D ba d mc ms Q 9 ad (LW ad σ tl t lo th ro lo2 ma ap f) 719 [(4, .int (nI i0)), (3, .ref (ad [2])), (2, .ref (ad [1])), (1, .ref (ad [0])), (0, .ref b9)] [] cells slots := by
  have hσ1 := hσ.1
  have hσ2 := hσ.2.1
  obtain ⟨k, y, σ2, hk4, hP, hσ2x, hW, hM⟩ := b_revoke (l := l) (D := D) (ba := ba) hl hσ (xs (i0 + 1))
  refine V_aload_n C dL_law_719 3 rfl ?_
  refine V_aload_n C dL_law_720 4 rfl ?_
  refine V_iload C dL_law_721 0 rfl ?_
  refine V_iconst (v := nI 1) C dL_law_723 (by decide) ?_
  refine V_iaddn C dL_law_724 ?_
  refine V_sldn C hX hb (i := i0 + 1) (by omega) (by omega) dL_law_725 ?_
  refine V_aload_n C dL_law_726 1 rfl ?_
  refine V_callSX C [.ref (ad [0]), .int (xs (i0 + 1)), .ref (ad [2])] dL_law_727 m_L_revoke k_L_revoke tw_477 rfl rfl (Nat.le_of_ble_eq_true rfl) ⟨by omega, by omega, by omega, by omega⟩ (hW _ _ _ _ _ _ _ (by omega) QW_2f) (kr_WR (fun ad2 hK tl t lo => ?_)) kx_no
  have e0 := hK.2; have e1 := hK.1 1 [] (by decide); have e2 := hK.1 2 [] (by decide)
  refine V_wd (w' := QW 1 ad2 σ th ro lo2 ma ap (PW 0 ad2 σ2 tl t lo (Bf (if k = 0 then vp_updL f 0 y.toInt64 else f)))) (LW_swap hK) ?_
  rw [← e0, ← e1, ← e2]
  refine V_istore C [(5, .int (nI k)), (4, .int (nI i0)), (3, .ref (ad2 [2])), (2, .ref (ad2 [1])), (1, .ref (ad2 [0])), (0, .ref b9)] dL_law_730 (by decide) rfl ?_
  refine V_aload_n C dL_law_732 3 rfl ?_
  refine V_aload_n C dL_law_733 5 rfl ?_
  refine V_iload C dL_law_734 1 rfl ?_
  refine V_iconst (v := nI 1) C dL_law_736 (by decide) ?_
  refine V_iaddn C dL_law_737 ?_
  refine V_sldn C hX hb (i := i0 + 1) (by omega) (by omega) dL_law_738 ?_
  refine V_callV (r := (RX7, TX7, 17)) C [.int (xs (i0 + 1))] dL_law_739 m_X7_revoke k_X7_revoke tw_819 rfl rfl rfl QW_o rfl rfl (Nat.le_of_ble_eq_true rfl) ⟨by omega, by omega, by omega, by omega⟩ (hM _ _ _ _ _ _ _ _ (by omega)) (kr_RQ (x := .int y) (fun ro lo2 ma ap => ?_)) kx_no
  refine V_istore C [(6, .int y), (5, .int (nI k)), (4, .int (nI i0)), (3, .ref (ad2 [2])), (2, .ref (ad2 [1])), (1, .ref (ad2 [0])), (0, .ref b9)] dL_law_742 (by decide) rfl ?_
  refine V_aload_n C dL_law_744 4 rfl ?_
  refine V_callV (r := (RX7, TX7, 17)) C [] dL_law_745 m_X7_thrown k_X7_thrown tw_720 rfl rfl rfl QW_o rfl rfl (Nat.le_of_ble_eq_true rfl) ⟨by omega, by omega, by omega, by omega⟩ (m_thrown hl (by omega) hσ2x) (kr_some (x := .int (nI k)) ?_) kx_no
  refine V_iload C dL_law_748 1 rfl ?_
  refine V_icmpn_eq (tgt := 755) C dL_law_750 (by decide) (by omega) (by omega) (fun hb1 => ?_) (fun hb1 => by exfalso; omega)
  refine V_iload C dL_law_755 1 rfl ?_
  refine V_ifn_ne (tgt := 772) C dL_law_757 (by decide) (by omega) (fun hb2 => ?_) (fun hb2 => ?_)
  · skip
    refine V_goto (tgt := 2272) C dL_law_772 (by decide) ?_
    refine V_wd (w' := LW ad2 σ2 tl t lo (nI k) ro lo2 ma ap (if k = 0 then vp_updL f 0 y.toInt64 else f)) (put_comm (by decide)) ?_
    refine V_lv [2, 3, 4, 5, 6] rfl ?_
    exact K _ _ _ _ _ _ _ _ _ _ _ _ _ hσ2x (by omega) (by omega)
  · skip
    refine V_aload_n C dL_law_760 3 rfl ?_
    refine V_iconst (v := nI 0) C dL_law_761 (by decide) ?_
    refine V_laldn (v := y.toInt64) C dL_law_762 rfl rfl (by decide) (by decide) (by rw [if_pos hb2]; rfl) ?_
    refine V_iload C dL_law_763 0 rfl ?_
    refine V_i2l C dL_law_765 rfl ?_
    refine V_lcmp C dL_law_766 ?_
    refine V_if_eq (tgt := 772) C dL_law_767 (by decide) (fun hb3 => ?_) (fun hb3 => by exfalso; exact hb3 (lg_self _))
    refine V_goto (tgt := 2272) C dL_law_772 (by decide) ?_
    refine V_wd (w' := LW ad2 σ2 tl t lo (nI k) ro lo2 ma ap (if k = 0 then vp_updL f 0 y.toInt64 else f)) (put_comm (by decide)) ?_
    refine V_lv [2, 3, 4, 5, 6] rfl ?_
    exact K _ _ _ _ _ _ _ _ _ _ _ _ _ hσ2x (by omega) (by omega)
set_option maxHeartbeats 4000000 in
theorem law_8 {p : Program} {l : Launch} {e : Env} {s : State} {m : MethodId} {args : Array Value} {below : List Frame} {meth : Method} {c : Code} {D : va_G} {ba d mc ms cells slots : Nat} {Q : State → Prop} {ad : Adr} {tb : List ExceptionTableEntry} {σ : CS} {tl : Int32} {t : TT} {lo : Nat → Int32} {th ro : Int32} {lo2 ma ap : Nat → Int32} {f : Nat → Int64} (C : Cx p l s m args meth c D ba RL cL_law 9 tb d) (hl : l.stackTraces = false) (hd : 12 ≤ d) {b9 L i0 : Nat} {xs : Nat → Int32} (hX : va_X b9 L xs s s.heap) (hb : b9 < ba) (hi : i0 + 6 ≤ L) (hL : L ≤ 3072) (hσ : cOK σ) (hcs : cells + 60 ≤ mc) (hss : slots + 300 ≤ ms) (K : ∀ ad2 σ2 tl t lo th ro lo2 ma ap f cells2 slots2, cOK σ2 → cells2 ≤ cells + 60 → slots2 ≤ slots + 300 → V p l e s m args below meth c D ba d mc ms Q 9 ad2 (LW ad2 σ2 tl t lo th ro lo2 ma ap f) 2272 [(4, .int (nI i0)), (3, .ref (ad2 [2])), (2, .ref (ad2 [1])), (1, .ref (ad2 [0])), (0, .ref b9)] [] cells2 slots2) : V p l e s m args below meth c D ba d mc ms Q 9 ad (LW ad σ tl t lo th ro lo2 ma ap f) 775 [(4, .int (nI i0)), (3, .ref (ad [2])), (2, .ref (ad [1])), (1, .ref (ad [0])), (0, .ref b9)] [] cells slots := by
  have hσ1 := hσ.1
  have hσ2 := hσ.2.1
  obtain ⟨k, y, σ2, hk4, hP, hσ2x, hW, hM⟩ := b_passDays (l := l) (D := D) (ba := ba) hl hσ (xs (i0 + 1))
  refine V_aload_n C dL_law_775 3 rfl ?_
  refine V_aload_n C dL_law_776 4 rfl ?_
  refine V_iload C dL_law_777 0 rfl ?_
  refine V_iconst (v := nI 1) C dL_law_779 (by decide) ?_
  refine V_iaddn C dL_law_780 ?_
  refine V_sldn C hX hb (i := i0 + 1) (by omega) (by omega) dL_law_781 ?_
  refine V_aload_n C dL_law_782 1 rfl ?_
  refine V_callSX C [.ref (ad [0]), .int (xs (i0 + 1)), .ref (ad [2])] dL_law_783 m_L_passDays k_L_passDays tw_488 rfl rfl (Nat.le_of_ble_eq_true rfl) ⟨by omega, by omega, by omega, by omega⟩ (hW _ _ _ _ _ _ _ (by omega) QW_2f) (kr_WR (fun ad2 hK tl t lo => ?_)) kx_no
  have e0 := hK.2; have e1 := hK.1 1 [] (by decide); have e2 := hK.1 2 [] (by decide)
  refine V_wd (w' := QW 1 ad2 σ th ro lo2 ma ap (PW 0 ad2 σ2 tl t lo (Bf (if k = 0 then vp_updL f 0 y.toInt64 else f)))) (LW_swap hK) ?_
  rw [← e0, ← e1, ← e2]
  refine V_istore C [(5, .int (nI k)), (4, .int (nI i0)), (3, .ref (ad2 [2])), (2, .ref (ad2 [1])), (1, .ref (ad2 [0])), (0, .ref b9)] dL_law_786 (by decide) rfl ?_
  refine V_aload_n C dL_law_788 3 rfl ?_
  refine V_aload_n C dL_law_789 5 rfl ?_
  refine V_iload C dL_law_790 1 rfl ?_
  refine V_iconst (v := nI 1) C dL_law_792 (by decide) ?_
  refine V_iaddn C dL_law_793 ?_
  refine V_sldn C hX hb (i := i0 + 1) (by omega) (by omega) dL_law_794 ?_
  refine V_callV (r := (RX7, TX7, 17)) C [.int (xs (i0 + 1))] dL_law_795 m_X7_passDays k_X7_passDays tw_823 rfl rfl rfl QW_o rfl rfl (Nat.le_of_ble_eq_true rfl) ⟨by omega, by omega, by omega, by omega⟩ (hM _ _ _ _ _ _ _ _ (by omega)) (kr_RQ (x := .int y) (fun ro lo2 ma ap => ?_)) kx_no
  refine V_istore C [(6, .int y), (5, .int (nI k)), (4, .int (nI i0)), (3, .ref (ad2 [2])), (2, .ref (ad2 [1])), (1, .ref (ad2 [0])), (0, .ref b9)] dL_law_798 (by decide) rfl ?_
  refine V_aload_n C dL_law_800 4 rfl ?_
  refine V_callV (r := (RX7, TX7, 17)) C [] dL_law_801 m_X7_thrown k_X7_thrown tw_720 rfl rfl rfl QW_o rfl rfl (Nat.le_of_ble_eq_true rfl) ⟨by omega, by omega, by omega, by omega⟩ (m_thrown hl (by omega) hσ2x) (kr_some (x := .int (nI k)) ?_) kx_no
  refine V_iload C dL_law_804 1 rfl ?_
  refine V_icmpn_eq (tgt := 811) C dL_law_806 (by decide) (by omega) (by omega) (fun hb1 => ?_) (fun hb1 => by exfalso; omega)
  refine V_iload C dL_law_811 1 rfl ?_
  refine V_ifn_ne (tgt := 828) C dL_law_813 (by decide) (by omega) (fun hb2 => ?_) (fun hb2 => ?_)
  · skip
    refine V_goto (tgt := 2272) C dL_law_828 (by decide) ?_
    refine V_wd (w' := LW ad2 σ2 tl t lo (nI k) ro lo2 ma ap (if k = 0 then vp_updL f 0 y.toInt64 else f)) (put_comm (by decide)) ?_
    refine V_lv [2, 3, 4, 5, 6] rfl ?_
    exact K _ _ _ _ _ _ _ _ _ _ _ _ _ hσ2x (by omega) (by omega)
  · skip
    refine V_aload_n C dL_law_816 3 rfl ?_
    refine V_iconst (v := nI 0) C dL_law_817 (by decide) ?_
    refine V_laldn (v := y.toInt64) C dL_law_818 rfl rfl (by decide) (by decide) (by rw [if_pos hb2]; rfl) ?_
    refine V_iload C dL_law_819 0 rfl ?_
    refine V_i2l C dL_law_821 rfl ?_
    refine V_lcmp C dL_law_822 ?_
    refine V_if_eq (tgt := 828) C dL_law_823 (by decide) (fun hb3 => ?_) (fun hb3 => by exfalso; exact hb3 (lg_self _))
    refine V_goto (tgt := 2272) C dL_law_828 (by decide) ?_
    refine V_wd (w' := LW ad2 σ2 tl t lo (nI k) ro lo2 ma ap (if k = 0 then vp_updL f 0 y.toInt64 else f)) (put_comm (by decide)) ?_
    refine V_lv [2, 3, 4, 5, 6] rfl ?_
    exact K _ _ _ _ _ _ _ _ _ _ _ _ _ hσ2x (by omega) (by omega)
set_option maxHeartbeats 4000000 in
theorem law_9 {p : Program} {l : Launch} {e : Env} {s : State} {m : MethodId} {args : Array Value} {below : List Frame} {meth : Method} {c : Code} {D : va_G} {ba d mc ms cells slots : Nat} {Q : State → Prop} {ad : Adr} {tb : List ExceptionTableEntry} {σ : CS} {tl : Int32} {t : TT} {lo : Nat → Int32} {th ro : Int32} {lo2 ma ap : Nat → Int32} {f : Nat → Int64} (C : Cx p l s m args meth c D ba RL cL_law 9 tb d) (hl : l.stackTraces = false) (hd : 12 ≤ d) {b9 L i0 : Nat} {xs : Nat → Int32} (hX : va_X b9 L xs s s.heap) (hb : b9 < ba) (hi : i0 + 6 ≤ L) (hL : L ≤ 3072) (hσ : cOK σ) (hcs : cells + 60 ≤ mc) (hss : slots + 300 ≤ ms) (K : ∀ ad2 σ2 tl t lo th ro lo2 ma ap f cells2 slots2, cOK σ2 → cells2 ≤ cells + 60 → slots2 ≤ slots + 300 → V p l e s m args below meth c D ba d mc ms Q 9 ad2 (LW ad2 σ2 tl t lo th ro lo2 ma ap f) 2272 [(4, .int (nI i0)), (3, .ref (ad2 [2])), (2, .ref (ad2 [1])), (1, .ref (ad2 [0])), (0, .ref b9)] [] cells2 slots2) : V p l e s m args below meth c D ba d mc ms Q 9 ad (LW ad σ tl t lo th ro lo2 ma ap f) 831 [(4, .int (nI i0)), (3, .ref (ad [2])), (2, .ref (ad [1])), (1, .ref (ad [0])), (0, .ref b9)] [] cells slots := by
  have hσ1 := hσ.1
  have hσ2 := hσ.2.1
  obtain ⟨k, y, σ2, hk4, hP, hσ2x, hW, hM⟩ := b_surfacesOf (l := l) (D := D) (ba := ba) hl hσ (xs (i0 + 1))
  refine V_aload_n C dL_law_831 3 rfl ?_
  refine V_aload_n C dL_law_832 4 rfl ?_
  refine V_iload C dL_law_833 0 rfl ?_
  refine V_iconst (v := nI 1) C dL_law_835 (by decide) ?_
  refine V_iaddn C dL_law_836 ?_
  refine V_sldn C hX hb (i := i0 + 1) (by omega) (by omega) dL_law_837 ?_
  refine V_aload_n C dL_law_838 1 rfl ?_
  refine V_callSX C [.ref (ad [0]), .int (xs (i0 + 1)), .ref (ad [2])] dL_law_839 m_L_surfacesOf k_L_surfacesOf tw_508 rfl rfl (Nat.le_of_ble_eq_true rfl) ⟨by omega, by omega, by omega, by omega⟩ (hW _ _ _ _ _ _ _ (by omega) QW_2f) (kr_WR (fun ad2 hK tl t lo => ?_)) kx_no
  have e0 := hK.2; have e1 := hK.1 1 [] (by decide); have e2 := hK.1 2 [] (by decide)
  refine V_wd (w' := QW 1 ad2 σ th ro lo2 ma ap (PW 0 ad2 σ2 tl t lo (Bf (if k = 0 then vp_updL f 0 y.toInt64 else f)))) (LW_swap hK) ?_
  rw [← e0, ← e1, ← e2]
  refine V_istore C [(5, .int (nI k)), (4, .int (nI i0)), (3, .ref (ad2 [2])), (2, .ref (ad2 [1])), (1, .ref (ad2 [0])), (0, .ref b9)] dL_law_842 (by decide) rfl ?_
  refine V_aload_n C dL_law_844 3 rfl ?_
  refine V_aload_n C dL_law_845 5 rfl ?_
  refine V_iload C dL_law_846 1 rfl ?_
  refine V_iconst (v := nI 1) C dL_law_848 (by decide) ?_
  refine V_iaddn C dL_law_849 ?_
  refine V_sldn C hX hb (i := i0 + 1) (by omega) (by omega) dL_law_850 ?_
  refine V_callV (r := (RX7, TX7, 17)) C [.int (xs (i0 + 1))] dL_law_851 m_X7_surfacesOf k_X7_surfacesOf tw_832 rfl rfl rfl QW_o rfl rfl (Nat.le_of_ble_eq_true rfl) ⟨by omega, by omega, by omega, by omega⟩ (hM _ _ _ _ _ _ _ _ (by omega)) (kr_RQ (x := .int y) (fun ro lo2 ma ap => ?_)) kx_no
  refine V_istore C [(6, .int y), (5, .int (nI k)), (4, .int (nI i0)), (3, .ref (ad2 [2])), (2, .ref (ad2 [1])), (1, .ref (ad2 [0])), (0, .ref b9)] dL_law_854 (by decide) rfl ?_
  refine V_aload_n C dL_law_856 4 rfl ?_
  refine V_callV (r := (RX7, TX7, 17)) C [] dL_law_857 m_X7_thrown k_X7_thrown tw_720 rfl rfl rfl QW_o rfl rfl (Nat.le_of_ble_eq_true rfl) ⟨by omega, by omega, by omega, by omega⟩ (m_thrown hl (by omega) hσ2x) (kr_some (x := .int (nI k)) ?_) kx_no
  refine V_iload C dL_law_860 1 rfl ?_
  refine V_icmpn_eq (tgt := 867) C dL_law_862 (by decide) (by omega) (by omega) (fun hb1 => ?_) (fun hb1 => by exfalso; omega)
  refine V_iload C dL_law_867 1 rfl ?_
  refine V_ifn_ne (tgt := 884) C dL_law_869 (by decide) (by omega) (fun hb2 => ?_) (fun hb2 => ?_)
  · skip
    refine V_goto (tgt := 2272) C dL_law_884 (by decide) ?_
    refine V_wd (w' := LW ad2 σ2 tl t lo (nI k) ro lo2 ma ap (if k = 0 then vp_updL f 0 y.toInt64 else f)) (put_comm (by decide)) ?_
    refine V_lv [2, 3, 4, 5, 6] rfl ?_
    exact K _ _ _ _ _ _ _ _ _ _ _ _ _ hσ2x (by omega) (by omega)
  · skip
    refine V_aload_n C dL_law_872 3 rfl ?_
    refine V_iconst (v := nI 0) C dL_law_873 (by decide) ?_
    refine V_laldn (v := y.toInt64) C dL_law_874 rfl rfl (by decide) (by decide) (by rw [if_pos hb2]; rfl) ?_
    refine V_iload C dL_law_875 0 rfl ?_
    refine V_i2l C dL_law_877 rfl ?_
    refine V_lcmp C dL_law_878 ?_
    refine V_if_eq (tgt := 884) C dL_law_879 (by decide) (fun hb3 => ?_) (fun hb3 => by exfalso; exact hb3 (lg_self _))
    refine V_goto (tgt := 2272) C dL_law_884 (by decide) ?_
    refine V_wd (w' := LW ad2 σ2 tl t lo (nI k) ro lo2 ma ap (if k = 0 then vp_updL f 0 y.toInt64 else f)) (put_comm (by decide)) ?_
    refine V_lv [2, 3, 4, 5, 6] rfl ?_
    exact K _ _ _ _ _ _ _ _ _ _ _ _ _ hσ2x (by omega) (by omega)
set_option maxHeartbeats 4000000 in
theorem law_10 {p : Program} {l : Launch} {e : Env} {s : State} {m : MethodId} {args : Array Value} {below : List Frame} {meth : Method} {c : Code} {D : va_G} {ba d mc ms cells slots : Nat} {Q : State → Prop} {ad : Adr} {tb : List ExceptionTableEntry} {σ : CS} {tl : Int32} {t : TT} {lo : Nat → Int32} {th ro : Int32} {lo2 ma ap : Nat → Int32} {f : Nat → Int64} (C : Cx p l s m args meth c D ba RL cL_law 9 tb d) (hl : l.stackTraces = false) (hd : 12 ≤ d) {b9 L i0 : Nat} {xs : Nat → Int32} (hX : va_X b9 L xs s s.heap) (hb : b9 < ba) (hi : i0 + 6 ≤ L) (hL : L ≤ 3072) (hσ : cOK σ) (hcs : cells + 60 ≤ mc) (hss : slots + 300 ≤ ms) (K : ∀ ad2 σ2 tl t lo th ro lo2 ma ap f cells2 slots2, cOK σ2 → cells2 ≤ cells + 60 → slots2 ≤ slots + 300 → V p l e s m args below meth c D ba d mc ms Q 9 ad2 (LW ad2 σ2 tl t lo th ro lo2 ma ap f) 2272 [(4, .int (nI i0)), (3, .ref (ad2 [2])), (2, .ref (ad2 [1])), (1, .ref (ad2 [0])), (0, .ref b9)] [] cells2 slots2) : V p l e s m args below meth c D ba d mc ms Q 9 ad (LW ad σ tl t lo th ro lo2 ma ap f) 887 [(4, .int (nI i0)), (3, .ref (ad [2])), (2, .ref (ad [1])), (1, .ref (ad [0])), (0, .ref b9)] [] cells slots := by
  have hσ1 := hσ.1
  have hσ2 := hσ.2.1
  obtain ⟨k, y, σ2, hk4, hP, hσ2x, hW, hM⟩ := b_distanceOf (l := l) (D := D) (ba := ba) hl hσ (xs (i0 + 1)) (xs (i0 + 2))
  refine V_aload_n C dL_law_887 3 rfl ?_
  refine V_aload_n C dL_law_888 4 rfl ?_
  refine V_iload C dL_law_889 0 rfl ?_
  refine V_iconst (v := nI 1) C dL_law_891 (by decide) ?_
  refine V_iaddn C dL_law_892 ?_
  refine V_sldn C hX hb (i := i0 + 1) (by omega) (by omega) dL_law_893 ?_
  refine V_aload_n C dL_law_894 4 rfl ?_
  refine V_iload C dL_law_895 0 rfl ?_
  refine V_iconst (v := nI 2) C dL_law_897 (by decide) ?_
  refine V_iaddn C dL_law_898 ?_
  refine V_sldn C hX hb (i := i0 + 2) (by omega) (by omega) dL_law_899 ?_
  refine V_aload_n C dL_law_900 1 rfl ?_
  refine V_callSX C [.ref (ad [0]), .int (xs (i0 + 1)), .int (xs (i0 + 2)), .ref (ad [2])] dL_law_901 m_L_distanceOf k_L_distanceOf tw_515 rfl rfl (Nat.le_of_ble_eq_true rfl) ⟨by omega, by omega, by omega, by omega⟩ (hW _ _ _ _ _ _ _ (by omega) QW_2f) (kr_WR (fun ad2 hK tl t lo => ?_)) kx_no
  have e0 := hK.2; have e1 := hK.1 1 [] (by decide); have e2 := hK.1 2 [] (by decide)
  refine V_wd (w' := QW 1 ad2 σ th ro lo2 ma ap (PW 0 ad2 σ2 tl t lo (Bf (if k = 0 then vp_updL f 0 y.toInt64 else f)))) (LW_swap hK) ?_
  rw [← e0, ← e1, ← e2]
  refine V_istore C [(5, .int (nI k)), (4, .int (nI i0)), (3, .ref (ad2 [2])), (2, .ref (ad2 [1])), (1, .ref (ad2 [0])), (0, .ref b9)] dL_law_904 (by decide) rfl ?_
  refine V_aload_n C dL_law_906 3 rfl ?_
  refine V_aload_n C dL_law_907 5 rfl ?_
  refine V_iload C dL_law_908 1 rfl ?_
  refine V_iconst (v := nI 1) C dL_law_910 (by decide) ?_
  refine V_iaddn C dL_law_911 ?_
  refine V_sldn C hX hb (i := i0 + 1) (by omega) (by omega) dL_law_912 ?_
  refine V_aload_n C dL_law_913 5 rfl ?_
  refine V_iload C dL_law_914 1 rfl ?_
  refine V_iconst (v := nI 2) C dL_law_916 (by decide) ?_
  refine V_iaddn C dL_law_917 ?_
  refine V_sldn C hX hb (i := i0 + 2) (by omega) (by omega) dL_law_918 ?_
  refine V_callV (r := (RX7, TX7, 17)) C [.int (xs (i0 + 1)), .int (xs (i0 + 2))] dL_law_919 m_X7_distanceOf k_X7_distanceOf tw_836 rfl rfl rfl QW_o rfl rfl (Nat.le_of_ble_eq_true rfl) ⟨by omega, by omega, by omega, by omega⟩ (hM _ _ _ _ _ _ _ _ (by omega)) (kr_RQ (x := .int y) (fun ro lo2 ma ap => ?_)) kx_no
  refine V_istore C [(6, .int y), (5, .int (nI k)), (4, .int (nI i0)), (3, .ref (ad2 [2])), (2, .ref (ad2 [1])), (1, .ref (ad2 [0])), (0, .ref b9)] dL_law_922 (by decide) rfl ?_
  refine V_aload_n C dL_law_924 4 rfl ?_
  refine V_callV (r := (RX7, TX7, 17)) C [] dL_law_925 m_X7_thrown k_X7_thrown tw_720 rfl rfl rfl QW_o rfl rfl (Nat.le_of_ble_eq_true rfl) ⟨by omega, by omega, by omega, by omega⟩ (m_thrown hl (by omega) hσ2x) (kr_some (x := .int (nI k)) ?_) kx_no
  refine V_iload C dL_law_928 1 rfl ?_
  refine V_icmpn_eq (tgt := 935) C dL_law_930 (by decide) (by omega) (by omega) (fun hb1 => ?_) (fun hb1 => by exfalso; omega)
  refine V_iload C dL_law_935 1 rfl ?_
  refine V_ifn_ne (tgt := 952) C dL_law_937 (by decide) (by omega) (fun hb2 => ?_) (fun hb2 => ?_)
  · skip
    refine V_goto (tgt := 2272) C dL_law_952 (by decide) ?_
    refine V_wd (w' := LW ad2 σ2 tl t lo (nI k) ro lo2 ma ap (if k = 0 then vp_updL f 0 y.toInt64 else f)) (put_comm (by decide)) ?_
    refine V_lv [2, 3, 4, 5, 6] rfl ?_
    exact K _ _ _ _ _ _ _ _ _ _ _ _ _ hσ2x (by omega) (by omega)
  · skip
    refine V_aload_n C dL_law_940 3 rfl ?_
    refine V_iconst (v := nI 0) C dL_law_941 (by decide) ?_
    refine V_laldn (v := y.toInt64) C dL_law_942 rfl rfl (by decide) (by decide) (by rw [if_pos hb2]; rfl) ?_
    refine V_iload C dL_law_943 0 rfl ?_
    refine V_i2l C dL_law_945 rfl ?_
    refine V_lcmp C dL_law_946 ?_
    refine V_if_eq (tgt := 952) C dL_law_947 (by decide) (fun hb3 => ?_) (fun hb3 => by exfalso; exact hb3 (lg_self _))
    refine V_goto (tgt := 2272) C dL_law_952 (by decide) ?_
    refine V_wd (w' := LW ad2 σ2 tl t lo (nI k) ro lo2 ma ap (if k = 0 then vp_updL f 0 y.toInt64 else f)) (put_comm (by decide)) ?_
    refine V_lv [2, 3, 4, 5, 6] rfl ?_
    exact K _ _ _ _ _ _ _ _ _ _ _ _ _ hσ2x (by omega) (by omega)
set_option maxHeartbeats 4000000 in
theorem law_11 {p : Program} {l : Launch} {e : Env} {s : State} {m : MethodId} {args : Array Value} {below : List Frame} {meth : Method} {c : Code} {D : va_G} {ba d mc ms cells slots : Nat} {Q : State → Prop} {ad : Adr} {tb : List ExceptionTableEntry} {σ : CS} {tl : Int32} {t : TT} {lo : Nat → Int32} {th ro : Int32} {lo2 ma ap : Nat → Int32} {f : Nat → Int64} (C : Cx p l s m args meth c D ba RL cL_law 9 tb d) (hl : l.stackTraces = false) (hd : 12 ≤ d) {b9 L i0 : Nat} {xs : Nat → Int32} (hX : va_X b9 L xs s s.heap) (hb : b9 < ba) (hi : i0 + 6 ≤ L) (hL : L ≤ 3072) (hσ : cOK σ) (hcs : cells + 60 ≤ mc) (hss : slots + 300 ≤ ms) (K : ∀ ad2 σ2 tl t lo th ro lo2 ma ap f cells2 slots2, cOK σ2 → cells2 ≤ cells + 60 → slots2 ≤ slots + 300 → V p l e s m args below meth c D ba d mc ms Q 9 ad2 (LW ad2 σ2 tl t lo th ro lo2 ma ap f) 2272 [(4, .int (nI i0)), (3, .ref (ad2 [2])), (2, .ref (ad2 [1])), (1, .ref (ad2 [0])), (0, .ref b9)] [] cells2 slots2) : V p l e s m args below meth c D ba d mc ms Q 9 ad (LW ad σ tl t lo th ro lo2 ma ap f) 955 [(4, .int (nI i0)), (3, .ref (ad [2])), (2, .ref (ad [1])), (1, .ref (ad [0])), (0, .ref b9)] [] cells slots := by
  have hσ1 := hσ.1
  have hσ2 := hσ.2.1
  obtain ⟨k, y, σ2, hk4, hP, hσ2x, hW, hM⟩ := b_hardnessOf (l := l) (D := D) (ba := ba) hl hσ (xs (i0 + 1)) (xs (i0 + 2))
  refine V_aload_n C dL_law_955 3 rfl ?_
  refine V_aload_n C dL_law_956 4 rfl ?_
  refine V_iload C dL_law_957 0 rfl ?_
  refine V_iconst (v := nI 1) C dL_law_959 (by decide) ?_
  refine V_iaddn C dL_law_960 ?_
  refine V_sldn C hX hb (i := i0 + 1) (by omega) (by omega) dL_law_961 ?_
  refine V_aload_n C dL_law_962 4 rfl ?_
  refine V_iload C dL_law_963 0 rfl ?_
  refine V_iconst (v := nI 2) C dL_law_965 (by decide) ?_
  refine V_iaddn C dL_law_966 ?_
  refine V_sldn C hX hb (i := i0 + 2) (by omega) (by omega) dL_law_967 ?_
  refine V_aload_n C dL_law_968 1 rfl ?_
  refine V_callSX C [.ref (ad [0]), .int (xs (i0 + 1)), .int (xs (i0 + 2)), .ref (ad [2])] dL_law_969 m_L_hardnessOf k_L_hardnessOf tw_522 rfl rfl (Nat.le_of_ble_eq_true rfl) ⟨by omega, by omega, by omega, by omega⟩ (hW _ _ _ _ _ _ _ (by omega) QW_2f) (kr_WR (fun ad2 hK tl t lo => ?_)) kx_no
  have e0 := hK.2; have e1 := hK.1 1 [] (by decide); have e2 := hK.1 2 [] (by decide)
  refine V_wd (w' := QW 1 ad2 σ th ro lo2 ma ap (PW 0 ad2 σ2 tl t lo (Bf (if k = 0 then vp_updL f 0 y.toInt64 else f)))) (LW_swap hK) ?_
  rw [← e0, ← e1, ← e2]
  refine V_istore C [(5, .int (nI k)), (4, .int (nI i0)), (3, .ref (ad2 [2])), (2, .ref (ad2 [1])), (1, .ref (ad2 [0])), (0, .ref b9)] dL_law_972 (by decide) rfl ?_
  refine V_aload_n C dL_law_974 3 rfl ?_
  refine V_aload_n C dL_law_975 5 rfl ?_
  refine V_iload C dL_law_976 1 rfl ?_
  refine V_iconst (v := nI 1) C dL_law_978 (by decide) ?_
  refine V_iaddn C dL_law_979 ?_
  refine V_sldn C hX hb (i := i0 + 1) (by omega) (by omega) dL_law_980 ?_
  refine V_aload_n C dL_law_981 5 rfl ?_
  refine V_iload C dL_law_982 1 rfl ?_
  refine V_iconst (v := nI 2) C dL_law_984 (by decide) ?_
  refine V_iaddn C dL_law_985 ?_
  refine V_sldn C hX hb (i := i0 + 2) (by omega) (by omega) dL_law_986 ?_
  refine V_callV (r := (RX7, TX7, 17)) C [.int (xs (i0 + 1)), .int (xs (i0 + 2))] dL_law_987 m_X7_hardnessOf k_X7_hardnessOf tw_840 rfl rfl rfl QW_o rfl rfl (Nat.le_of_ble_eq_true rfl) ⟨by omega, by omega, by omega, by omega⟩ (hM _ _ _ _ _ _ _ _ (by omega)) (kr_RQ (x := .int y) (fun ro lo2 ma ap => ?_)) kx_no
  refine V_istore C [(6, .int y), (5, .int (nI k)), (4, .int (nI i0)), (3, .ref (ad2 [2])), (2, .ref (ad2 [1])), (1, .ref (ad2 [0])), (0, .ref b9)] dL_law_990 (by decide) rfl ?_
  refine V_aload_n C dL_law_992 4 rfl ?_
  refine V_callV (r := (RX7, TX7, 17)) C [] dL_law_993 m_X7_thrown k_X7_thrown tw_720 rfl rfl rfl QW_o rfl rfl (Nat.le_of_ble_eq_true rfl) ⟨by omega, by omega, by omega, by omega⟩ (m_thrown hl (by omega) hσ2x) (kr_some (x := .int (nI k)) ?_) kx_no
  refine V_iload C dL_law_996 1 rfl ?_
  refine V_icmpn_eq (tgt := 1003) C dL_law_998 (by decide) (by omega) (by omega) (fun hb1 => ?_) (fun hb1 => by exfalso; omega)
  refine V_iload C dL_law_1003 1 rfl ?_
  refine V_ifn_ne (tgt := 1020) C dL_law_1005 (by decide) (by omega) (fun hb2 => ?_) (fun hb2 => ?_)
  · skip
    refine V_goto (tgt := 2272) C dL_law_1020 (by decide) ?_
    refine V_wd (w' := LW ad2 σ2 tl t lo (nI k) ro lo2 ma ap (if k = 0 then vp_updL f 0 y.toInt64 else f)) (put_comm (by decide)) ?_
    refine V_lv [2, 3, 4, 5, 6] rfl ?_
    exact K _ _ _ _ _ _ _ _ _ _ _ _ _ hσ2x (by omega) (by omega)
  · skip
    refine V_aload_n C dL_law_1008 3 rfl ?_
    refine V_iconst (v := nI 0) C dL_law_1009 (by decide) ?_
    refine V_laldn (v := y.toInt64) C dL_law_1010 rfl rfl (by decide) (by decide) (by rw [if_pos hb2]; rfl) ?_
    refine V_iload C dL_law_1011 0 rfl ?_
    refine V_i2l C dL_law_1013 rfl ?_
    refine V_lcmp C dL_law_1014 ?_
    refine V_if_eq (tgt := 1020) C dL_law_1015 (by decide) (fun hb3 => ?_) (fun hb3 => by exfalso; exact hb3 (lg_self _))
    refine V_goto (tgt := 2272) C dL_law_1020 (by decide) ?_
    refine V_wd (w' := LW ad2 σ2 tl t lo (nI k) ro lo2 ma ap (if k = 0 then vp_updL f 0 y.toInt64 else f)) (put_comm (by decide)) ?_
    refine V_lv [2, 3, 4, 5, 6] rfl ?_
    exact K _ _ _ _ _ _ _ _ _ _ _ _ _ hσ2x (by omega) (by omega)
set_option maxHeartbeats 4000000 in
theorem law_12 {p : Program} {l : Launch} {e : Env} {s : State} {m : MethodId} {args : Array Value} {below : List Frame} {meth : Method} {c : Code} {D : va_G} {ba d mc ms cells slots : Nat} {Q : State → Prop} {ad : Adr} {tb : List ExceptionTableEntry} {σ : CS} {tl : Int32} {t : TT} {lo : Nat → Int32} {th ro : Int32} {lo2 ma ap : Nat → Int32} {f : Nat → Int64} (C : Cx p l s m args meth c D ba RL cL_law 9 tb d) (hl : l.stackTraces = false) (hd : 12 ≤ d) {b9 L i0 : Nat} {xs : Nat → Int32} (hX : va_X b9 L xs s s.heap) (hb : b9 < ba) (hi : i0 + 6 ≤ L) (hL : L ≤ 3072) (hσ : cOK σ) (hcs : cells + 60 ≤ mc) (hss : slots + 300 ≤ ms) (K : ∀ ad2 σ2 tl t lo th ro lo2 ma ap f cells2 slots2, cOK σ2 → cells2 ≤ cells + 60 → slots2 ≤ slots + 300 → V p l e s m args below meth c D ba d mc ms Q 9 ad2 (LW ad2 σ2 tl t lo th ro lo2 ma ap f) 2272 [(4, .int (nI i0)), (3, .ref (ad2 [2])), (2, .ref (ad2 [1])), (1, .ref (ad2 [0])), (0, .ref b9)] [] cells2 slots2) : V p l e s m args below meth c D ba d mc ms Q 9 ad (LW ad σ tl t lo th ro lo2 ma ap f) 1023 [(4, .int (nI i0)), (3, .ref (ad [2])), (2, .ref (ad [1])), (1, .ref (ad [0])), (0, .ref b9)] [] cells slots := by
  have hσ1 := hσ.1
  have hσ2 := hσ.2.1
  obtain ⟨k, y, σ2, hk4, hP, hσ2x, hW, hM⟩ := b_dampingOf (l := l) (D := D) (ba := ba) hl hσ (xs (i0 + 1))
  refine V_aload_n C dL_law_1023 3 rfl ?_
  refine V_aload_n C dL_law_1024 4 rfl ?_
  refine V_iload C dL_law_1025 0 rfl ?_
  refine V_iconst (v := nI 1) C dL_law_1027 (by decide) ?_
  refine V_iaddn C dL_law_1028 ?_
  refine V_sldn C hX hb (i := i0 + 1) (by omega) (by omega) dL_law_1029 ?_
  refine V_aload_n C dL_law_1030 1 rfl ?_
  refine V_callSX C [.ref (ad [0]), .int (xs (i0 + 1)), .ref (ad [2])] dL_law_1031 m_L_dampingOf k_L_dampingOf tw_529 rfl rfl (Nat.le_of_ble_eq_true rfl) ⟨by omega, by omega, by omega, by omega⟩ (hW _ _ _ _ _ _ _ (by omega) QW_2f) (kr_WR (fun ad2 hK tl t lo => ?_)) kx_no
  have e0 := hK.2; have e1 := hK.1 1 [] (by decide); have e2 := hK.1 2 [] (by decide)
  refine V_wd (w' := QW 1 ad2 σ th ro lo2 ma ap (PW 0 ad2 σ2 tl t lo (Bf (if k = 0 then vp_updL f 0 y.toInt64 else f)))) (LW_swap hK) ?_
  rw [← e0, ← e1, ← e2]
  refine V_istore C [(5, .int (nI k)), (4, .int (nI i0)), (3, .ref (ad2 [2])), (2, .ref (ad2 [1])), (1, .ref (ad2 [0])), (0, .ref b9)] dL_law_1034 (by decide) rfl ?_
  refine V_aload_n C dL_law_1036 3 rfl ?_
  refine V_aload_n C dL_law_1037 5 rfl ?_
  refine V_iload C dL_law_1038 1 rfl ?_
  refine V_iconst (v := nI 1) C dL_law_1040 (by decide) ?_
  refine V_iaddn C dL_law_1041 ?_
  refine V_sldn C hX hb (i := i0 + 1) (by omega) (by omega) dL_law_1042 ?_
  refine V_callV (r := (RX7, TX7, 17)) C [.int (xs (i0 + 1))] dL_law_1043 m_X7_dampingOf k_X7_dampingOf tw_844 rfl rfl rfl QW_o rfl rfl (Nat.le_of_ble_eq_true rfl) ⟨by omega, by omega, by omega, by omega⟩ (hM _ _ _ _ _ _ _ _ (by omega)) (kr_RQ (x := .int y) (fun ro lo2 ma ap => ?_)) kx_no
  refine V_istore C [(6, .int y), (5, .int (nI k)), (4, .int (nI i0)), (3, .ref (ad2 [2])), (2, .ref (ad2 [1])), (1, .ref (ad2 [0])), (0, .ref b9)] dL_law_1046 (by decide) rfl ?_
  refine V_aload_n C dL_law_1048 4 rfl ?_
  refine V_callV (r := (RX7, TX7, 17)) C [] dL_law_1049 m_X7_thrown k_X7_thrown tw_720 rfl rfl rfl QW_o rfl rfl (Nat.le_of_ble_eq_true rfl) ⟨by omega, by omega, by omega, by omega⟩ (m_thrown hl (by omega) hσ2x) (kr_some (x := .int (nI k)) ?_) kx_no
  refine V_iload C dL_law_1052 1 rfl ?_
  refine V_icmpn_eq (tgt := 1059) C dL_law_1054 (by decide) (by omega) (by omega) (fun hb1 => ?_) (fun hb1 => by exfalso; omega)
  refine V_iload C dL_law_1059 1 rfl ?_
  refine V_ifn_ne (tgt := 1076) C dL_law_1061 (by decide) (by omega) (fun hb2 => ?_) (fun hb2 => ?_)
  · skip
    refine V_goto (tgt := 2272) C dL_law_1076 (by decide) ?_
    refine V_wd (w' := LW ad2 σ2 tl t lo (nI k) ro lo2 ma ap (if k = 0 then vp_updL f 0 y.toInt64 else f)) (put_comm (by decide)) ?_
    refine V_lv [2, 3, 4, 5, 6] rfl ?_
    exact K _ _ _ _ _ _ _ _ _ _ _ _ _ hσ2x (by omega) (by omega)
  · skip
    refine V_aload_n C dL_law_1064 3 rfl ?_
    refine V_iconst (v := nI 0) C dL_law_1065 (by decide) ?_
    refine V_laldn (v := y.toInt64) C dL_law_1066 rfl rfl (by decide) (by decide) (by rw [if_pos hb2]; rfl) ?_
    refine V_iload C dL_law_1067 0 rfl ?_
    refine V_i2l C dL_law_1069 rfl ?_
    refine V_lcmp C dL_law_1070 ?_
    refine V_if_eq (tgt := 1076) C dL_law_1071 (by decide) (fun hb3 => ?_) (fun hb3 => by exfalso; exact hb3 (lg_self _))
    refine V_goto (tgt := 2272) C dL_law_1076 (by decide) ?_
    refine V_wd (w' := LW ad2 σ2 tl t lo (nI k) ro lo2 ma ap (if k = 0 then vp_updL f 0 y.toInt64 else f)) (put_comm (by decide)) ?_
    refine V_lv [2, 3, 4, 5, 6] rfl ?_
    exact K _ _ _ _ _ _ _ _ _ _ _ _ _ hσ2x (by omega) (by omega)
set_option maxHeartbeats 4000000 in
theorem law_13 {p : Program} {l : Launch} {e : Env} {s : State} {m : MethodId} {args : Array Value} {below : List Frame} {meth : Method} {c : Code} {D : va_G} {ba d mc ms cells slots : Nat} {Q : State → Prop} {ad : Adr} {tb : List ExceptionTableEntry} {σ : CS} {tl : Int32} {t : TT} {lo : Nat → Int32} {th ro : Int32} {lo2 ma ap : Nat → Int32} {f : Nat → Int64} (C : Cx p l s m args meth c D ba RL cL_law 9 tb d) (hl : l.stackTraces = false) (hd : 12 ≤ d) {b9 L i0 : Nat} {xs : Nat → Int32} (hX : va_X b9 L xs s s.heap) (hb : b9 < ba) (hi : i0 + 6 ≤ L) (hL : L ≤ 3072) (hσ : cOK σ) (hcs : cells + 60 ≤ mc) (hss : slots + 300 ≤ ms) (K : ∀ ad2 σ2 tl t lo th ro lo2 ma ap f cells2 slots2, cOK σ2 → cells2 ≤ cells + 60 → slots2 ≤ slots + 300 → V p l e s m args below meth c D ba d mc ms Q 9 ad2 (LW ad2 σ2 tl t lo th ro lo2 ma ap f) 2272 [(4, .int (nI i0)), (3, .ref (ad2 [2])), (2, .ref (ad2 [1])), (1, .ref (ad2 [0])), (0, .ref b9)] [] cells2 slots2) : V p l e s m args below meth c D ba d mc ms Q 9 ad (LW ad σ tl t lo th ro lo2 ma ap f) 1079 [(4, .int (nI i0)), (3, .ref (ad [2])), (2, .ref (ad [1])), (1, .ref (ad [0])), (0, .ref b9)] [] cells slots := by
  have hσ1 := hσ.1
  have hσ2 := hσ.2.1
  obtain ⟨k, y, σ2, hk4, hP, hσ2x, hW, hM⟩ := b_dustOf (l := l) (D := D) (ba := ba) hl hσ (xs (i0 + 1))
  refine V_aload_n C dL_law_1079 3 rfl ?_
  refine V_aload_n C dL_law_1080 4 rfl ?_
  refine V_iload C dL_law_1081 0 rfl ?_
  refine V_iconst (v := nI 1) C dL_law_1083 (by decide) ?_
  refine V_iaddn C dL_law_1084 ?_
  refine V_sldn C hX hb (i := i0 + 1) (by omega) (by omega) dL_law_1085 ?_
  refine V_aload_n C dL_law_1086 1 rfl ?_
  refine V_callSX C [.ref (ad [0]), .int (xs (i0 + 1)), .ref (ad [2])] dL_law_1087 m_L_dustOf k_L_dustOf tw_536 rfl rfl (Nat.le_of_ble_eq_true rfl) ⟨by omega, by omega, by omega, by omega⟩ (hW _ _ _ _ _ _ _ (by omega) QW_2f) (kr_WR (fun ad2 hK tl t lo => ?_)) kx_no
  have e0 := hK.2; have e1 := hK.1 1 [] (by decide); have e2 := hK.1 2 [] (by decide)
  refine V_wd (w' := QW 1 ad2 σ th ro lo2 ma ap (PW 0 ad2 σ2 tl t lo (Bf (if k = 0 then vp_updL f 0 y.toInt64 else f)))) (LW_swap hK) ?_
  rw [← e0, ← e1, ← e2]
  refine V_istore C [(5, .int (nI k)), (4, .int (nI i0)), (3, .ref (ad2 [2])), (2, .ref (ad2 [1])), (1, .ref (ad2 [0])), (0, .ref b9)] dL_law_1090 (by decide) rfl ?_
  refine V_aload_n C dL_law_1092 3 rfl ?_
  refine V_aload_n C dL_law_1093 5 rfl ?_
  refine V_iload C dL_law_1094 1 rfl ?_
  refine V_iconst (v := nI 1) C dL_law_1096 (by decide) ?_
  refine V_iaddn C dL_law_1097 ?_
  refine V_sldn C hX hb (i := i0 + 1) (by omega) (by omega) dL_law_1098 ?_
  refine V_callV (r := (RX7, TX7, 17)) C [.int (xs (i0 + 1))] dL_law_1099 m_X7_dustOf k_X7_dustOf tw_848 rfl rfl rfl QW_o rfl rfl (Nat.le_of_ble_eq_true rfl) ⟨by omega, by omega, by omega, by omega⟩ (hM _ _ _ _ _ _ _ _ (by omega)) (kr_RQ (x := .int y) (fun ro lo2 ma ap => ?_)) kx_no
  refine V_istore C [(6, .int y), (5, .int (nI k)), (4, .int (nI i0)), (3, .ref (ad2 [2])), (2, .ref (ad2 [1])), (1, .ref (ad2 [0])), (0, .ref b9)] dL_law_1102 (by decide) rfl ?_
  refine V_aload_n C dL_law_1104 4 rfl ?_
  refine V_callV (r := (RX7, TX7, 17)) C [] dL_law_1105 m_X7_thrown k_X7_thrown tw_720 rfl rfl rfl QW_o rfl rfl (Nat.le_of_ble_eq_true rfl) ⟨by omega, by omega, by omega, by omega⟩ (m_thrown hl (by omega) hσ2x) (kr_some (x := .int (nI k)) ?_) kx_no
  refine V_iload C dL_law_1108 1 rfl ?_
  refine V_icmpn_eq (tgt := 1115) C dL_law_1110 (by decide) (by omega) (by omega) (fun hb1 => ?_) (fun hb1 => by exfalso; omega)
  refine V_iload C dL_law_1115 1 rfl ?_
  refine V_ifn_ne (tgt := 1132) C dL_law_1117 (by decide) (by omega) (fun hb2 => ?_) (fun hb2 => ?_)
  · skip
    refine V_goto (tgt := 2272) C dL_law_1132 (by decide) ?_
    refine V_wd (w' := LW ad2 σ2 tl t lo (nI k) ro lo2 ma ap (if k = 0 then vp_updL f 0 y.toInt64 else f)) (put_comm (by decide)) ?_
    refine V_lv [2, 3, 4, 5, 6] rfl ?_
    exact K _ _ _ _ _ _ _ _ _ _ _ _ _ hσ2x (by omega) (by omega)
  · skip
    refine V_aload_n C dL_law_1120 3 rfl ?_
    refine V_iconst (v := nI 0) C dL_law_1121 (by decide) ?_
    refine V_laldn (v := y.toInt64) C dL_law_1122 rfl rfl (by decide) (by decide) (by rw [if_pos hb2]; rfl) ?_
    refine V_iload C dL_law_1123 0 rfl ?_
    refine V_i2l C dL_law_1125 rfl ?_
    refine V_lcmp C dL_law_1126 ?_
    refine V_if_eq (tgt := 1132) C dL_law_1127 (by decide) (fun hb3 => ?_) (fun hb3 => by exfalso; exact hb3 (lg_self _))
    refine V_goto (tgt := 2272) C dL_law_1132 (by decide) ?_
    refine V_wd (w' := LW ad2 σ2 tl t lo (nI k) ro lo2 ma ap (if k = 0 then vp_updL f 0 y.toInt64 else f)) (put_comm (by decide)) ?_
    refine V_lv [2, 3, 4, 5, 6] rfl ?_
    exact K _ _ _ _ _ _ _ _ _ _ _ _ _ hσ2x (by omega) (by omega)
set_option maxHeartbeats 4000000 in
theorem law_14 {p : Program} {l : Launch} {e : Env} {s : State} {m : MethodId} {args : Array Value} {below : List Frame} {meth : Method} {c : Code} {D : va_G} {ba d mc ms cells slots : Nat} {Q : State → Prop} {ad : Adr} {tb : List ExceptionTableEntry} {σ : CS} {tl : Int32} {t : TT} {lo : Nat → Int32} {th ro : Int32} {lo2 ma ap : Nat → Int32} {f : Nat → Int64} (C : Cx p l s m args meth c D ba RL cL_law 9 tb d) (hl : l.stackTraces = false) (hd : 12 ≤ d) {b9 L i0 : Nat} {xs : Nat → Int32} (hX : va_X b9 L xs s s.heap) (hb : b9 < ba) (hi : i0 + 6 ≤ L) (hL : L ≤ 3072) (hσ : cOK σ) (hcs : cells + 60 ≤ mc) (hss : slots + 300 ≤ ms) (K : ∀ ad2 σ2 tl t lo th ro lo2 ma ap f cells2 slots2, cOK σ2 → cells2 ≤ cells + 60 → slots2 ≤ slots + 300 → V p l e s m args below meth c D ba d mc ms Q 9 ad2 (LW ad2 σ2 tl t lo th ro lo2 ma ap f) 2272 [(4, .int (nI i0)), (3, .ref (ad2 [2])), (2, .ref (ad2 [1])), (1, .ref (ad2 [0])), (0, .ref b9)] [] cells2 slots2) : V p l e s m args below meth c D ba d mc ms Q 9 ad (LW ad σ tl t lo th ro lo2 ma ap f) 1135 [(4, .int (nI i0)), (3, .ref (ad [2])), (2, .ref (ad [1])), (1, .ref (ad [0])), (0, .ref b9)] [] cells slots := by
  have hσ1 := hσ.1
  have hσ2 := hσ.2.1
  obtain ⟨k, y, σ2, hk4, hP, hσ2x, hW, hM⟩ := b_echoes (l := l) (D := D) (ba := ba) hl hσ (xs (i0 + 1)) (xs (i0 + 2))
  refine V_aload_n C dL_law_1135 3 rfl ?_
  refine V_aload_n C dL_law_1136 4 rfl ?_
  refine V_iload C dL_law_1137 0 rfl ?_
  refine V_iconst (v := nI 1) C dL_law_1139 (by decide) ?_
  refine V_iaddn C dL_law_1140 ?_
  refine V_sldn C hX hb (i := i0 + 1) (by omega) (by omega) dL_law_1141 ?_
  refine V_aload_n C dL_law_1142 4 rfl ?_
  refine V_iload C dL_law_1143 0 rfl ?_
  refine V_iconst (v := nI 2) C dL_law_1145 (by decide) ?_
  refine V_iaddn C dL_law_1146 ?_
  refine V_sldn C hX hb (i := i0 + 2) (by omega) (by omega) dL_law_1147 ?_
  refine V_aload_n C dL_law_1148 1 rfl ?_
  refine V_callSX C [.ref (ad [0]), .int (xs (i0 + 1)), .int (xs (i0 + 2)), .ref (ad [2])] dL_law_1149 m_L_echoes k_L_echoes tw_543 rfl rfl (Nat.le_of_ble_eq_true rfl) ⟨by omega, by omega, by omega, by omega⟩ (hW _ _ _ _ _ _ _ (by omega) QW_2f) (kr_WR (fun ad2 hK tl t lo => ?_)) kx_no
  have e0 := hK.2; have e1 := hK.1 1 [] (by decide); have e2 := hK.1 2 [] (by decide)
  refine V_wd (w' := QW 1 ad2 σ th ro lo2 ma ap (PW 0 ad2 σ2 tl t lo (Bf (if k = 0 then vp_updL f 0 y.toInt64 else f)))) (LW_swap hK) ?_
  rw [← e0, ← e1, ← e2]
  refine V_istore C [(5, .int (nI k)), (4, .int (nI i0)), (3, .ref (ad2 [2])), (2, .ref (ad2 [1])), (1, .ref (ad2 [0])), (0, .ref b9)] dL_law_1152 (by decide) rfl ?_
  refine V_aload_n C dL_law_1154 3 rfl ?_
  refine V_aload_n C dL_law_1155 5 rfl ?_
  refine V_iload C dL_law_1156 1 rfl ?_
  refine V_iconst (v := nI 1) C dL_law_1158 (by decide) ?_
  refine V_iaddn C dL_law_1159 ?_
  refine V_sldn C hX hb (i := i0 + 1) (by omega) (by omega) dL_law_1160 ?_
  refine V_aload_n C dL_law_1161 5 rfl ?_
  refine V_iload C dL_law_1162 1 rfl ?_
  refine V_iconst (v := nI 2) C dL_law_1164 (by decide) ?_
  refine V_iaddn C dL_law_1165 ?_
  refine V_sldn C hX hb (i := i0 + 2) (by omega) (by omega) dL_law_1166 ?_
  refine V_callV (r := (RX7, TX7, 17)) C [.int (xs (i0 + 1)), .int (xs (i0 + 2))] dL_law_1167 m_X7_echoes k_X7_echoes tw_852 rfl rfl rfl QW_o rfl rfl (Nat.le_of_ble_eq_true rfl) ⟨by omega, by omega, by omega, by omega⟩ (hM _ _ _ _ _ _ _ _ (by omega)) (kr_RQ (x := .int y) (fun ro lo2 ma ap => ?_)) kx_no
  refine V_istore C [(6, .int y), (5, .int (nI k)), (4, .int (nI i0)), (3, .ref (ad2 [2])), (2, .ref (ad2 [1])), (1, .ref (ad2 [0])), (0, .ref b9)] dL_law_1170 (by decide) rfl ?_
  refine V_aload_n C dL_law_1172 4 rfl ?_
  refine V_callV (r := (RX7, TX7, 17)) C [] dL_law_1173 m_X7_thrown k_X7_thrown tw_720 rfl rfl rfl QW_o rfl rfl (Nat.le_of_ble_eq_true rfl) ⟨by omega, by omega, by omega, by omega⟩ (m_thrown hl (by omega) hσ2x) (kr_some (x := .int (nI k)) ?_) kx_no
  refine V_iload C dL_law_1176 1 rfl ?_
  refine V_icmpn_eq (tgt := 1183) C dL_law_1178 (by decide) (by omega) (by omega) (fun hb1 => ?_) (fun hb1 => by exfalso; omega)
  refine V_iload C dL_law_1183 1 rfl ?_
  refine V_ifn_ne (tgt := 1200) C dL_law_1185 (by decide) (by omega) (fun hb2 => ?_) (fun hb2 => ?_)
  · skip
    refine V_goto (tgt := 2272) C dL_law_1200 (by decide) ?_
    refine V_wd (w' := LW ad2 σ2 tl t lo (nI k) ro lo2 ma ap (if k = 0 then vp_updL f 0 y.toInt64 else f)) (put_comm (by decide)) ?_
    refine V_lv [2, 3, 4, 5, 6] rfl ?_
    exact K _ _ _ _ _ _ _ _ _ _ _ _ _ hσ2x (by omega) (by omega)
  · skip
    refine V_aload_n C dL_law_1188 3 rfl ?_
    refine V_iconst (v := nI 0) C dL_law_1189 (by decide) ?_
    refine V_laldn (v := y.toInt64) C dL_law_1190 rfl rfl (by decide) (by decide) (by rw [if_pos hb2]; rfl) ?_
    refine V_iload C dL_law_1191 0 rfl ?_
    refine V_i2l C dL_law_1193 rfl ?_
    refine V_lcmp C dL_law_1194 ?_
    refine V_if_eq (tgt := 1200) C dL_law_1195 (by decide) (fun hb3 => ?_) (fun hb3 => by exfalso; exact hb3 (lg_self _))
    refine V_goto (tgt := 2272) C dL_law_1200 (by decide) ?_
    refine V_wd (w' := LW ad2 σ2 tl t lo (nI k) ro lo2 ma ap (if k = 0 then vp_updL f 0 y.toInt64 else f)) (put_comm (by decide)) ?_
    refine V_lv [2, 3, 4, 5, 6] rfl ?_
    exact K _ _ _ _ _ _ _ _ _ _ _ _ _ hσ2x (by omega) (by omega)
set_option maxHeartbeats 4000000 in
theorem law_15 {p : Program} {l : Launch} {e : Env} {s : State} {m : MethodId} {args : Array Value} {below : List Frame} {meth : Method} {c : Code} {D : va_G} {ba d mc ms cells slots : Nat} {Q : State → Prop} {ad : Adr} {tb : List ExceptionTableEntry} {σ : CS} {tl : Int32} {t : TT} {lo : Nat → Int32} {th ro : Int32} {lo2 ma ap : Nat → Int32} {f : Nat → Int64} (C : Cx p l s m args meth c D ba RL cL_law 9 tb d) (hl : l.stackTraces = false) (hd : 12 ≤ d) {b9 L i0 : Nat} {xs : Nat → Int32} (hX : va_X b9 L xs s s.heap) (hb : b9 < ba) (hi : i0 + 6 ≤ L) (hL : L ≤ 3072) (hσ : cOK σ) (hcs : cells + 60 ≤ mc) (hss : slots + 300 ≤ ms) (K : ∀ ad2 σ2 tl t lo th ro lo2 ma ap f cells2 slots2, cOK σ2 → cells2 ≤ cells + 60 → slots2 ≤ slots + 300 → V p l e s m args below meth c D ba d mc ms Q 9 ad2 (LW ad2 σ2 tl t lo th ro lo2 ma ap f) 2272 [(4, .int (nI i0)), (3, .ref (ad2 [2])), (2, .ref (ad2 [1])), (1, .ref (ad2 [0])), (0, .ref b9)] [] cells2 slots2) : V p l e s m args below meth c D ba d mc ms Q 9 ad (LW ad σ tl t lo th ro lo2 ma ap f) 1203 [(4, .int (nI i0)), (3, .ref (ad [2])), (2, .ref (ad [1])), (1, .ref (ad [0])), (0, .ref b9)] [] cells slots := by
  have hσ1 := hσ.1
  have hσ2 := hσ.2.1
  obtain ⟨k, y, σ2, hk4, hP, hσ2x, hW, hM⟩ := b_loudEchoes (l := l) (D := D) (ba := ba) hl hσ (xs (i0 + 1)) (xs (i0 + 2)) (xs (i0 + 3))
  refine V_aload_n C dL_law_1203 3 rfl ?_
  refine V_aload_n C dL_law_1204 4 rfl ?_
  refine V_iload C dL_law_1205 0 rfl ?_
  refine V_iconst (v := nI 1) C dL_law_1207 (by decide) ?_
  refine V_iaddn C dL_law_1208 ?_
  refine V_sldn C hX hb (i := i0 + 1) (by omega) (by omega) dL_law_1209 ?_
  refine V_aload_n C dL_law_1210 4 rfl ?_
  refine V_iload C dL_law_1211 0 rfl ?_
  refine V_iconst (v := nI 2) C dL_law_1213 (by decide) ?_
  refine V_iaddn C dL_law_1214 ?_
  refine V_sldn C hX hb (i := i0 + 2) (by omega) (by omega) dL_law_1215 ?_
  refine V_aload_n C dL_law_1216 4 rfl ?_
  refine V_iload C dL_law_1217 0 rfl ?_
  refine V_iconst (v := nI 3) C dL_law_1219 (by decide) ?_
  refine V_iaddn C dL_law_1220 ?_
  refine V_sldn C hX hb (i := i0 + 3) (by omega) (by omega) dL_law_1221 ?_
  refine V_aload_n C dL_law_1222 1 rfl ?_
  refine V_callSX C [.ref (ad [0]), .int (xs (i0 + 1)), .int (xs (i0 + 2)), .int (xs (i0 + 3)), .ref (ad [2])] dL_law_1223 m_L_loudEchoes k_L_loudEchoes tw_558 rfl rfl (Nat.le_of_ble_eq_true rfl) ⟨by omega, by omega, by omega, by omega⟩ (hW _ _ _ _ _ _ _ (by omega) QW_2f) (kr_WR (fun ad2 hK tl t lo => ?_)) kx_no
  have e0 := hK.2; have e1 := hK.1 1 [] (by decide); have e2 := hK.1 2 [] (by decide)
  refine V_wd (w' := QW 1 ad2 σ th ro lo2 ma ap (PW 0 ad2 σ2 tl t lo (Bf (if k = 0 then vp_updL f 0 y.toInt64 else f)))) (LW_swap hK) ?_
  rw [← e0, ← e1, ← e2]
  refine V_istore C [(5, .int (nI k)), (4, .int (nI i0)), (3, .ref (ad2 [2])), (2, .ref (ad2 [1])), (1, .ref (ad2 [0])), (0, .ref b9)] dL_law_1226 (by decide) rfl ?_
  refine V_aload_n C dL_law_1228 3 rfl ?_
  refine V_aload_n C dL_law_1229 5 rfl ?_
  refine V_iload C dL_law_1230 1 rfl ?_
  refine V_iconst (v := nI 1) C dL_law_1232 (by decide) ?_
  refine V_iaddn C dL_law_1233 ?_
  refine V_sldn C hX hb (i := i0 + 1) (by omega) (by omega) dL_law_1234 ?_
  refine V_aload_n C dL_law_1235 5 rfl ?_
  refine V_iload C dL_law_1236 1 rfl ?_
  refine V_iconst (v := nI 2) C dL_law_1238 (by decide) ?_
  refine V_iaddn C dL_law_1239 ?_
  refine V_sldn C hX hb (i := i0 + 2) (by omega) (by omega) dL_law_1240 ?_
  refine V_aload_n C dL_law_1241 5 rfl ?_
  refine V_iload C dL_law_1242 1 rfl ?_
  refine V_iconst (v := nI 3) C dL_law_1244 (by decide) ?_
  refine V_iaddn C dL_law_1245 ?_
  refine V_sldn C hX hb (i := i0 + 3) (by omega) (by omega) dL_law_1246 ?_
  refine V_callV (r := (RX7, TX7, 17)) C [.int (xs (i0 + 1)), .int (xs (i0 + 2)), .int (xs (i0 + 3))] dL_law_1247 m_X7_loudEchoes k_X7_loudEchoes tw_864 rfl rfl rfl QW_o rfl rfl (Nat.le_of_ble_eq_true rfl) ⟨by omega, by omega, by omega, by omega⟩ (hM _ _ _ _ _ _ _ _ (by omega)) (kr_RQ (x := .int y) (fun ro lo2 ma ap => ?_)) kx_no
  refine V_istore C [(6, .int y), (5, .int (nI k)), (4, .int (nI i0)), (3, .ref (ad2 [2])), (2, .ref (ad2 [1])), (1, .ref (ad2 [0])), (0, .ref b9)] dL_law_1250 (by decide) rfl ?_
  refine V_aload_n C dL_law_1252 4 rfl ?_
  refine V_callV (r := (RX7, TX7, 17)) C [] dL_law_1253 m_X7_thrown k_X7_thrown tw_720 rfl rfl rfl QW_o rfl rfl (Nat.le_of_ble_eq_true rfl) ⟨by omega, by omega, by omega, by omega⟩ (m_thrown hl (by omega) hσ2x) (kr_some (x := .int (nI k)) ?_) kx_no
  refine V_iload C dL_law_1256 1 rfl ?_
  refine V_icmpn_eq (tgt := 1263) C dL_law_1258 (by decide) (by omega) (by omega) (fun hb1 => ?_) (fun hb1 => by exfalso; omega)
  refine V_iload C dL_law_1263 1 rfl ?_
  refine V_ifn_ne (tgt := 1280) C dL_law_1265 (by decide) (by omega) (fun hb2 => ?_) (fun hb2 => ?_)
  · skip
    refine V_goto (tgt := 2272) C dL_law_1280 (by decide) ?_
    refine V_wd (w' := LW ad2 σ2 tl t lo (nI k) ro lo2 ma ap (if k = 0 then vp_updL f 0 y.toInt64 else f)) (put_comm (by decide)) ?_
    refine V_lv [2, 3, 4, 5, 6] rfl ?_
    exact K _ _ _ _ _ _ _ _ _ _ _ _ _ hσ2x (by omega) (by omega)
  · skip
    refine V_aload_n C dL_law_1268 3 rfl ?_
    refine V_iconst (v := nI 0) C dL_law_1269 (by decide) ?_
    refine V_laldn (v := y.toInt64) C dL_law_1270 rfl rfl (by decide) (by decide) (by rw [if_pos hb2]; rfl) ?_
    refine V_iload C dL_law_1271 0 rfl ?_
    refine V_i2l C dL_law_1273 rfl ?_
    refine V_lcmp C dL_law_1274 ?_
    refine V_if_eq (tgt := 1280) C dL_law_1275 (by decide) (fun hb3 => ?_) (fun hb3 => by exfalso; exact hb3 (lg_self _))
    refine V_goto (tgt := 2272) C dL_law_1280 (by decide) ?_
    refine V_wd (w' := LW ad2 σ2 tl t lo (nI k) ro lo2 ma ap (if k = 0 then vp_updL f 0 y.toInt64 else f)) (put_comm (by decide)) ?_
    refine V_lv [2, 3, 4, 5, 6] rfl ?_
    exact K _ _ _ _ _ _ _ _ _ _ _ _ _ hσ2x (by omega) (by omega)
set_option maxHeartbeats 4000000 in
theorem law_16 {p : Program} {l : Launch} {e : Env} {s : State} {m : MethodId} {args : Array Value} {below : List Frame} {meth : Method} {c : Code} {D : va_G} {ba d mc ms cells slots : Nat} {Q : State → Prop} {ad : Adr} {tb : List ExceptionTableEntry} {σ : CS} {tl : Int32} {t : TT} {lo : Nat → Int32} {th ro : Int32} {lo2 ma ap : Nat → Int32} {f : Nat → Int64} (C : Cx p l s m args meth c D ba RL cL_law 9 tb d) (hl : l.stackTraces = false) (hd : 12 ≤ d) {b9 L i0 : Nat} {xs : Nat → Int32} (hX : va_X b9 L xs s s.heap) (hb : b9 < ba) (hi : i0 + 6 ≤ L) (hL : L ≤ 3072) (hσ : cOK σ) (hcs : cells + 60 ≤ mc) (hss : slots + 300 ≤ ms) (K : ∀ ad2 σ2 tl t lo th ro lo2 ma ap f cells2 slots2, cOK σ2 → cells2 ≤ cells + 60 → slots2 ≤ slots + 300 → V p l e s m args below meth c D ba d mc ms Q 9 ad2 (LW ad2 σ2 tl t lo th ro lo2 ma ap f) 2272 [(4, .int (nI i0)), (3, .ref (ad2 [2])), (2, .ref (ad2 [1])), (1, .ref (ad2 [0])), (0, .ref b9)] [] cells2 slots2) : V p l e s m args below meth c D ba d mc ms Q 9 ad (LW ad σ tl t lo th ro lo2 ma ap f) 1283 [(4, .int (nI i0)), (3, .ref (ad [2])), (2, .ref (ad [1])), (1, .ref (ad [0])), (0, .ref b9)] [] cells slots := by
  have hσ1 := hσ.1
  have hσ2 := hσ.2.1
  obtain ⟨k, y, σ2, hk4, hP, hσ2x, hW, hM⟩ := b_firstEcho (l := l) (D := D) (ba := ba) hl hσ (xs (i0 + 1)) (xs (i0 + 2))
  refine V_aload_n C dL_law_1283 3 rfl ?_
  refine V_aload_n C dL_law_1284 4 rfl ?_
  refine V_iload C dL_law_1285 0 rfl ?_
  refine V_iconst (v := nI 1) C dL_law_1287 (by decide) ?_
  refine V_iaddn C dL_law_1288 ?_
  refine V_sldn C hX hb (i := i0 + 1) (by omega) (by omega) dL_law_1289 ?_
  refine V_aload_n C dL_law_1290 4 rfl ?_
  refine V_iload C dL_law_1291 0 rfl ?_
  refine V_iconst (v := nI 2) C dL_law_1293 (by decide) ?_
  refine V_iaddn C dL_law_1294 ?_
  refine V_sldn C hX hb (i := i0 + 2) (by omega) (by omega) dL_law_1295 ?_
  refine V_aload_n C dL_law_1296 1 rfl ?_
  refine V_callSX C [.ref (ad [0]), .int (xs (i0 + 1)), .int (xs (i0 + 2)), .ref (ad [2])] dL_law_1297 m_L_firstEcho k_L_firstEcho tw_565 rfl rfl (Nat.le_of_ble_eq_true rfl) ⟨by omega, by omega, by omega, by omega⟩ (hW _ _ _ _ _ _ _ (by omega) QW_2f) (kr_WR (fun ad2 hK tl t lo => ?_)) kx_no
  have e0 := hK.2; have e1 := hK.1 1 [] (by decide); have e2 := hK.1 2 [] (by decide)
  refine V_wd (w' := QW 1 ad2 σ th ro lo2 ma ap (PW 0 ad2 σ2 tl t lo (Bf (if k = 0 then vp_updL f 0 y.toInt64 else f)))) (LW_swap hK) ?_
  rw [← e0, ← e1, ← e2]
  refine V_istore C [(5, .int (nI k)), (4, .int (nI i0)), (3, .ref (ad2 [2])), (2, .ref (ad2 [1])), (1, .ref (ad2 [0])), (0, .ref b9)] dL_law_1300 (by decide) rfl ?_
  refine V_aload_n C dL_law_1302 3 rfl ?_
  refine V_aload_n C dL_law_1303 5 rfl ?_
  refine V_iload C dL_law_1304 1 rfl ?_
  refine V_iconst (v := nI 1) C dL_law_1306 (by decide) ?_
  refine V_iaddn C dL_law_1307 ?_
  refine V_sldn C hX hb (i := i0 + 1) (by omega) (by omega) dL_law_1308 ?_
  refine V_aload_n C dL_law_1309 5 rfl ?_
  refine V_iload C dL_law_1310 1 rfl ?_
  refine V_iconst (v := nI 2) C dL_law_1312 (by decide) ?_
  refine V_iaddn C dL_law_1313 ?_
  refine V_sldn C hX hb (i := i0 + 2) (by omega) (by omega) dL_law_1314 ?_
  refine V_callV (r := (RX7, TX7, 17)) C [.int (xs (i0 + 1)), .int (xs (i0 + 2))] dL_law_1315 m_X7_firstEcho k_X7_firstEcho tw_868 rfl rfl rfl QW_o rfl rfl (Nat.le_of_ble_eq_true rfl) ⟨by omega, by omega, by omega, by omega⟩ (hM _ _ _ _ _ _ _ _ (by omega)) (kr_RQ (x := .int y) (fun ro lo2 ma ap => ?_)) kx_no
  refine V_istore C [(6, .int y), (5, .int (nI k)), (4, .int (nI i0)), (3, .ref (ad2 [2])), (2, .ref (ad2 [1])), (1, .ref (ad2 [0])), (0, .ref b9)] dL_law_1318 (by decide) rfl ?_
  refine V_aload_n C dL_law_1320 4 rfl ?_
  refine V_callV (r := (RX7, TX7, 17)) C [] dL_law_1321 m_X7_thrown k_X7_thrown tw_720 rfl rfl rfl QW_o rfl rfl (Nat.le_of_ble_eq_true rfl) ⟨by omega, by omega, by omega, by omega⟩ (m_thrown hl (by omega) hσ2x) (kr_some (x := .int (nI k)) ?_) kx_no
  refine V_iload C dL_law_1324 1 rfl ?_
  refine V_icmpn_eq (tgt := 1331) C dL_law_1326 (by decide) (by omega) (by omega) (fun hb1 => ?_) (fun hb1 => by exfalso; omega)
  refine V_iload C dL_law_1331 1 rfl ?_
  refine V_ifn_ne (tgt := 1348) C dL_law_1333 (by decide) (by omega) (fun hb2 => ?_) (fun hb2 => ?_)
  · skip
    refine V_goto (tgt := 2272) C dL_law_1348 (by decide) ?_
    refine V_wd (w' := LW ad2 σ2 tl t lo (nI k) ro lo2 ma ap (if k = 0 then vp_updL f 0 y.toInt64 else f)) (put_comm (by decide)) ?_
    refine V_lv [2, 3, 4, 5, 6] rfl ?_
    exact K _ _ _ _ _ _ _ _ _ _ _ _ _ hσ2x (by omega) (by omega)
  · skip
    refine V_aload_n C dL_law_1336 3 rfl ?_
    refine V_iconst (v := nI 0) C dL_law_1337 (by decide) ?_
    refine V_laldn (v := y.toInt64) C dL_law_1338 rfl rfl (by decide) (by decide) (by rw [if_pos hb2]; rfl) ?_
    refine V_iload C dL_law_1339 0 rfl ?_
    refine V_i2l C dL_law_1341 rfl ?_
    refine V_lcmp C dL_law_1342 ?_
    refine V_if_eq (tgt := 1348) C dL_law_1343 (by decide) (fun hb3 => ?_) (fun hb3 => by exfalso; exact hb3 (lg_self _))
    refine V_goto (tgt := 2272) C dL_law_1348 (by decide) ?_
    refine V_wd (w' := LW ad2 σ2 tl t lo (nI k) ro lo2 ma ap (if k = 0 then vp_updL f 0 y.toInt64 else f)) (put_comm (by decide)) ?_
    refine V_lv [2, 3, 4, 5, 6] rfl ?_
    exact K _ _ _ _ _ _ _ _ _ _ _ _ _ hσ2x (by omega) (by omega)
set_option maxHeartbeats 4000000 in
theorem law_17 {p : Program} {l : Launch} {e : Env} {s : State} {m : MethodId} {args : Array Value} {below : List Frame} {meth : Method} {c : Code} {D : va_G} {ba d mc ms cells slots : Nat} {Q : State → Prop} {ad : Adr} {tb : List ExceptionTableEntry} {σ : CS} {tl : Int32} {t : TT} {lo : Nat → Int32} {th ro : Int32} {lo2 ma ap : Nat → Int32} {f : Nat → Int64} (C : Cx p l s m args meth c D ba RL cL_law 9 tb d) (hl : l.stackTraces = false) (hd : 12 ≤ d) {b9 L i0 : Nat} {xs : Nat → Int32} (hX : va_X b9 L xs s s.heap) (hb : b9 < ba) (hi : i0 + 6 ≤ L) (hL : L ≤ 3072) (hσ : cOK σ) (hcs : cells + 60 ≤ mc) (hss : slots + 300 ≤ ms) (K : ∀ ad2 σ2 tl t lo th ro lo2 ma ap f cells2 slots2, cOK σ2 → cells2 ≤ cells + 60 → slots2 ≤ slots + 300 → V p l e s m args below meth c D ba d mc ms Q 9 ad2 (LW ad2 σ2 tl t lo th ro lo2 ma ap f) 2272 [(4, .int (nI i0)), (3, .ref (ad2 [2])), (2, .ref (ad2 [1])), (1, .ref (ad2 [0])), (0, .ref b9)] [] cells2 slots2) : V p l e s m args below meth c D ba d mc ms Q 9 ad (LW ad σ tl t lo th ro lo2 ma ap f) 1351 [(4, .int (nI i0)), (3, .ref (ad [2])), (2, .ref (ad [1])), (1, .ref (ad [0])), (0, .ref b9)] [] cells slots := by
  have hσ1 := hσ.1
  have hσ2 := hσ.2.1
  obtain ⟨k, y, σ2, hk4, hP, hσ2x, hW, hM⟩ := b_lastEcho (l := l) (D := D) (ba := ba) hl hσ (xs (i0 + 1)) (xs (i0 + 2))
  refine V_aload_n C dL_law_1351 3 rfl ?_
  refine V_aload_n C dL_law_1352 4 rfl ?_
  refine V_iload C dL_law_1353 0 rfl ?_
  refine V_iconst (v := nI 1) C dL_law_1355 (by decide) ?_
  refine V_iaddn C dL_law_1356 ?_
  refine V_sldn C hX hb (i := i0 + 1) (by omega) (by omega) dL_law_1357 ?_
  refine V_aload_n C dL_law_1358 4 rfl ?_
  refine V_iload C dL_law_1359 0 rfl ?_
  refine V_iconst (v := nI 2) C dL_law_1361 (by decide) ?_
  refine V_iaddn C dL_law_1362 ?_
  refine V_sldn C hX hb (i := i0 + 2) (by omega) (by omega) dL_law_1363 ?_
  refine V_aload_n C dL_law_1364 1 rfl ?_
  refine V_callSX C [.ref (ad [0]), .int (xs (i0 + 1)), .int (xs (i0 + 2)), .ref (ad [2])] dL_law_1365 m_L_lastEcho k_L_lastEcho tw_572 rfl rfl (Nat.le_of_ble_eq_true rfl) ⟨by omega, by omega, by omega, by omega⟩ (hW _ _ _ _ _ _ _ (by omega) QW_2f) (kr_WR (fun ad2 hK tl t lo => ?_)) kx_no
  have e0 := hK.2; have e1 := hK.1 1 [] (by decide); have e2 := hK.1 2 [] (by decide)
  refine V_wd (w' := QW 1 ad2 σ th ro lo2 ma ap (PW 0 ad2 σ2 tl t lo (Bf (if k = 0 then vp_updL f 0 y.toInt64 else f)))) (LW_swap hK) ?_
  rw [← e0, ← e1, ← e2]
  refine V_istore C [(5, .int (nI k)), (4, .int (nI i0)), (3, .ref (ad2 [2])), (2, .ref (ad2 [1])), (1, .ref (ad2 [0])), (0, .ref b9)] dL_law_1368 (by decide) rfl ?_
  refine V_aload_n C dL_law_1370 3 rfl ?_
  refine V_aload_n C dL_law_1371 5 rfl ?_
  refine V_iload C dL_law_1372 1 rfl ?_
  refine V_iconst (v := nI 1) C dL_law_1374 (by decide) ?_
  refine V_iaddn C dL_law_1375 ?_
  refine V_sldn C hX hb (i := i0 + 1) (by omega) (by omega) dL_law_1376 ?_
  refine V_aload_n C dL_law_1377 5 rfl ?_
  refine V_iload C dL_law_1378 1 rfl ?_
  refine V_iconst (v := nI 2) C dL_law_1380 (by decide) ?_
  refine V_iaddn C dL_law_1381 ?_
  refine V_sldn C hX hb (i := i0 + 2) (by omega) (by omega) dL_law_1382 ?_
  refine V_callV (r := (RX7, TX7, 17)) C [.int (xs (i0 + 1)), .int (xs (i0 + 2))] dL_law_1383 m_X7_lastEcho k_X7_lastEcho tw_872 rfl rfl rfl QW_o rfl rfl (Nat.le_of_ble_eq_true rfl) ⟨by omega, by omega, by omega, by omega⟩ (hM _ _ _ _ _ _ _ _ (by omega)) (kr_RQ (x := .int y) (fun ro lo2 ma ap => ?_)) kx_no
  refine V_istore C [(6, .int y), (5, .int (nI k)), (4, .int (nI i0)), (3, .ref (ad2 [2])), (2, .ref (ad2 [1])), (1, .ref (ad2 [0])), (0, .ref b9)] dL_law_1386 (by decide) rfl ?_
  refine V_aload_n C dL_law_1388 4 rfl ?_
  refine V_callV (r := (RX7, TX7, 17)) C [] dL_law_1389 m_X7_thrown k_X7_thrown tw_720 rfl rfl rfl QW_o rfl rfl (Nat.le_of_ble_eq_true rfl) ⟨by omega, by omega, by omega, by omega⟩ (m_thrown hl (by omega) hσ2x) (kr_some (x := .int (nI k)) ?_) kx_no
  refine V_iload C dL_law_1392 1 rfl ?_
  refine V_icmpn_eq (tgt := 1399) C dL_law_1394 (by decide) (by omega) (by omega) (fun hb1 => ?_) (fun hb1 => by exfalso; omega)
  refine V_iload C dL_law_1399 1 rfl ?_
  refine V_ifn_ne (tgt := 1416) C dL_law_1401 (by decide) (by omega) (fun hb2 => ?_) (fun hb2 => ?_)
  · skip
    refine V_goto (tgt := 2272) C dL_law_1416 (by decide) ?_
    refine V_wd (w' := LW ad2 σ2 tl t lo (nI k) ro lo2 ma ap (if k = 0 then vp_updL f 0 y.toInt64 else f)) (put_comm (by decide)) ?_
    refine V_lv [2, 3, 4, 5, 6] rfl ?_
    exact K _ _ _ _ _ _ _ _ _ _ _ _ _ hσ2x (by omega) (by omega)
  · skip
    refine V_aload_n C dL_law_1404 3 rfl ?_
    refine V_iconst (v := nI 0) C dL_law_1405 (by decide) ?_
    refine V_laldn (v := y.toInt64) C dL_law_1406 rfl rfl (by decide) (by decide) (by rw [if_pos hb2]; rfl) ?_
    refine V_iload C dL_law_1407 0 rfl ?_
    refine V_i2l C dL_law_1409 rfl ?_
    refine V_lcmp C dL_law_1410 ?_
    refine V_if_eq (tgt := 1416) C dL_law_1411 (by decide) (fun hb3 => ?_) (fun hb3 => by exfalso; exact hb3 (lg_self _))
    refine V_goto (tgt := 2272) C dL_law_1416 (by decide) ?_
    refine V_wd (w' := LW ad2 σ2 tl t lo (nI k) ro lo2 ma ap (if k = 0 then vp_updL f 0 y.toInt64 else f)) (put_comm (by decide)) ?_
    refine V_lv [2, 3, 4, 5, 6] rfl ?_
    exact K _ _ _ _ _ _ _ _ _ _ _ _ _ hσ2x (by omega) (by omega)
set_option maxHeartbeats 4000000 in
theorem law_18 {p : Program} {l : Launch} {e : Env} {s : State} {m : MethodId} {args : Array Value} {below : List Frame} {meth : Method} {c : Code} {D : va_G} {ba d mc ms cells slots : Nat} {Q : State → Prop} {ad : Adr} {tb : List ExceptionTableEntry} {σ : CS} {tl : Int32} {t : TT} {lo : Nat → Int32} {th ro : Int32} {lo2 ma ap : Nat → Int32} {f : Nat → Int64} (C : Cx p l s m args meth c D ba RL cL_law 9 tb d) (hl : l.stackTraces = false) (hd : 12 ≤ d) {b9 L i0 : Nat} {xs : Nat → Int32} (hX : va_X b9 L xs s s.heap) (hb : b9 < ba) (hi : i0 + 6 ≤ L) (hL : L ≤ 3072) (hσ : cOK σ) (hcs : cells + 60 ≤ mc) (hss : slots + 300 ≤ ms) (K : ∀ ad2 σ2 tl t lo th ro lo2 ma ap f cells2 slots2, cOK σ2 → cells2 ≤ cells + 60 → slots2 ≤ slots + 300 → V p l e s m args below meth c D ba d mc ms Q 9 ad2 (LW ad2 σ2 tl t lo th ro lo2 ma ap f) 2272 [(4, .int (nI i0)), (3, .ref (ad2 [2])), (2, .ref (ad2 [1])), (1, .ref (ad2 [0])), (0, .ref b9)] [] cells2 slots2) : V p l e s m args below meth c D ba d mc ms Q 9 ad (LW ad σ tl t lo th ro lo2 ma ap f) 1419 [(4, .int (nI i0)), (3, .ref (ad [2])), (2, .ref (ad [1])), (1, .ref (ad [0])), (0, .ref b9)] [] cells slots := by
  have hσ1 := hσ.1
  have hσ2 := hσ.2.1
  obtain ⟨k, y, σ2, hk4, hP, hσ2x, hW, hM⟩ := b_loudnessAt (l := l) (D := D) (ba := ba) hl hσ (xs (i0 + 1)) (xs (i0 + 2)) (xs (i0 + 3))
  refine V_aload_n C dL_law_1419 3 rfl ?_
  refine V_aload_n C dL_law_1420 4 rfl ?_
  refine V_iload C dL_law_1421 0 rfl ?_
  refine V_iconst (v := nI 1) C dL_law_1423 (by decide) ?_
  refine V_iaddn C dL_law_1424 ?_
  refine V_sldn C hX hb (i := i0 + 1) (by omega) (by omega) dL_law_1425 ?_
  refine V_aload_n C dL_law_1426 4 rfl ?_
  refine V_iload C dL_law_1427 0 rfl ?_
  refine V_iconst (v := nI 2) C dL_law_1429 (by decide) ?_
  refine V_iaddn C dL_law_1430 ?_
  refine V_sldn C hX hb (i := i0 + 2) (by omega) (by omega) dL_law_1431 ?_
  refine V_aload_n C dL_law_1432 4 rfl ?_
  refine V_iload C dL_law_1433 0 rfl ?_
  refine V_iconst (v := nI 3) C dL_law_1435 (by decide) ?_
  refine V_iaddn C dL_law_1436 ?_
  refine V_sldn C hX hb (i := i0 + 3) (by omega) (by omega) dL_law_1437 ?_
  refine V_aload_n C dL_law_1438 1 rfl ?_
  refine V_callSX C [.ref (ad [0]), .int (xs (i0 + 1)), .int (xs (i0 + 2)), .int (xs (i0 + 3)), .ref (ad [2])] dL_law_1439 m_L_loudnessAt k_L_loudnessAt tw_579 rfl rfl (Nat.le_of_ble_eq_true rfl) ⟨by omega, by omega, by omega, by omega⟩ (hW _ _ _ _ _ _ _ (by omega) QW_2f) (kr_WR (fun ad2 hK tl t lo => ?_)) kx_no
  have e0 := hK.2; have e1 := hK.1 1 [] (by decide); have e2 := hK.1 2 [] (by decide)
  refine V_wd (w' := QW 1 ad2 σ th ro lo2 ma ap (PW 0 ad2 σ2 tl t lo (Bf (if k = 0 then vp_updL f 0 y.toInt64 else f)))) (LW_swap hK) ?_
  rw [← e0, ← e1, ← e2]
  refine V_istore C [(5, .int (nI k)), (4, .int (nI i0)), (3, .ref (ad2 [2])), (2, .ref (ad2 [1])), (1, .ref (ad2 [0])), (0, .ref b9)] dL_law_1442 (by decide) rfl ?_
  refine V_aload_n C dL_law_1444 3 rfl ?_
  refine V_aload_n C dL_law_1445 5 rfl ?_
  refine V_iload C dL_law_1446 1 rfl ?_
  refine V_iconst (v := nI 1) C dL_law_1448 (by decide) ?_
  refine V_iaddn C dL_law_1449 ?_
  refine V_sldn C hX hb (i := i0 + 1) (by omega) (by omega) dL_law_1450 ?_
  refine V_aload_n C dL_law_1451 5 rfl ?_
  refine V_iload C dL_law_1452 1 rfl ?_
  refine V_iconst (v := nI 2) C dL_law_1454 (by decide) ?_
  refine V_iaddn C dL_law_1455 ?_
  refine V_sldn C hX hb (i := i0 + 2) (by omega) (by omega) dL_law_1456 ?_
  refine V_aload_n C dL_law_1457 5 rfl ?_
  refine V_iload C dL_law_1458 1 rfl ?_
  refine V_iconst (v := nI 3) C dL_law_1460 (by decide) ?_
  refine V_iaddn C dL_law_1461 ?_
  refine V_sldn C hX hb (i := i0 + 3) (by omega) (by omega) dL_law_1462 ?_
  refine V_callV (r := (RX7, TX7, 17)) C [.int (xs (i0 + 1)), .int (xs (i0 + 2)), .int (xs (i0 + 3))] dL_law_1463 m_X7_loudnessAt k_X7_loudnessAt tw_876 rfl rfl rfl QW_o rfl rfl (Nat.le_of_ble_eq_true rfl) ⟨by omega, by omega, by omega, by omega⟩ (hM _ _ _ _ _ _ _ _ (by omega)) (kr_RQ (x := .int y) (fun ro lo2 ma ap => ?_)) kx_no
  refine V_istore C [(6, .int y), (5, .int (nI k)), (4, .int (nI i0)), (3, .ref (ad2 [2])), (2, .ref (ad2 [1])), (1, .ref (ad2 [0])), (0, .ref b9)] dL_law_1466 (by decide) rfl ?_
  refine V_aload_n C dL_law_1468 4 rfl ?_
  refine V_callV (r := (RX7, TX7, 17)) C [] dL_law_1469 m_X7_thrown k_X7_thrown tw_720 rfl rfl rfl QW_o rfl rfl (Nat.le_of_ble_eq_true rfl) ⟨by omega, by omega, by omega, by omega⟩ (m_thrown hl (by omega) hσ2x) (kr_some (x := .int (nI k)) ?_) kx_no
  refine V_iload C dL_law_1472 1 rfl ?_
  refine V_icmpn_eq (tgt := 1479) C dL_law_1474 (by decide) (by omega) (by omega) (fun hb1 => ?_) (fun hb1 => by exfalso; omega)
  refine V_iload C dL_law_1479 1 rfl ?_
  refine V_ifn_ne (tgt := 1496) C dL_law_1481 (by decide) (by omega) (fun hb2 => ?_) (fun hb2 => ?_)
  · skip
    refine V_goto (tgt := 2272) C dL_law_1496 (by decide) ?_
    refine V_wd (w' := LW ad2 σ2 tl t lo (nI k) ro lo2 ma ap (if k = 0 then vp_updL f 0 y.toInt64 else f)) (put_comm (by decide)) ?_
    refine V_lv [2, 3, 4, 5, 6] rfl ?_
    exact K _ _ _ _ _ _ _ _ _ _ _ _ _ hσ2x (by omega) (by omega)
  · skip
    refine V_aload_n C dL_law_1484 3 rfl ?_
    refine V_iconst (v := nI 0) C dL_law_1485 (by decide) ?_
    refine V_laldn (v := y.toInt64) C dL_law_1486 rfl rfl (by decide) (by decide) (by rw [if_pos hb2]; rfl) ?_
    refine V_iload C dL_law_1487 0 rfl ?_
    refine V_i2l C dL_law_1489 rfl ?_
    refine V_lcmp C dL_law_1490 ?_
    refine V_if_eq (tgt := 1496) C dL_law_1491 (by decide) (fun hb3 => ?_) (fun hb3 => by exfalso; exact hb3 (lg_self _))
    refine V_goto (tgt := 2272) C dL_law_1496 (by decide) ?_
    refine V_wd (w' := LW ad2 σ2 tl t lo (nI k) ro lo2 ma ap (if k = 0 then vp_updL f 0 y.toInt64 else f)) (put_comm (by decide)) ?_
    refine V_lv [2, 3, 4, 5, 6] rfl ?_
    exact K _ _ _ _ _ _ _ _ _ _ _ _ _ hσ2x (by omega) (by omega)
set_option maxHeartbeats 4000000 in
theorem law_19 {p : Program} {l : Launch} {e : Env} {s : State} {m : MethodId} {args : Array Value} {below : List Frame} {meth : Method} {c : Code} {D : va_G} {ba d mc ms cells slots : Nat} {Q : State → Prop} {ad : Adr} {tb : List ExceptionTableEntry} {σ : CS} {tl : Int32} {t : TT} {lo : Nat → Int32} {th ro : Int32} {lo2 ma ap : Nat → Int32} {f : Nat → Int64} (C : Cx p l s m args meth c D ba RL cL_law 9 tb d) (hl : l.stackTraces = false) (hd : 12 ≤ d) {b9 L i0 : Nat} {xs : Nat → Int32} (hX : va_X b9 L xs s s.heap) (hb : b9 < ba) (hi : i0 + 6 ≤ L) (hL : L ≤ 3072) (hσ : cOK σ) (hcs : cells + 60 ≤ mc) (hss : slots + 300 ≤ ms) (K : ∀ ad2 σ2 tl t lo th ro lo2 ma ap f cells2 slots2, cOK σ2 → cells2 ≤ cells + 60 → slots2 ≤ slots + 300 → V p l e s m args below meth c D ba d mc ms Q 9 ad2 (LW ad2 σ2 tl t lo th ro lo2 ma ap f) 2272 [(4, .int (nI i0)), (3, .ref (ad2 [2])), (2, .ref (ad2 [1])), (1, .ref (ad2 [0])), (0, .ref b9)] [] cells2 slots2) : V p l e s m args below meth c D ba d mc ms Q 9 ad (LW ad σ tl t lo th ro lo2 ma ap f) 1499 [(4, .int (nI i0)), (3, .ref (ad [2])), (2, .ref (ad [1])), (1, .ref (ad [0])), (0, .ref b9)] [] cells slots := by
  have hσ1 := hσ.1
  have hσ2 := hσ.2.1
  obtain ⟨k, y, σ2, hk4, hP, hσ2x, hW, hM⟩ := b_loudestMoment (l := l) (D := D) (ba := ba) hl hσ (xs (i0 + 1)) (xs (i0 + 2))
  refine V_aload_n C dL_law_1499 3 rfl ?_
  refine V_aload_n C dL_law_1500 4 rfl ?_
  refine V_iload C dL_law_1501 0 rfl ?_
  refine V_iconst (v := nI 1) C dL_law_1503 (by decide) ?_
  refine V_iaddn C dL_law_1504 ?_
  refine V_sldn C hX hb (i := i0 + 1) (by omega) (by omega) dL_law_1505 ?_
  refine V_aload_n C dL_law_1506 4 rfl ?_
  refine V_iload C dL_law_1507 0 rfl ?_
  refine V_iconst (v := nI 2) C dL_law_1509 (by decide) ?_
  refine V_iaddn C dL_law_1510 ?_
  refine V_sldn C hX hb (i := i0 + 2) (by omega) (by omega) dL_law_1511 ?_
  refine V_aload_n C dL_law_1512 1 rfl ?_
  refine V_callSX C [.ref (ad [0]), .int (xs (i0 + 1)), .int (xs (i0 + 2)), .ref (ad [2])] dL_law_1513 m_L_loudestMoment k_L_loudestMoment tw_591 rfl rfl (Nat.le_of_ble_eq_true rfl) ⟨by omega, by omega, by omega, by omega⟩ (hW _ _ _ _ _ _ _ (by omega) QW_2f) (kr_WR (fun ad2 hK tl t lo => ?_)) kx_no
  have e0 := hK.2; have e1 := hK.1 1 [] (by decide); have e2 := hK.1 2 [] (by decide)
  refine V_wd (w' := QW 1 ad2 σ th ro lo2 ma ap (PW 0 ad2 σ2 tl t lo (Bf (if k = 0 then vp_updL f 0 y.toInt64 else f)))) (LW_swap hK) ?_
  rw [← e0, ← e1, ← e2]
  refine V_istore C [(5, .int (nI k)), (4, .int (nI i0)), (3, .ref (ad2 [2])), (2, .ref (ad2 [1])), (1, .ref (ad2 [0])), (0, .ref b9)] dL_law_1516 (by decide) rfl ?_
  refine V_aload_n C dL_law_1518 3 rfl ?_
  refine V_aload_n C dL_law_1519 5 rfl ?_
  refine V_iload C dL_law_1520 1 rfl ?_
  refine V_iconst (v := nI 1) C dL_law_1522 (by decide) ?_
  refine V_iaddn C dL_law_1523 ?_
  refine V_sldn C hX hb (i := i0 + 1) (by omega) (by omega) dL_law_1524 ?_
  refine V_aload_n C dL_law_1525 5 rfl ?_
  refine V_iload C dL_law_1526 1 rfl ?_
  refine V_iconst (v := nI 2) C dL_law_1528 (by decide) ?_
  refine V_iaddn C dL_law_1529 ?_
  refine V_sldn C hX hb (i := i0 + 2) (by omega) (by omega) dL_law_1530 ?_
  refine V_callV (r := (RX7, TX7, 17)) C [.int (xs (i0 + 1)), .int (xs (i0 + 2))] dL_law_1531 m_X7_loudestMoment k_X7_loudestMoment tw_884 rfl rfl rfl QW_o rfl rfl (Nat.le_of_ble_eq_true rfl) ⟨by omega, by omega, by omega, by omega⟩ (hM _ _ _ _ _ _ _ _ (by omega)) (kr_RQ (x := .int y) (fun ro lo2 ma ap => ?_)) kx_no
  refine V_istore C [(6, .int y), (5, .int (nI k)), (4, .int (nI i0)), (3, .ref (ad2 [2])), (2, .ref (ad2 [1])), (1, .ref (ad2 [0])), (0, .ref b9)] dL_law_1534 (by decide) rfl ?_
  refine V_aload_n C dL_law_1536 4 rfl ?_
  refine V_callV (r := (RX7, TX7, 17)) C [] dL_law_1537 m_X7_thrown k_X7_thrown tw_720 rfl rfl rfl QW_o rfl rfl (Nat.le_of_ble_eq_true rfl) ⟨by omega, by omega, by omega, by omega⟩ (m_thrown hl (by omega) hσ2x) (kr_some (x := .int (nI k)) ?_) kx_no
  refine V_iload C dL_law_1540 1 rfl ?_
  refine V_icmpn_eq (tgt := 1547) C dL_law_1542 (by decide) (by omega) (by omega) (fun hb1 => ?_) (fun hb1 => by exfalso; omega)
  refine V_iload C dL_law_1547 1 rfl ?_
  refine V_ifn_ne (tgt := 1564) C dL_law_1549 (by decide) (by omega) (fun hb2 => ?_) (fun hb2 => ?_)
  · skip
    refine V_goto (tgt := 2272) C dL_law_1564 (by decide) ?_
    refine V_wd (w' := LW ad2 σ2 tl t lo (nI k) ro lo2 ma ap (if k = 0 then vp_updL f 0 y.toInt64 else f)) (put_comm (by decide)) ?_
    refine V_lv [2, 3, 4, 5, 6] rfl ?_
    exact K _ _ _ _ _ _ _ _ _ _ _ _ _ hσ2x (by omega) (by omega)
  · skip
    refine V_aload_n C dL_law_1552 3 rfl ?_
    refine V_iconst (v := nI 0) C dL_law_1553 (by decide) ?_
    refine V_laldn (v := y.toInt64) C dL_law_1554 rfl rfl (by decide) (by decide) (by rw [if_pos hb2]; rfl) ?_
    refine V_iload C dL_law_1555 0 rfl ?_
    refine V_i2l C dL_law_1557 rfl ?_
    refine V_lcmp C dL_law_1558 ?_
    refine V_if_eq (tgt := 1564) C dL_law_1559 (by decide) (fun hb3 => ?_) (fun hb3 => by exfalso; exact hb3 (lg_self _))
    refine V_goto (tgt := 2272) C dL_law_1564 (by decide) ?_
    refine V_wd (w' := LW ad2 σ2 tl t lo (nI k) ro lo2 ma ap (if k = 0 then vp_updL f 0 y.toInt64 else f)) (put_comm (by decide)) ?_
    refine V_lv [2, 3, 4, 5, 6] rfl ?_
    exact K _ _ _ _ _ _ _ _ _ _ _ _ _ hσ2x (by omega) (by omega)
set_option maxHeartbeats 4000000 in
theorem law_20 {p : Program} {l : Launch} {e : Env} {s : State} {m : MethodId} {args : Array Value} {below : List Frame} {meth : Method} {c : Code} {D : va_G} {ba d mc ms cells slots : Nat} {Q : State → Prop} {ad : Adr} {tb : List ExceptionTableEntry} {σ : CS} {tl : Int32} {t : TT} {lo : Nat → Int32} {th ro : Int32} {lo2 ma ap : Nat → Int32} {f : Nat → Int64} (C : Cx p l s m args meth c D ba RL cL_law 9 tb d) (hl : l.stackTraces = false) (hd : 12 ≤ d) {b9 L i0 : Nat} {xs : Nat → Int32} (hX : va_X b9 L xs s s.heap) (hb : b9 < ba) (hi : i0 + 6 ≤ L) (hL : L ≤ 3072) (hσ : cOK σ) (hcs : cells + 60 ≤ mc) (hss : slots + 300 ≤ ms) (K : ∀ ad2 σ2 tl t lo th ro lo2 ma ap f cells2 slots2, cOK σ2 → cells2 ≤ cells + 60 → slots2 ≤ slots + 300 → V p l e s m args below meth c D ba d mc ms Q 9 ad2 (LW ad2 σ2 tl t lo th ro lo2 ma ap f) 2272 [(4, .int (nI i0)), (3, .ref (ad2 [2])), (2, .ref (ad2 [1])), (1, .ref (ad2 [0])), (0, .ref b9)] [] cells2 slots2) : V p l e s m args below meth c D ba d mc ms Q 9 ad (LW ad σ tl t lo th ro lo2 ma ap f) 1567 [(4, .int (nI i0)), (3, .ref (ad [2])), (2, .ref (ad [1])), (1, .ref (ad [0])), (0, .ref b9)] [] cells slots := by
  have hσ1 := hσ.1
  have hσ2 := hσ.2.1
  obtain ⟨k, y, σ2, hk4, hP, hσ2x, hW, hM⟩ := b_meets (l := l) (D := D) (ba := ba) hl hσ (xs (i0 + 1)) (xs (i0 + 2))
  refine V_aload_n C dL_law_1567 3 rfl ?_
  refine V_aload_n C dL_law_1568 4 rfl ?_
  refine V_iload C dL_law_1569 0 rfl ?_
  refine V_iconst (v := nI 1) C dL_law_1571 (by decide) ?_
  refine V_iaddn C dL_law_1572 ?_
  refine V_sldn C hX hb (i := i0 + 1) (by omega) (by omega) dL_law_1573 ?_
  refine V_aload_n C dL_law_1574 4 rfl ?_
  refine V_iload C dL_law_1575 0 rfl ?_
  refine V_iconst (v := nI 2) C dL_law_1577 (by decide) ?_
  refine V_iaddn C dL_law_1578 ?_
  refine V_sldn C hX hb (i := i0 + 2) (by omega) (by omega) dL_law_1579 ?_
  refine V_aload_n C dL_law_1580 1 rfl ?_
  refine V_callSX C [.ref (ad [0]), .int (xs (i0 + 1)), .int (xs (i0 + 2)), .ref (ad [2])] dL_law_1581 m_L_meets k_L_meets tw_598 rfl rfl (Nat.le_of_ble_eq_true rfl) ⟨by omega, by omega, by omega, by omega⟩ (hW _ _ _ _ _ _ _ (by omega) QW_2f) (kr_WR (fun ad2 hK tl t lo => ?_)) kx_no
  have e0 := hK.2; have e1 := hK.1 1 [] (by decide); have e2 := hK.1 2 [] (by decide)
  refine V_wd (w' := QW 1 ad2 σ th ro lo2 ma ap (PW 0 ad2 σ2 tl t lo (Bf (if k = 0 then vp_updL f 0 y.toInt64 else f)))) (LW_swap hK) ?_
  rw [← e0, ← e1, ← e2]
  refine V_istore C [(5, .int (nI k)), (4, .int (nI i0)), (3, .ref (ad2 [2])), (2, .ref (ad2 [1])), (1, .ref (ad2 [0])), (0, .ref b9)] dL_law_1584 (by decide) rfl ?_
  refine V_aload_n C dL_law_1586 3 rfl ?_
  refine V_aload_n C dL_law_1587 5 rfl ?_
  refine V_iload C dL_law_1588 1 rfl ?_
  refine V_iconst (v := nI 1) C dL_law_1590 (by decide) ?_
  refine V_iaddn C dL_law_1591 ?_
  refine V_sldn C hX hb (i := i0 + 1) (by omega) (by omega) dL_law_1592 ?_
  refine V_aload_n C dL_law_1593 5 rfl ?_
  refine V_iload C dL_law_1594 1 rfl ?_
  refine V_iconst (v := nI 2) C dL_law_1596 (by decide) ?_
  refine V_iaddn C dL_law_1597 ?_
  refine V_sldn C hX hb (i := i0 + 2) (by omega) (by omega) dL_law_1598 ?_
  refine V_callV (r := (RX7, TX7, 17)) C [.int (xs (i0 + 1)), .int (xs (i0 + 2))] dL_law_1599 m_X7_meets_ k_X7_meets_ tw_892 rfl rfl rfl QW_o rfl rfl (Nat.le_of_ble_eq_true rfl) ⟨by omega, by omega, by omega, by omega⟩ (hM _ _ _ _ _ _ _ _ (by omega)) (kr_RQ (x := .int y) (fun ro lo2 ma ap => ?_)) kx_no
  refine V_istore C [(6, .int y), (5, .int (nI k)), (4, .int (nI i0)), (3, .ref (ad2 [2])), (2, .ref (ad2 [1])), (1, .ref (ad2 [0])), (0, .ref b9)] dL_law_1602 (by decide) rfl ?_
  refine V_aload_n C dL_law_1604 4 rfl ?_
  refine V_callV (r := (RX7, TX7, 17)) C [] dL_law_1605 m_X7_thrown k_X7_thrown tw_720 rfl rfl rfl QW_o rfl rfl (Nat.le_of_ble_eq_true rfl) ⟨by omega, by omega, by omega, by omega⟩ (m_thrown hl (by omega) hσ2x) (kr_some (x := .int (nI k)) ?_) kx_no
  refine V_iload C dL_law_1608 1 rfl ?_
  refine V_icmpn_eq (tgt := 1615) C dL_law_1610 (by decide) (by omega) (by omega) (fun hb1 => ?_) (fun hb1 => by exfalso; omega)
  refine V_iload C dL_law_1615 1 rfl ?_
  refine V_ifn_ne (tgt := 1639) C dL_law_1617 (by decide) (by omega) (fun hb2 => ?_) (fun hb2 => ?_)
  · skip
    refine V_goto (tgt := 2272) C dL_law_1639 (by decide) ?_
    refine V_wd (w' := LW ad2 σ2 tl t lo (nI k) ro lo2 ma ap (if k = 0 then vp_updL f 0 y.toInt64 else f)) (put_comm (by decide)) ?_
    refine V_lv [2, 3, 4, 5, 6] rfl ?_
    exact K _ _ _ _ _ _ _ _ _ _ _ _ _ hσ2x (by omega) (by omega)
  · skip
    refine V_aload_n C dL_law_1620 3 rfl ?_
    refine V_iconst (v := nI 0) C dL_law_1621 (by decide) ?_
    refine V_laldn (v := y.toInt64) C dL_law_1622 rfl rfl (by decide) (by decide) (by rw [if_pos hb2]; rfl) ?_
    refine V_iload C dL_law_1623 0 rfl ?_
    refine V_if_eq (tgt := 1632) C dL_law_1625 (by decide) (fun hb3 => ?_) (fun hb3 => ?_)
    · skip
      refine V_lconst (v := 0) C dL_law_1632 (by decide) ?_
      refine V_lcmp C dL_law_1633 ?_
      refine V_if_eq (tgt := 1639) C dL_law_1634 (by decide) (fun hb4 => ?_) (fun hb4 => by exfalso; exact hb4 (by rw [hb3]; rfl))
      refine V_goto (tgt := 2272) C dL_law_1639 (by decide) ?_
      refine V_wd (w' := LW ad2 σ2 tl t lo (nI k) ro lo2 ma ap (if k = 0 then vp_updL f 0 y.toInt64 else f)) (put_comm (by decide)) ?_
      refine V_lv [2, 3, 4, 5, 6] rfl ?_
      exact K _ _ _ _ _ _ _ _ _ _ _ _ _ hσ2x (by omega) (by omega)
    · skip
      refine V_lconst (v := 1) C dL_law_1628 (by decide) ?_
      refine V_goto (tgt := 1633) C dL_law_1629 (by decide) ?_
      refine V_lcmp C dL_law_1633 ?_
      refine V_if_eq (tgt := 1639) C dL_law_1634 (by decide) (fun hb5 => ?_) (fun hb5 => by exfalso; exact hb5 (by rw [hP.resolve_left hb3]; rfl))
      refine V_goto (tgt := 2272) C dL_law_1639 (by decide) ?_
      refine V_wd (w' := LW ad2 σ2 tl t lo (nI k) ro lo2 ma ap (if k = 0 then vp_updL f 0 y.toInt64 else f)) (put_comm (by decide)) ?_
      refine V_lv [2, 3, 4, 5, 6] rfl ?_
      exact K _ _ _ _ _ _ _ _ _ _ _ _ _ hσ2x (by omega) (by omega)
set_option maxHeartbeats 4000000 in
theorem law_21 {p : Program} {l : Launch} {e : Env} {s : State} {m : MethodId} {args : Array Value} {below : List Frame} {meth : Method} {c : Code} {D : va_G} {ba d mc ms cells slots : Nat} {Q : State → Prop} {ad : Adr} {tb : List ExceptionTableEntry} {σ : CS} {tl : Int32} {t : TT} {lo : Nat → Int32} {th ro : Int32} {lo2 ma ap : Nat → Int32} {f : Nat → Int64} (C : Cx p l s m args meth c D ba RL cL_law 9 tb d) (hl : l.stackTraces = false) (hd : 12 ≤ d) {b9 L i0 : Nat} {xs : Nat → Int32} (hX : va_X b9 L xs s s.heap) (hb : b9 < ba) (hi : i0 + 6 ≤ L) (hL : L ≤ 3072) (hσ : cOK σ) (hcs : cells + 60 ≤ mc) (hss : slots + 300 ≤ ms) (K : ∀ ad2 σ2 tl t lo th ro lo2 ma ap f cells2 slots2, cOK σ2 → cells2 ≤ cells + 60 → slots2 ≤ slots + 300 → V p l e s m args below meth c D ba d mc ms Q 9 ad2 (LW ad2 σ2 tl t lo th ro lo2 ma ap f) 2272 [(4, .int (nI i0)), (3, .ref (ad2 [2])), (2, .ref (ad2 [1])), (1, .ref (ad2 [0])), (0, .ref b9)] [] cells2 slots2) : V p l e s m args below meth c D ba d mc ms Q 9 ad (LW ad σ tl t lo th ro lo2 ma ap f) 1642 [(4, .int (nI i0)), (3, .ref (ad [2])), (2, .ref (ad [1])), (1, .ref (ad [0])), (0, .ref b9)] [] cells slots := by
  have hσ1 := hσ.1
  have hσ2 := hσ.2.1
  obtain ⟨k, y, σ2, hk4, hP, hσ2x, hW, hM⟩ := b_hallsMeeting (l := l) (D := D) (ba := ba) hl hσ (xs (i0 + 1))
  refine V_aload_n C dL_law_1642 3 rfl ?_
  refine V_aload_n C dL_law_1643 4 rfl ?_
  refine V_iload C dL_law_1644 0 rfl ?_
  refine V_iconst (v := nI 1) C dL_law_1646 (by decide) ?_
  refine V_iaddn C dL_law_1647 ?_
  refine V_sldn C hX hb (i := i0 + 1) (by omega) (by omega) dL_law_1648 ?_
  refine V_aload_n C dL_law_1649 1 rfl ?_
  refine V_callSX C [.ref (ad [0]), .int (xs (i0 + 1)), .ref (ad [2])] dL_law_1650 m_L_hallsMeeting k_L_hallsMeeting tw_605 rfl rfl (Nat.le_of_ble_eq_true rfl) ⟨by omega, by omega, by omega, by omega⟩ (hW _ _ _ _ _ _ _ (by omega) QW_2f) (kr_WR (fun ad2 hK tl t lo => ?_)) kx_no
  have e0 := hK.2; have e1 := hK.1 1 [] (by decide); have e2 := hK.1 2 [] (by decide)
  refine V_wd (w' := QW 1 ad2 σ th ro lo2 ma ap (PW 0 ad2 σ2 tl t lo (Bf (if k = 0 then vp_updL f 0 y.toInt64 else f)))) (LW_swap hK) ?_
  rw [← e0, ← e1, ← e2]
  refine V_istore C [(5, .int (nI k)), (4, .int (nI i0)), (3, .ref (ad2 [2])), (2, .ref (ad2 [1])), (1, .ref (ad2 [0])), (0, .ref b9)] dL_law_1653 (by decide) rfl ?_
  refine V_aload_n C dL_law_1655 3 rfl ?_
  refine V_aload_n C dL_law_1656 5 rfl ?_
  refine V_iload C dL_law_1657 1 rfl ?_
  refine V_iconst (v := nI 1) C dL_law_1659 (by decide) ?_
  refine V_iaddn C dL_law_1660 ?_
  refine V_sldn C hX hb (i := i0 + 1) (by omega) (by omega) dL_law_1661 ?_
  refine V_callV (r := (RX7, TX7, 17)) C [.int (xs (i0 + 1))] dL_law_1662 m_X7_hallsMeeting k_X7_hallsMeeting tw_896 rfl rfl rfl QW_o rfl rfl (Nat.le_of_ble_eq_true rfl) ⟨by omega, by omega, by omega, by omega⟩ (hM _ _ _ _ _ _ _ _ (by omega)) (kr_RQ (x := .int y) (fun ro lo2 ma ap => ?_)) kx_no
  refine V_istore C [(6, .int y), (5, .int (nI k)), (4, .int (nI i0)), (3, .ref (ad2 [2])), (2, .ref (ad2 [1])), (1, .ref (ad2 [0])), (0, .ref b9)] dL_law_1665 (by decide) rfl ?_
  refine V_aload_n C dL_law_1667 4 rfl ?_
  refine V_callV (r := (RX7, TX7, 17)) C [] dL_law_1668 m_X7_thrown k_X7_thrown tw_720 rfl rfl rfl QW_o rfl rfl (Nat.le_of_ble_eq_true rfl) ⟨by omega, by omega, by omega, by omega⟩ (m_thrown hl (by omega) hσ2x) (kr_some (x := .int (nI k)) ?_) kx_no
  refine V_iload C dL_law_1671 1 rfl ?_
  refine V_icmpn_eq (tgt := 1678) C dL_law_1673 (by decide) (by omega) (by omega) (fun hb1 => ?_) (fun hb1 => by exfalso; omega)
  refine V_iload C dL_law_1678 1 rfl ?_
  refine V_ifn_ne (tgt := 1695) C dL_law_1680 (by decide) (by omega) (fun hb2 => ?_) (fun hb2 => ?_)
  · skip
    refine V_goto (tgt := 2272) C dL_law_1695 (by decide) ?_
    refine V_wd (w' := LW ad2 σ2 tl t lo (nI k) ro lo2 ma ap (if k = 0 then vp_updL f 0 y.toInt64 else f)) (put_comm (by decide)) ?_
    refine V_lv [2, 3, 4, 5, 6] rfl ?_
    exact K _ _ _ _ _ _ _ _ _ _ _ _ _ hσ2x (by omega) (by omega)
  · skip
    refine V_aload_n C dL_law_1683 3 rfl ?_
    refine V_iconst (v := nI 0) C dL_law_1684 (by decide) ?_
    refine V_laldn (v := y.toInt64) C dL_law_1685 rfl rfl (by decide) (by decide) (by rw [if_pos hb2]; rfl) ?_
    refine V_iload C dL_law_1686 0 rfl ?_
    refine V_i2l C dL_law_1688 rfl ?_
    refine V_lcmp C dL_law_1689 ?_
    refine V_if_eq (tgt := 1695) C dL_law_1690 (by decide) (fun hb3 => ?_) (fun hb3 => by exfalso; exact hb3 (lg_self _))
    refine V_goto (tgt := 2272) C dL_law_1695 (by decide) ?_
    refine V_wd (w' := LW ad2 σ2 tl t lo (nI k) ro lo2 ma ap (if k = 0 then vp_updL f 0 y.toInt64 else f)) (put_comm (by decide)) ?_
    refine V_lv [2, 3, 4, 5, 6] rfl ?_
    exact K _ _ _ _ _ _ _ _ _ _ _ _ _ hσ2x (by omega) (by omega)
set_option maxHeartbeats 4000000 in
theorem law_22 {p : Program} {l : Launch} {e : Env} {s : State} {m : MethodId} {args : Array Value} {below : List Frame} {meth : Method} {c : Code} {D : va_G} {ba d mc ms cells slots : Nat} {Q : State → Prop} {ad : Adr} {tb : List ExceptionTableEntry} {σ : CS} {tl : Int32} {t : TT} {lo : Nat → Int32} {th ro : Int32} {lo2 ma ap : Nat → Int32} {f : Nat → Int64} (C : Cx p l s m args meth c D ba RL cL_law 9 tb d) (hl : l.stackTraces = false) (hd : 12 ≤ d) {b9 L i0 : Nat} {xs : Nat → Int32} (hX : va_X b9 L xs s s.heap) (hb : b9 < ba) (hi : i0 + 6 ≤ L) (hL : L ≤ 3072) (hσ : cOK σ) (hcs : cells + 60 ≤ mc) (hss : slots + 300 ≤ ms) (K : ∀ ad2 σ2 tl t lo th ro lo2 ma ap f cells2 slots2, cOK σ2 → cells2 ≤ cells + 60 → slots2 ≤ slots + 300 → V p l e s m args below meth c D ba d mc ms Q 9 ad2 (LW ad2 σ2 tl t lo th ro lo2 ma ap f) 2272 [(4, .int (nI i0)), (3, .ref (ad2 [2])), (2, .ref (ad2 [1])), (1, .ref (ad2 [0])), (0, .ref b9)] [] cells2 slots2) : V p l e s m args below meth c D ba d mc ms Q 9 ad (LW ad σ tl t lo th ro lo2 ma ap f) 1698 [(4, .int (nI i0)), (3, .ref (ad [2])), (2, .ref (ad [1])), (1, .ref (ad [0])), (0, .ref b9)] [] cells slots := by
  have hσ1 := hσ.1
  have hσ2 := hσ.2.1
  obtain ⟨k, y, σ2, hk4, hP, hσ2x, hW, hM⟩ := b_isCertified (l := l) (D := D) (ba := ba) hl hσ (xs (i0 + 1))
  refine V_aload_n C dL_law_1698 3 rfl ?_
  refine V_aload_n C dL_law_1699 4 rfl ?_
  refine V_iload C dL_law_1700 0 rfl ?_
  refine V_iconst (v := nI 1) C dL_law_1702 (by decide) ?_
  refine V_iaddn C dL_law_1703 ?_
  refine V_sldn C hX hb (i := i0 + 1) (by omega) (by omega) dL_law_1704 ?_
  refine V_aload_n C dL_law_1705 1 rfl ?_
  refine V_callSX C [.ref (ad [0]), .int (xs (i0 + 1)), .ref (ad [2])] dL_law_1706 m_L_isCertified k_L_isCertified tw_612 rfl rfl (Nat.le_of_ble_eq_true rfl) ⟨by omega, by omega, by omega, by omega⟩ (hW _ _ _ _ _ _ _ (by omega) QW_2f) (kr_WR (fun ad2 hK tl t lo => ?_)) kx_no
  have e0 := hK.2; have e1 := hK.1 1 [] (by decide); have e2 := hK.1 2 [] (by decide)
  refine V_wd (w' := QW 1 ad2 σ th ro lo2 ma ap (PW 0 ad2 σ2 tl t lo (Bf (if k = 0 then vp_updL f 0 y.toInt64 else f)))) (LW_swap hK) ?_
  rw [← e0, ← e1, ← e2]
  refine V_istore C [(5, .int (nI k)), (4, .int (nI i0)), (3, .ref (ad2 [2])), (2, .ref (ad2 [1])), (1, .ref (ad2 [0])), (0, .ref b9)] dL_law_1709 (by decide) rfl ?_
  refine V_aload_n C dL_law_1711 3 rfl ?_
  refine V_aload_n C dL_law_1712 5 rfl ?_
  refine V_iload C dL_law_1713 1 rfl ?_
  refine V_iconst (v := nI 1) C dL_law_1715 (by decide) ?_
  refine V_iaddn C dL_law_1716 ?_
  refine V_sldn C hX hb (i := i0 + 1) (by omega) (by omega) dL_law_1717 ?_
  refine V_callV (r := (RX7, TX7, 17)) C [.int (xs (i0 + 1))] dL_law_1718 m_X7_isCertified k_X7_isCertified tw_900 rfl rfl rfl QW_o rfl rfl (Nat.le_of_ble_eq_true rfl) ⟨by omega, by omega, by omega, by omega⟩ (hM _ _ _ _ _ _ _ _ (by omega)) (kr_RQ (x := .int y) (fun ro lo2 ma ap => ?_)) kx_no
  refine V_istore C [(6, .int y), (5, .int (nI k)), (4, .int (nI i0)), (3, .ref (ad2 [2])), (2, .ref (ad2 [1])), (1, .ref (ad2 [0])), (0, .ref b9)] dL_law_1721 (by decide) rfl ?_
  refine V_aload_n C dL_law_1723 4 rfl ?_
  refine V_callV (r := (RX7, TX7, 17)) C [] dL_law_1724 m_X7_thrown k_X7_thrown tw_720 rfl rfl rfl QW_o rfl rfl (Nat.le_of_ble_eq_true rfl) ⟨by omega, by omega, by omega, by omega⟩ (m_thrown hl (by omega) hσ2x) (kr_some (x := .int (nI k)) ?_) kx_no
  refine V_iload C dL_law_1727 1 rfl ?_
  refine V_icmpn_eq (tgt := 1734) C dL_law_1729 (by decide) (by omega) (by omega) (fun hb1 => ?_) (fun hb1 => by exfalso; omega)
  refine V_iload C dL_law_1734 1 rfl ?_
  refine V_ifn_ne (tgt := 1758) C dL_law_1736 (by decide) (by omega) (fun hb2 => ?_) (fun hb2 => ?_)
  · skip
    refine V_goto (tgt := 2272) C dL_law_1758 (by decide) ?_
    refine V_wd (w' := LW ad2 σ2 tl t lo (nI k) ro lo2 ma ap (if k = 0 then vp_updL f 0 y.toInt64 else f)) (put_comm (by decide)) ?_
    refine V_lv [2, 3, 4, 5, 6] rfl ?_
    exact K _ _ _ _ _ _ _ _ _ _ _ _ _ hσ2x (by omega) (by omega)
  · skip
    refine V_aload_n C dL_law_1739 3 rfl ?_
    refine V_iconst (v := nI 0) C dL_law_1740 (by decide) ?_
    refine V_laldn (v := y.toInt64) C dL_law_1741 rfl rfl (by decide) (by decide) (by rw [if_pos hb2]; rfl) ?_
    refine V_iload C dL_law_1742 0 rfl ?_
    refine V_if_eq (tgt := 1751) C dL_law_1744 (by decide) (fun hb3 => ?_) (fun hb3 => ?_)
    · skip
      refine V_lconst (v := 0) C dL_law_1751 (by decide) ?_
      refine V_lcmp C dL_law_1752 ?_
      refine V_if_eq (tgt := 1758) C dL_law_1753 (by decide) (fun hb4 => ?_) (fun hb4 => by exfalso; exact hb4 (by rw [hb3]; rfl))
      refine V_goto (tgt := 2272) C dL_law_1758 (by decide) ?_
      refine V_wd (w' := LW ad2 σ2 tl t lo (nI k) ro lo2 ma ap (if k = 0 then vp_updL f 0 y.toInt64 else f)) (put_comm (by decide)) ?_
      refine V_lv [2, 3, 4, 5, 6] rfl ?_
      exact K _ _ _ _ _ _ _ _ _ _ _ _ _ hσ2x (by omega) (by omega)
    · skip
      refine V_lconst (v := 1) C dL_law_1747 (by decide) ?_
      refine V_goto (tgt := 1752) C dL_law_1748 (by decide) ?_
      refine V_lcmp C dL_law_1752 ?_
      refine V_if_eq (tgt := 1758) C dL_law_1753 (by decide) (fun hb5 => ?_) (fun hb5 => by exfalso; exact hb5 (by rw [hP.resolve_left hb3]; rfl))
      refine V_goto (tgt := 2272) C dL_law_1758 (by decide) ?_
      refine V_wd (w' := LW ad2 σ2 tl t lo (nI k) ro lo2 ma ap (if k = 0 then vp_updL f 0 y.toInt64 else f)) (put_comm (by decide)) ?_
      refine V_lv [2, 3, 4, 5, 6] rfl ?_
      exact K _ _ _ _ _ _ _ _ _ _ _ _ _ hσ2x (by omega) (by omega)
set_option maxHeartbeats 4000000 in
theorem law_23 {p : Program} {l : Launch} {e : Env} {s : State} {m : MethodId} {args : Array Value} {below : List Frame} {meth : Method} {c : Code} {D : va_G} {ba d mc ms cells slots : Nat} {Q : State → Prop} {ad : Adr} {tb : List ExceptionTableEntry} {σ : CS} {tl : Int32} {t : TT} {lo : Nat → Int32} {th ro : Int32} {lo2 ma ap : Nat → Int32} {f : Nat → Int64} (C : Cx p l s m args meth c D ba RL cL_law 9 tb d) (hl : l.stackTraces = false) (hd : 12 ≤ d) {b9 L i0 : Nat} {xs : Nat → Int32} (hX : va_X b9 L xs s s.heap) (hb : b9 < ba) (hi : i0 + 6 ≤ L) (hL : L ≤ 3072) (hσ : cOK σ) (hcs : cells + 60 ≤ mc) (hss : slots + 300 ≤ ms) (K : ∀ ad2 σ2 tl t lo th ro lo2 ma ap f cells2 slots2, cOK σ2 → cells2 ≤ cells + 60 → slots2 ≤ slots + 300 → V p l e s m args below meth c D ba d mc ms Q 9 ad2 (LW ad2 σ2 tl t lo th ro lo2 ma ap f) 2272 [(4, .int (nI i0)), (3, .ref (ad2 [2])), (2, .ref (ad2 [1])), (1, .ref (ad2 [0])), (0, .ref b9)] [] cells2 slots2) : V p l e s m args below meth c D ba d mc ms Q 9 ad (LW ad σ tl t lo th ro lo2 ma ap f) 1761 [(4, .int (nI i0)), (3, .ref (ad [2])), (2, .ref (ad [1])), (1, .ref (ad [0])), (0, .ref b9)] [] cells slots := by
  have hσ1 := hσ.1
  have hσ2 := hσ.2.1
  obtain ⟨k, y, σ2, hk4, hP, hσ2x, hW, hM⟩ := b_certifiedBy (l := l) (D := D) (ba := ba) hl hσ (xs (i0 + 1))
  refine V_aload_n C dL_law_1761 3 rfl ?_
  refine V_aload_n C dL_law_1762 4 rfl ?_
  refine V_iload C dL_law_1763 0 rfl ?_
  refine V_iconst (v := nI 1) C dL_law_1765 (by decide) ?_
  refine V_iaddn C dL_law_1766 ?_
  refine V_sldn C hX hb (i := i0 + 1) (by omega) (by omega) dL_law_1767 ?_
  refine V_aload_n C dL_law_1768 1 rfl ?_
  refine V_callSX C [.ref (ad [0]), .int (xs (i0 + 1)), .ref (ad [2])] dL_law_1769 m_L_certifiedBy k_L_certifiedBy tw_619 rfl rfl (Nat.le_of_ble_eq_true rfl) ⟨by omega, by omega, by omega, by omega⟩ (hW _ _ _ _ _ _ _ (by omega) QW_2f) (kr_WR (fun ad2 hK tl t lo => ?_)) kx_no
  have e0 := hK.2; have e1 := hK.1 1 [] (by decide); have e2 := hK.1 2 [] (by decide)
  refine V_wd (w' := QW 1 ad2 σ th ro lo2 ma ap (PW 0 ad2 σ2 tl t lo (Bf (if k = 0 then vp_updL f 0 y.toInt64 else f)))) (LW_swap hK) ?_
  rw [← e0, ← e1, ← e2]
  refine V_istore C [(5, .int (nI k)), (4, .int (nI i0)), (3, .ref (ad2 [2])), (2, .ref (ad2 [1])), (1, .ref (ad2 [0])), (0, .ref b9)] dL_law_1772 (by decide) rfl ?_
  refine V_aload_n C dL_law_1774 3 rfl ?_
  refine V_aload_n C dL_law_1775 5 rfl ?_
  refine V_iload C dL_law_1776 1 rfl ?_
  refine V_iconst (v := nI 1) C dL_law_1778 (by decide) ?_
  refine V_iaddn C dL_law_1779 ?_
  refine V_sldn C hX hb (i := i0 + 1) (by omega) (by omega) dL_law_1780 ?_
  refine V_callV (r := (RX7, TX7, 17)) C [.int (xs (i0 + 1))] dL_law_1781 m_X7_certifiedBy k_X7_certifiedBy tw_908 rfl rfl rfl QW_o rfl rfl (Nat.le_of_ble_eq_true rfl) ⟨by omega, by omega, by omega, by omega⟩ (hM _ _ _ _ _ _ _ _ (by omega)) (kr_RQ (x := .int y) (fun ro lo2 ma ap => ?_)) kx_no
  refine V_istore C [(6, .int y), (5, .int (nI k)), (4, .int (nI i0)), (3, .ref (ad2 [2])), (2, .ref (ad2 [1])), (1, .ref (ad2 [0])), (0, .ref b9)] dL_law_1784 (by decide) rfl ?_
  refine V_aload_n C dL_law_1786 4 rfl ?_
  refine V_callV (r := (RX7, TX7, 17)) C [] dL_law_1787 m_X7_thrown k_X7_thrown tw_720 rfl rfl rfl QW_o rfl rfl (Nat.le_of_ble_eq_true rfl) ⟨by omega, by omega, by omega, by omega⟩ (m_thrown hl (by omega) hσ2x) (kr_some (x := .int (nI k)) ?_) kx_no
  refine V_iload C dL_law_1790 1 rfl ?_
  refine V_icmpn_eq (tgt := 1797) C dL_law_1792 (by decide) (by omega) (by omega) (fun hb1 => ?_) (fun hb1 => by exfalso; omega)
  refine V_iload C dL_law_1797 1 rfl ?_
  refine V_ifn_ne (tgt := 1814) C dL_law_1799 (by decide) (by omega) (fun hb2 => ?_) (fun hb2 => ?_)
  · skip
    refine V_goto (tgt := 2272) C dL_law_1814 (by decide) ?_
    refine V_wd (w' := LW ad2 σ2 tl t lo (nI k) ro lo2 ma ap (if k = 0 then vp_updL f 0 y.toInt64 else f)) (put_comm (by decide)) ?_
    refine V_lv [2, 3, 4, 5, 6] rfl ?_
    exact K _ _ _ _ _ _ _ _ _ _ _ _ _ hσ2x (by omega) (by omega)
  · skip
    refine V_aload_n C dL_law_1802 3 rfl ?_
    refine V_iconst (v := nI 0) C dL_law_1803 (by decide) ?_
    refine V_laldn (v := y.toInt64) C dL_law_1804 rfl rfl (by decide) (by decide) (by rw [if_pos hb2]; rfl) ?_
    refine V_iload C dL_law_1805 0 rfl ?_
    refine V_i2l C dL_law_1807 rfl ?_
    refine V_lcmp C dL_law_1808 ?_
    refine V_if_eq (tgt := 1814) C dL_law_1809 (by decide) (fun hb3 => ?_) (fun hb3 => by exfalso; exact hb3 (lg_self _))
    refine V_goto (tgt := 2272) C dL_law_1814 (by decide) ?_
    refine V_wd (w' := LW ad2 σ2 tl t lo (nI k) ro lo2 ma ap (if k = 0 then vp_updL f 0 y.toInt64 else f)) (put_comm (by decide)) ?_
    refine V_lv [2, 3, 4, 5, 6] rfl ?_
    exact K _ _ _ _ _ _ _ _ _ _ _ _ _ hσ2x (by omega) (by omega)
set_option maxHeartbeats 4000000 in
theorem law_24 {p : Program} {l : Launch} {e : Env} {s : State} {m : MethodId} {args : Array Value} {below : List Frame} {meth : Method} {c : Code} {D : va_G} {ba d mc ms cells slots : Nat} {Q : State → Prop} {ad : Adr} {tb : List ExceptionTableEntry} {σ : CS} {tl : Int32} {t : TT} {lo : Nat → Int32} {th ro : Int32} {lo2 ma ap : Nat → Int32} {f : Nat → Int64} (C : Cx p l s m args meth c D ba RL cL_law 9 tb d) (hl : l.stackTraces = false) (hd : 12 ≤ d) {b9 L i0 : Nat} {xs : Nat → Int32} (hX : va_X b9 L xs s s.heap) (hb : b9 < ba) (hi : i0 + 6 ≤ L) (hL : L ≤ 3072) (hσ : cOK σ) (hcs : cells + 60 ≤ mc) (hss : slots + 300 ≤ ms) (K : ∀ ad2 σ2 tl t lo th ro lo2 ma ap f cells2 slots2, cOK σ2 → cells2 ≤ cells + 60 → slots2 ≤ slots + 300 → V p l e s m args below meth c D ba d mc ms Q 9 ad2 (LW ad2 σ2 tl t lo th ro lo2 ma ap f) 2272 [(4, .int (nI i0)), (3, .ref (ad2 [2])), (2, .ref (ad2 [1])), (1, .ref (ad2 [0])), (0, .ref b9)] [] cells2 slots2) : V p l e s m args below meth c D ba d mc ms Q 9 ad (LW ad σ tl t lo th ro lo2 ma ap f) 1817 [(4, .int (nI i0)), (3, .ref (ad [2])), (2, .ref (ad [1])), (1, .ref (ad [0])), (0, .ref b9)] [] cells slots := by
  have hσ1 := hσ.1
  have hσ2 := hσ.2.1
  obtain ⟨k, y, σ2, hk4, hP, hσ2x, hW, hM⟩ := b_daysLeft (l := l) (D := D) (ba := ba) hl hσ (xs (i0 + 1))
  refine V_aload_n C dL_law_1817 3 rfl ?_
  refine V_aload_n C dL_law_1818 4 rfl ?_
  refine V_iload C dL_law_1819 0 rfl ?_
  refine V_iconst (v := nI 1) C dL_law_1821 (by decide) ?_
  refine V_iaddn C dL_law_1822 ?_
  refine V_sldn C hX hb (i := i0 + 1) (by omega) (by omega) dL_law_1823 ?_
  refine V_aload_n C dL_law_1824 1 rfl ?_
  refine V_callSX C [.ref (ad [0]), .int (xs (i0 + 1)), .ref (ad [2])] dL_law_1825 m_L_daysLeft k_L_daysLeft tw_626 rfl rfl (Nat.le_of_ble_eq_true rfl) ⟨by omega, by omega, by omega, by omega⟩ (hW _ _ _ _ _ _ _ (by omega) QW_2f) (kr_WR (fun ad2 hK tl t lo => ?_)) kx_no
  have e0 := hK.2; have e1 := hK.1 1 [] (by decide); have e2 := hK.1 2 [] (by decide)
  refine V_wd (w' := QW 1 ad2 σ th ro lo2 ma ap (PW 0 ad2 σ2 tl t lo (Bf (if k = 0 then vp_updL f 0 y.toInt64 else f)))) (LW_swap hK) ?_
  rw [← e0, ← e1, ← e2]
  refine V_istore C [(5, .int (nI k)), (4, .int (nI i0)), (3, .ref (ad2 [2])), (2, .ref (ad2 [1])), (1, .ref (ad2 [0])), (0, .ref b9)] dL_law_1828 (by decide) rfl ?_
  refine V_aload_n C dL_law_1830 3 rfl ?_
  refine V_aload_n C dL_law_1831 5 rfl ?_
  refine V_iload C dL_law_1832 1 rfl ?_
  refine V_iconst (v := nI 1) C dL_law_1834 (by decide) ?_
  refine V_iaddn C dL_law_1835 ?_
  refine V_sldn C hX hb (i := i0 + 1) (by omega) (by omega) dL_law_1836 ?_
  refine V_callV (r := (RX7, TX7, 17)) C [.int (xs (i0 + 1))] dL_law_1837 m_X7_daysLeft k_X7_daysLeft tw_912 rfl rfl rfl QW_o rfl rfl (Nat.le_of_ble_eq_true rfl) ⟨by omega, by omega, by omega, by omega⟩ (hM _ _ _ _ _ _ _ _ (by omega)) (kr_RQ (x := .int y) (fun ro lo2 ma ap => ?_)) kx_no
  refine V_istore C [(6, .int y), (5, .int (nI k)), (4, .int (nI i0)), (3, .ref (ad2 [2])), (2, .ref (ad2 [1])), (1, .ref (ad2 [0])), (0, .ref b9)] dL_law_1840 (by decide) rfl ?_
  refine V_aload_n C dL_law_1842 4 rfl ?_
  refine V_callV (r := (RX7, TX7, 17)) C [] dL_law_1843 m_X7_thrown k_X7_thrown tw_720 rfl rfl rfl QW_o rfl rfl (Nat.le_of_ble_eq_true rfl) ⟨by omega, by omega, by omega, by omega⟩ (m_thrown hl (by omega) hσ2x) (kr_some (x := .int (nI k)) ?_) kx_no
  refine V_iload C dL_law_1846 1 rfl ?_
  refine V_icmpn_eq (tgt := 1853) C dL_law_1848 (by decide) (by omega) (by omega) (fun hb1 => ?_) (fun hb1 => by exfalso; omega)
  refine V_iload C dL_law_1853 1 rfl ?_
  refine V_ifn_ne (tgt := 1870) C dL_law_1855 (by decide) (by omega) (fun hb2 => ?_) (fun hb2 => ?_)
  · skip
    refine V_goto (tgt := 2272) C dL_law_1870 (by decide) ?_
    refine V_wd (w' := LW ad2 σ2 tl t lo (nI k) ro lo2 ma ap (if k = 0 then vp_updL f 0 y.toInt64 else f)) (put_comm (by decide)) ?_
    refine V_lv [2, 3, 4, 5, 6] rfl ?_
    exact K _ _ _ _ _ _ _ _ _ _ _ _ _ hσ2x (by omega) (by omega)
  · skip
    refine V_aload_n C dL_law_1858 3 rfl ?_
    refine V_iconst (v := nI 0) C dL_law_1859 (by decide) ?_
    refine V_laldn (v := y.toInt64) C dL_law_1860 rfl rfl (by decide) (by decide) (by rw [if_pos hb2]; rfl) ?_
    refine V_iload C dL_law_1861 0 rfl ?_
    refine V_i2l C dL_law_1863 rfl ?_
    refine V_lcmp C dL_law_1864 ?_
    refine V_if_eq (tgt := 1870) C dL_law_1865 (by decide) (fun hb3 => ?_) (fun hb3 => by exfalso; exact hb3 (lg_self _))
    refine V_goto (tgt := 2272) C dL_law_1870 (by decide) ?_
    refine V_wd (w' := LW ad2 σ2 tl t lo (nI k) ro lo2 ma ap (if k = 0 then vp_updL f 0 y.toInt64 else f)) (put_comm (by decide)) ?_
    refine V_lv [2, 3, 4, 5, 6] rfl ?_
    exact K _ _ _ _ _ _ _ _ _ _ _ _ _ hσ2x (by omega) (by omega)
set_option maxHeartbeats 4000000 in
theorem law_30 {p : Program} {l : Launch} {e : Env} {s : State} {m : MethodId} {args : Array Value} {below : List Frame} {meth : Method} {c : Code} {D : va_G} {ba d mc ms cells slots : Nat} {Q : State → Prop} {ad : Adr} {tb : List ExceptionTableEntry} {σ : CS} {tl : Int32} {t : TT} {lo : Nat → Int32} {th ro : Int32} {lo2 ma ap : Nat → Int32} {f : Nat → Int64} (C : Cx p l s m args meth c D ba RL cL_law 9 tb d) (hl : l.stackTraces = false) (hd : 12 ≤ d) {b9 L i0 : Nat} {xs : Nat → Int32} (hX : va_X b9 L xs s s.heap) (hb : b9 < ba) (hi : i0 + 6 ≤ L) (hL : L ≤ 3072) (hσ : cOK σ) (hcs : cells + 60 ≤ mc) (hss : slots + 300 ≤ ms) (K : ∀ ad2 σ2 tl t lo th ro lo2 ma ap f cells2 slots2, cOK σ2 → cells2 ≤ cells + 60 → slots2 ≤ slots + 300 → V p l e s m args below meth c D ba d mc ms Q 9 ad2 (LW ad2 σ2 tl t lo th ro lo2 ma ap f) 2272 [(4, .int (nI i0)), (3, .ref (ad2 [2])), (2, .ref (ad2 [1])), (1, .ref (ad2 [0])), (0, .ref b9)] [] cells2 slots2) : V p l e s m args below meth c D ba d mc ms Q 9 ad (LW ad σ tl t lo th ro lo2 ma ap f) 1938 [(4, .int (nI i0)), (3, .ref (ad [2])), (2, .ref (ad [1])), (1, .ref (ad [0])), (0, .ref b9)] [] cells slots := by
  have hσ1 := hσ.1
  have hσ2 := hσ.2.1
  obtain ⟨k, y, σ2, hk4, hP, hσ2x, hW, hM⟩ := b_meetsWithDamping (l := l) (D := D) (ba := ba) hl hσ (xs (i0 + 1)) (xs (i0 + 2)) (xs (i0 + 3))
  refine V_aload_n C dL_law_1938 3 rfl ?_
  refine V_aload_n C dL_law_1939 4 rfl ?_
  refine V_iload C dL_law_1940 0 rfl ?_
  refine V_iconst (v := nI 1) C dL_law_1942 (by decide) ?_
  refine V_iaddn C dL_law_1943 ?_
  refine V_sldn C hX hb (i := i0 + 1) (by omega) (by omega) dL_law_1944 ?_
  refine V_aload_n C dL_law_1945 4 rfl ?_
  refine V_iload C dL_law_1946 0 rfl ?_
  refine V_iconst (v := nI 2) C dL_law_1948 (by decide) ?_
  refine V_iaddn C dL_law_1949 ?_
  refine V_sldn C hX hb (i := i0 + 2) (by omega) (by omega) dL_law_1950 ?_
  refine V_aload_n C dL_law_1951 4 rfl ?_
  refine V_iload C dL_law_1952 0 rfl ?_
  refine V_iconst (v := nI 3) C dL_law_1954 (by decide) ?_
  refine V_iaddn C dL_law_1955 ?_
  refine V_sldn C hX hb (i := i0 + 3) (by omega) (by omega) dL_law_1956 ?_
  refine V_aload_n C dL_law_1957 1 rfl ?_
  refine V_callSX C [.ref (ad [0]), .int (xs (i0 + 1)), .int (xs (i0 + 2)), .int (xs (i0 + 3)), .ref (ad [2])] dL_law_1958 m_L_meetsWithDamping k_L_meetsWithDamping tw_633 rfl rfl (Nat.le_of_ble_eq_true rfl) ⟨by omega, by omega, by omega, by omega⟩ (hW _ _ _ _ _ _ _ (by omega) QW_2f) (kr_WR (fun ad2 hK tl t lo => ?_)) kx_no
  have e0 := hK.2; have e1 := hK.1 1 [] (by decide); have e2 := hK.1 2 [] (by decide)
  refine V_wd (w' := QW 1 ad2 σ th ro lo2 ma ap (PW 0 ad2 σ2 tl t lo (Bf (if k = 0 then vp_updL f 0 y.toInt64 else f)))) (LW_swap hK) ?_
  rw [← e0, ← e1, ← e2]
  refine V_istore C [(5, .int (nI k)), (4, .int (nI i0)), (3, .ref (ad2 [2])), (2, .ref (ad2 [1])), (1, .ref (ad2 [0])), (0, .ref b9)] dL_law_1961 (by decide) rfl ?_
  refine V_aload_n C dL_law_1963 3 rfl ?_
  refine V_aload_n C dL_law_1964 5 rfl ?_
  refine V_iload C dL_law_1965 1 rfl ?_
  refine V_iconst (v := nI 1) C dL_law_1967 (by decide) ?_
  refine V_iaddn C dL_law_1968 ?_
  refine V_sldn C hX hb (i := i0 + 1) (by omega) (by omega) dL_law_1969 ?_
  refine V_aload_n C dL_law_1970 5 rfl ?_
  refine V_iload C dL_law_1971 1 rfl ?_
  refine V_iconst (v := nI 2) C dL_law_1973 (by decide) ?_
  refine V_iaddn C dL_law_1974 ?_
  refine V_sldn C hX hb (i := i0 + 2) (by omega) (by omega) dL_law_1975 ?_
  refine V_aload_n C dL_law_1976 5 rfl ?_
  refine V_iload C dL_law_1977 1 rfl ?_
  refine V_iconst (v := nI 3) C dL_law_1979 (by decide) ?_
  refine V_iaddn C dL_law_1980 ?_
  refine V_sldn C hX hb (i := i0 + 3) (by omega) (by omega) dL_law_1981 ?_
  refine V_callV (r := (RX7, TX7, 17)) C [.int (xs (i0 + 1)), .int (xs (i0 + 2)), .int (xs (i0 + 3))] dL_law_1982 m_X7_meetsWithDamping k_X7_meetsWithDamping tw_936 rfl rfl rfl QW_o rfl rfl (Nat.le_of_ble_eq_true rfl) ⟨by omega, by omega, by omega, by omega⟩ (hM _ _ _ _ _ _ _ _ (by omega)) (kr_RQ (x := .int y) (fun ro lo2 ma ap => ?_)) kx_no
  refine V_istore C [(6, .int y), (5, .int (nI k)), (4, .int (nI i0)), (3, .ref (ad2 [2])), (2, .ref (ad2 [1])), (1, .ref (ad2 [0])), (0, .ref b9)] dL_law_1985 (by decide) rfl ?_
  refine V_aload_n C dL_law_1987 4 rfl ?_
  refine V_callV (r := (RX7, TX7, 17)) C [] dL_law_1988 m_X7_thrown k_X7_thrown tw_720 rfl rfl rfl QW_o rfl rfl (Nat.le_of_ble_eq_true rfl) ⟨by omega, by omega, by omega, by omega⟩ (m_thrown hl (by omega) hσ2x) (kr_some (x := .int (nI k)) ?_) kx_no
  refine V_iload C dL_law_1991 1 rfl ?_
  refine V_icmpn_eq (tgt := 1998) C dL_law_1993 (by decide) (by omega) (by omega) (fun hb1 => ?_) (fun hb1 => by exfalso; omega)
  refine V_iload C dL_law_1998 1 rfl ?_
  refine V_ifn_ne (tgt := 2022) C dL_law_2000 (by decide) (by omega) (fun hb2 => ?_) (fun hb2 => ?_)
  · skip
    refine V_goto (tgt := 2272) C dL_law_2022 (by decide) ?_
    refine V_wd (w' := LW ad2 σ2 tl t lo (nI k) ro lo2 ma ap (if k = 0 then vp_updL f 0 y.toInt64 else f)) (put_comm (by decide)) ?_
    refine V_lv [2, 3, 4, 5, 6] rfl ?_
    exact K _ _ _ _ _ _ _ _ _ _ _ _ _ hσ2x (by omega) (by omega)
  · skip
    refine V_aload_n C dL_law_2003 3 rfl ?_
    refine V_iconst (v := nI 0) C dL_law_2004 (by decide) ?_
    refine V_laldn (v := y.toInt64) C dL_law_2005 rfl rfl (by decide) (by decide) (by rw [if_pos hb2]; rfl) ?_
    refine V_iload C dL_law_2006 0 rfl ?_
    refine V_if_eq (tgt := 2015) C dL_law_2008 (by decide) (fun hb3 => ?_) (fun hb3 => ?_)
    · skip
      refine V_lconst (v := 0) C dL_law_2015 (by decide) ?_
      refine V_lcmp C dL_law_2016 ?_
      refine V_if_eq (tgt := 2022) C dL_law_2017 (by decide) (fun hb4 => ?_) (fun hb4 => by exfalso; exact hb4 (by rw [hb3]; rfl))
      refine V_goto (tgt := 2272) C dL_law_2022 (by decide) ?_
      refine V_wd (w' := LW ad2 σ2 tl t lo (nI k) ro lo2 ma ap (if k = 0 then vp_updL f 0 y.toInt64 else f)) (put_comm (by decide)) ?_
      refine V_lv [2, 3, 4, 5, 6] rfl ?_
      exact K _ _ _ _ _ _ _ _ _ _ _ _ _ hσ2x (by omega) (by omega)
    · skip
      refine V_lconst (v := 1) C dL_law_2011 (by decide) ?_
      refine V_goto (tgt := 2016) C dL_law_2012 (by decide) ?_
      refine V_lcmp C dL_law_2016 ?_
      refine V_if_eq (tgt := 2022) C dL_law_2017 (by decide) (fun hb5 => ?_) (fun hb5 => by exfalso; exact hb5 (by rw [hP.resolve_left hb3]; rfl))
      refine V_goto (tgt := 2272) C dL_law_2022 (by decide) ?_
      refine V_wd (w' := LW ad2 σ2 tl t lo (nI k) ro lo2 ma ap (if k = 0 then vp_updL f 0 y.toInt64 else f)) (put_comm (by decide)) ?_
      refine V_lv [2, 3, 4, 5, 6] rfl ?_
      exact K _ _ _ _ _ _ _ _ _ _ _ _ _ hσ2x (by omega) (by omega)
set_option maxHeartbeats 4000000 in
theorem law_31 {p : Program} {l : Launch} {e : Env} {s : State} {m : MethodId} {args : Array Value} {below : List Frame} {meth : Method} {c : Code} {D : va_G} {ba d mc ms cells slots : Nat} {Q : State → Prop} {ad : Adr} {tb : List ExceptionTableEntry} {σ : CS} {tl : Int32} {t : TT} {lo : Nat → Int32} {th ro : Int32} {lo2 ma ap : Nat → Int32} {f : Nat → Int64} (C : Cx p l s m args meth c D ba RL cL_law 9 tb d) (hl : l.stackTraces = false) (hd : 12 ≤ d) {b9 L i0 : Nat} {xs : Nat → Int32} (hX : va_X b9 L xs s s.heap) (hb : b9 < ba) (hi : i0 + 6 ≤ L) (hL : L ≤ 3072) (hσ : cOK σ) (hcs : cells + 60 ≤ mc) (hss : slots + 300 ≤ ms) (K : ∀ ad2 σ2 tl t lo th ro lo2 ma ap f cells2 slots2, cOK σ2 → cells2 ≤ cells + 60 → slots2 ≤ slots + 300 → V p l e s m args below meth c D ba d mc ms Q 9 ad2 (LW ad2 σ2 tl t lo th ro lo2 ma ap f) 2272 [(4, .int (nI i0)), (3, .ref (ad2 [2])), (2, .ref (ad2 [1])), (1, .ref (ad2 [0])), (0, .ref b9)] [] cells2 slots2) : V p l e s m args below meth c D ba d mc ms Q 9 ad (LW ad σ tl t lo th ro lo2 ma ap f) 2025 [(4, .int (nI i0)), (3, .ref (ad [2])), (2, .ref (ad [1])), (1, .ref (ad [0])), (0, .ref b9)] [] cells slots := by
  have hσ1 := hσ.1
  have hσ2 := hσ.2.1
  obtain ⟨k, y, σ2, hk4, hP, hσ2x, hW, hM⟩ := b_leastDamping (l := l) (D := D) (ba := ba) hl hσ (xs (i0 + 1)) (xs (i0 + 2))
  refine V_aload_n C dL_law_2025 3 rfl ?_
  refine V_aload_n C dL_law_2026 4 rfl ?_
  refine V_iload C dL_law_2027 0 rfl ?_
  refine V_iconst (v := nI 1) C dL_law_2029 (by decide) ?_
  refine V_iaddn C dL_law_2030 ?_
  refine V_sldn C hX hb (i := i0 + 1) (by omega) (by omega) dL_law_2031 ?_
  refine V_aload_n C dL_law_2032 4 rfl ?_
  refine V_iload C dL_law_2033 0 rfl ?_
  refine V_iconst (v := nI 2) C dL_law_2035 (by decide) ?_
  refine V_iaddn C dL_law_2036 ?_
  refine V_sldn C hX hb (i := i0 + 2) (by omega) (by omega) dL_law_2037 ?_
  refine V_aload_n C dL_law_2038 1 rfl ?_
  refine V_callSX C [.ref (ad [0]), .int (xs (i0 + 1)), .int (xs (i0 + 2)), .ref (ad [2])] dL_law_2039 m_L_leastDamping k_L_leastDamping tw_640 rfl rfl (Nat.le_of_ble_eq_true rfl) ⟨by omega, by omega, by omega, by omega⟩ (hW _ _ _ _ _ _ _ (by omega) QW_2f) (kr_WR (fun ad2 hK tl t lo => ?_)) kx_no
  have e0 := hK.2; have e1 := hK.1 1 [] (by decide); have e2 := hK.1 2 [] (by decide)
  refine V_wd (w' := QW 1 ad2 σ th ro lo2 ma ap (PW 0 ad2 σ2 tl t lo (Bf (if k = 0 then vp_updL f 0 y.toInt64 else f)))) (LW_swap hK) ?_
  rw [← e0, ← e1, ← e2]
  refine V_istore C [(5, .int (nI k)), (4, .int (nI i0)), (3, .ref (ad2 [2])), (2, .ref (ad2 [1])), (1, .ref (ad2 [0])), (0, .ref b9)] dL_law_2042 (by decide) rfl ?_
  refine V_aload_n C dL_law_2044 3 rfl ?_
  refine V_aload_n C dL_law_2045 5 rfl ?_
  refine V_iload C dL_law_2046 1 rfl ?_
  refine V_iconst (v := nI 1) C dL_law_2048 (by decide) ?_
  refine V_iaddn C dL_law_2049 ?_
  refine V_sldn C hX hb (i := i0 + 1) (by omega) (by omega) dL_law_2050 ?_
  refine V_aload_n C dL_law_2051 5 rfl ?_
  refine V_iload C dL_law_2052 1 rfl ?_
  refine V_iconst (v := nI 2) C dL_law_2054 (by decide) ?_
  refine V_iaddn C dL_law_2055 ?_
  refine V_sldn C hX hb (i := i0 + 2) (by omega) (by omega) dL_law_2056 ?_
  refine V_callV (r := (RX7, TX7, 17)) C [.int (xs (i0 + 1)), .int (xs (i0 + 2))] dL_law_2057 m_X7_leastDamping k_X7_leastDamping tw_940 rfl rfl rfl QW_o rfl rfl (Nat.le_of_ble_eq_true rfl) ⟨by omega, by omega, by omega, by omega⟩ (hM _ _ _ _ _ _ _ _ (by omega)) (kr_RQ (x := .int y) (fun ro lo2 ma ap => ?_)) kx_no
  refine V_istore C [(6, .int y), (5, .int (nI k)), (4, .int (nI i0)), (3, .ref (ad2 [2])), (2, .ref (ad2 [1])), (1, .ref (ad2 [0])), (0, .ref b9)] dL_law_2060 (by decide) rfl ?_
  refine V_aload_n C dL_law_2062 4 rfl ?_
  refine V_callV (r := (RX7, TX7, 17)) C [] dL_law_2063 m_X7_thrown k_X7_thrown tw_720 rfl rfl rfl QW_o rfl rfl (Nat.le_of_ble_eq_true rfl) ⟨by omega, by omega, by omega, by omega⟩ (m_thrown hl (by omega) hσ2x) (kr_some (x := .int (nI k)) ?_) kx_no
  refine V_iload C dL_law_2066 1 rfl ?_
  refine V_icmpn_eq (tgt := 2073) C dL_law_2068 (by decide) (by omega) (by omega) (fun hb1 => ?_) (fun hb1 => by exfalso; omega)
  refine V_iload C dL_law_2073 1 rfl ?_
  refine V_ifn_ne (tgt := 2090) C dL_law_2075 (by decide) (by omega) (fun hb2 => ?_) (fun hb2 => ?_)
  · skip
    refine V_goto (tgt := 2272) C dL_law_2090 (by decide) ?_
    refine V_wd (w' := LW ad2 σ2 tl t lo (nI k) ro lo2 ma ap (if k = 0 then vp_updL f 0 y.toInt64 else f)) (put_comm (by decide)) ?_
    refine V_lv [2, 3, 4, 5, 6] rfl ?_
    exact K _ _ _ _ _ _ _ _ _ _ _ _ _ hσ2x (by omega) (by omega)
  · skip
    refine V_aload_n C dL_law_2078 3 rfl ?_
    refine V_iconst (v := nI 0) C dL_law_2079 (by decide) ?_
    refine V_laldn (v := y.toInt64) C dL_law_2080 rfl rfl (by decide) (by decide) (by rw [if_pos hb2]; rfl) ?_
    refine V_iload C dL_law_2081 0 rfl ?_
    refine V_i2l C dL_law_2083 rfl ?_
    refine V_lcmp C dL_law_2084 ?_
    refine V_if_eq (tgt := 2090) C dL_law_2085 (by decide) (fun hb3 => ?_) (fun hb3 => by exfalso; exact hb3 (lg_self _))
    refine V_goto (tgt := 2272) C dL_law_2090 (by decide) ?_
    refine V_wd (w' := LW ad2 σ2 tl t lo (nI k) ro lo2 ma ap (if k = 0 then vp_updL f 0 y.toInt64 else f)) (put_comm (by decide)) ?_
    refine V_lv [2, 3, 4, 5, 6] rfl ?_
    exact K _ _ _ _ _ _ _ _ _ _ _ _ _ hσ2x (by omega) (by omega)
set_option maxHeartbeats 4000000 in
theorem law_32 {p : Program} {l : Launch} {e : Env} {s : State} {m : MethodId} {args : Array Value} {below : List Frame} {meth : Method} {c : Code} {D : va_G} {ba d mc ms cells slots : Nat} {Q : State → Prop} {ad : Adr} {tb : List ExceptionTableEntry} {σ : CS} {tl : Int32} {t : TT} {lo : Nat → Int32} {th ro : Int32} {lo2 ma ap : Nat → Int32} {f : Nat → Int64} (C : Cx p l s m args meth c D ba RL cL_law 9 tb d) (hl : l.stackTraces = false) (hd : 12 ≤ d) {b9 L i0 : Nat} {xs : Nat → Int32} (hX : va_X b9 L xs s s.heap) (hb : b9 < ba) (hi : i0 + 6 ≤ L) (hL : L ≤ 3072) (hσ : cOK σ) (hcs : cells + 60 ≤ mc) (hss : slots + 300 ≤ ms) (K : ∀ ad2 σ2 tl t lo th ro lo2 ma ap f cells2 slots2, cOK σ2 → cells2 ≤ cells + 60 → slots2 ≤ slots + 300 → V p l e s m args below meth c D ba d mc ms Q 9 ad2 (LW ad2 σ2 tl t lo th ro lo2 ma ap f) 2272 [(4, .int (nI i0)), (3, .ref (ad2 [2])), (2, .ref (ad2 [1])), (1, .ref (ad2 [0])), (0, .ref b9)] [] cells2 slots2) : V p l e s m args below meth c D ba d mc ms Q 9 ad (LW ad σ tl t lo th ro lo2 ma ap f) 2093 [(4, .int (nI i0)), (3, .ref (ad [2])), (2, .ref (ad [1])), (1, .ref (ad [0])), (0, .ref b9)] [] cells slots := by
  have hσ1 := hσ.1
  have hσ2 := hσ.2.1
  obtain ⟨k, y, σ2, hk4, hP, hσ2x, hW, hM⟩ := b_daysUntilMet (l := l) (D := D) (ba := ba) hl hσ (xs (i0 + 1)) (xs (i0 + 2))
  refine V_aload_n C dL_law_2093 3 rfl ?_
  refine V_aload_n C dL_law_2094 4 rfl ?_
  refine V_iload C dL_law_2095 0 rfl ?_
  refine V_iconst (v := nI 1) C dL_law_2097 (by decide) ?_
  refine V_iaddn C dL_law_2098 ?_
  refine V_sldn C hX hb (i := i0 + 1) (by omega) (by omega) dL_law_2099 ?_
  refine V_aload_n C dL_law_2100 4 rfl ?_
  refine V_iload C dL_law_2101 0 rfl ?_
  refine V_iconst (v := nI 2) C dL_law_2103 (by decide) ?_
  refine V_iaddn C dL_law_2104 ?_
  refine V_sldn C hX hb (i := i0 + 2) (by omega) (by omega) dL_law_2105 ?_
  refine V_aload_n C dL_law_2106 1 rfl ?_
  refine V_callSX C [.ref (ad [0]), .int (xs (i0 + 1)), .int (xs (i0 + 2)), .ref (ad [2])] dL_law_2107 m_L_daysUntilMet k_L_daysUntilMet tw_647 rfl rfl (Nat.le_of_ble_eq_true rfl) ⟨by omega, by omega, by omega, by omega⟩ (hW _ _ _ _ _ _ _ (by omega) QW_2f) (kr_WR (fun ad2 hK tl t lo => ?_)) kx_no
  have e0 := hK.2; have e1 := hK.1 1 [] (by decide); have e2 := hK.1 2 [] (by decide)
  refine V_wd (w' := QW 1 ad2 σ th ro lo2 ma ap (PW 0 ad2 σ2 tl t lo (Bf (if k = 0 then vp_updL f 0 y.toInt64 else f)))) (LW_swap hK) ?_
  rw [← e0, ← e1, ← e2]
  refine V_istore C [(5, .int (nI k)), (4, .int (nI i0)), (3, .ref (ad2 [2])), (2, .ref (ad2 [1])), (1, .ref (ad2 [0])), (0, .ref b9)] dL_law_2110 (by decide) rfl ?_
  refine V_aload_n C dL_law_2112 3 rfl ?_
  refine V_aload_n C dL_law_2113 5 rfl ?_
  refine V_iload C dL_law_2114 1 rfl ?_
  refine V_iconst (v := nI 1) C dL_law_2116 (by decide) ?_
  refine V_iaddn C dL_law_2117 ?_
  refine V_sldn C hX hb (i := i0 + 1) (by omega) (by omega) dL_law_2118 ?_
  refine V_aload_n C dL_law_2119 5 rfl ?_
  refine V_iload C dL_law_2120 1 rfl ?_
  refine V_iconst (v := nI 2) C dL_law_2122 (by decide) ?_
  refine V_iaddn C dL_law_2123 ?_
  refine V_sldn C hX hb (i := i0 + 2) (by omega) (by omega) dL_law_2124 ?_
  refine V_callV (r := (RX7, TX7, 17)) C [.int (xs (i0 + 1)), .int (xs (i0 + 2))] dL_law_2125 m_X7_daysUntilMet k_X7_daysUntilMet tw_948 rfl rfl rfl QW_o rfl rfl (Nat.le_of_ble_eq_true rfl) ⟨by omega, by omega, by omega, by omega⟩ (hM _ _ _ _ _ _ _ _ (by omega)) (kr_RQ (x := .int y) (fun ro lo2 ma ap => ?_)) kx_no
  refine V_istore C [(6, .int y), (5, .int (nI k)), (4, .int (nI i0)), (3, .ref (ad2 [2])), (2, .ref (ad2 [1])), (1, .ref (ad2 [0])), (0, .ref b9)] dL_law_2128 (by decide) rfl ?_
  refine V_aload_n C dL_law_2130 4 rfl ?_
  refine V_callV (r := (RX7, TX7, 17)) C [] dL_law_2131 m_X7_thrown k_X7_thrown tw_720 rfl rfl rfl QW_o rfl rfl (Nat.le_of_ble_eq_true rfl) ⟨by omega, by omega, by omega, by omega⟩ (m_thrown hl (by omega) hσ2x) (kr_some (x := .int (nI k)) ?_) kx_no
  refine V_iload C dL_law_2134 1 rfl ?_
  refine V_icmpn_eq (tgt := 2141) C dL_law_2136 (by decide) (by omega) (by omega) (fun hb1 => ?_) (fun hb1 => by exfalso; omega)
  refine V_iload C dL_law_2141 1 rfl ?_
  refine V_ifn_ne (tgt := 2158) C dL_law_2143 (by decide) (by omega) (fun hb2 => ?_) (fun hb2 => ?_)
  · skip
    refine V_goto (tgt := 2272) C dL_law_2158 (by decide) ?_
    refine V_wd (w' := LW ad2 σ2 tl t lo (nI k) ro lo2 ma ap (if k = 0 then vp_updL f 0 y.toInt64 else f)) (put_comm (by decide)) ?_
    refine V_lv [2, 3, 4, 5, 6] rfl ?_
    exact K _ _ _ _ _ _ _ _ _ _ _ _ _ hσ2x (by omega) (by omega)
  · skip
    refine V_aload_n C dL_law_2146 3 rfl ?_
    refine V_iconst (v := nI 0) C dL_law_2147 (by decide) ?_
    refine V_laldn (v := y.toInt64) C dL_law_2148 rfl rfl (by decide) (by decide) (by rw [if_pos hb2]; rfl) ?_
    refine V_iload C dL_law_2149 0 rfl ?_
    refine V_i2l C dL_law_2151 rfl ?_
    refine V_lcmp C dL_law_2152 ?_
    refine V_if_eq (tgt := 2158) C dL_law_2153 (by decide) (fun hb3 => ?_) (fun hb3 => by exfalso; exact hb3 (lg_self _))
    refine V_goto (tgt := 2272) C dL_law_2158 (by decide) ?_
    refine V_wd (w' := LW ad2 σ2 tl t lo (nI k) ro lo2 ma ap (if k = 0 then vp_updL f 0 y.toInt64 else f)) (put_comm (by decide)) ?_
    refine V_lv [2, 3, 4, 5, 6] rfl ?_
    exact K _ _ _ _ _ _ _ _ _ _ _ _ _ hσ2x (by omega) (by omega)
set_option maxHeartbeats 4000000 in
theorem law_33 {p : Program} {l : Launch} {e : Env} {s : State} {m : MethodId} {args : Array Value} {below : List Frame} {meth : Method} {c : Code} {D : va_G} {ba d mc ms cells slots : Nat} {Q : State → Prop} {ad : Adr} {tb : List ExceptionTableEntry} {σ : CS} {tl : Int32} {t : TT} {lo : Nat → Int32} {th ro : Int32} {lo2 ma ap : Nat → Int32} {f : Nat → Int64} (C : Cx p l s m args meth c D ba RL cL_law 9 tb d) (hl : l.stackTraces = false) (hd : 12 ≤ d) {b9 L i0 : Nat} {xs : Nat → Int32} (hX : va_X b9 L xs s s.heap) (hb : b9 < ba) (hi : i0 + 6 ≤ L) (hL : L ≤ 3072) (hσ : cOK σ) (hcs : cells + 60 ≤ mc) (hss : slots + 300 ≤ ms) (K : ∀ ad2 σ2 tl t lo th ro lo2 ma ap f cells2 slots2, cOK σ2 → cells2 ≤ cells + 60 → slots2 ≤ slots + 300 → V p l e s m args below meth c D ba d mc ms Q 9 ad2 (LW ad2 σ2 tl t lo th ro lo2 ma ap f) 2272 [(4, .int (nI i0)), (3, .ref (ad2 [2])), (2, .ref (ad2 [1])), (1, .ref (ad2 [0])), (0, .ref b9)] [] cells2 slots2) : V p l e s m args below meth c D ba d mc ms Q 9 ad (LW ad σ tl t lo th ro lo2 ma ap f) 2161 [(4, .int (nI i0)), (3, .ref (ad [2])), (2, .ref (ad [1])), (1, .ref (ad [0])), (0, .ref b9)] [] cells slots := by
  have hσ1 := hσ.1
  have hσ2 := hσ.2.1
  obtain ⟨k, y, σ2, hk4, hP, hσ2x, hW, hM⟩ := b_easiestHall (l := l) (D := D) (ba := ba) hl hσ (xs (i0 + 1))
  refine V_aload_n C dL_law_2161 3 rfl ?_
  refine V_aload_n C dL_law_2162 4 rfl ?_
  refine V_iload C dL_law_2163 0 rfl ?_
  refine V_iconst (v := nI 1) C dL_law_2165 (by decide) ?_
  refine V_iaddn C dL_law_2166 ?_
  refine V_sldn C hX hb (i := i0 + 1) (by omega) (by omega) dL_law_2167 ?_
  refine V_aload_n C dL_law_2168 1 rfl ?_
  refine V_callSX C [.ref (ad [0]), .int (xs (i0 + 1)), .ref (ad [2])] dL_law_2169 m_L_easiestHall k_L_easiestHall tw_655 rfl rfl (Nat.le_of_ble_eq_true rfl) ⟨by omega, by omega, by omega, by omega⟩ (hW _ _ _ _ _ _ _ (by omega) QW_2f) (kr_WR (fun ad2 hK tl t lo => ?_)) kx_no
  have e0 := hK.2; have e1 := hK.1 1 [] (by decide); have e2 := hK.1 2 [] (by decide)
  refine V_wd (w' := QW 1 ad2 σ th ro lo2 ma ap (PW 0 ad2 σ2 tl t lo (Bf (if k = 0 then vp_updL f 0 y.toInt64 else f)))) (LW_swap hK) ?_
  rw [← e0, ← e1, ← e2]
  refine V_istore C [(5, .int (nI k)), (4, .int (nI i0)), (3, .ref (ad2 [2])), (2, .ref (ad2 [1])), (1, .ref (ad2 [0])), (0, .ref b9)] dL_law_2172 (by decide) rfl ?_
  refine V_aload_n C dL_law_2174 3 rfl ?_
  refine V_aload_n C dL_law_2175 5 rfl ?_
  refine V_iload C dL_law_2176 1 rfl ?_
  refine V_iconst (v := nI 1) C dL_law_2178 (by decide) ?_
  refine V_iaddn C dL_law_2179 ?_
  refine V_sldn C hX hb (i := i0 + 1) (by omega) (by omega) dL_law_2180 ?_
  refine V_callV (r := (RX7, TX7, 17)) C [.int (xs (i0 + 1))] dL_law_2181 m_X7_easiestHall k_X7_easiestHall tw_952 rfl rfl rfl QW_o rfl rfl (Nat.le_of_ble_eq_true rfl) ⟨by omega, by omega, by omega, by omega⟩ (hM _ _ _ _ _ _ _ _ (by omega)) (kr_RQ (x := .int y) (fun ro lo2 ma ap => ?_)) kx_no
  refine V_istore C [(6, .int y), (5, .int (nI k)), (4, .int (nI i0)), (3, .ref (ad2 [2])), (2, .ref (ad2 [1])), (1, .ref (ad2 [0])), (0, .ref b9)] dL_law_2184 (by decide) rfl ?_
  refine V_aload_n C dL_law_2186 4 rfl ?_
  refine V_callV (r := (RX7, TX7, 17)) C [] dL_law_2187 m_X7_thrown k_X7_thrown tw_720 rfl rfl rfl QW_o rfl rfl (Nat.le_of_ble_eq_true rfl) ⟨by omega, by omega, by omega, by omega⟩ (m_thrown hl (by omega) hσ2x) (kr_some (x := .int (nI k)) ?_) kx_no
  refine V_iload C dL_law_2190 1 rfl ?_
  refine V_icmpn_eq (tgt := 2197) C dL_law_2192 (by decide) (by omega) (by omega) (fun hb1 => ?_) (fun hb1 => by exfalso; omega)
  refine V_iload C dL_law_2197 1 rfl ?_
  refine V_ifn_ne (tgt := 2214) C dL_law_2199 (by decide) (by omega) (fun hb2 => ?_) (fun hb2 => ?_)
  · skip
    refine V_goto (tgt := 2272) C dL_law_2214 (by decide) ?_
    refine V_wd (w' := LW ad2 σ2 tl t lo (nI k) ro lo2 ma ap (if k = 0 then vp_updL f 0 y.toInt64 else f)) (put_comm (by decide)) ?_
    refine V_lv [2, 3, 4, 5, 6] rfl ?_
    exact K _ _ _ _ _ _ _ _ _ _ _ _ _ hσ2x (by omega) (by omega)
  · skip
    refine V_aload_n C dL_law_2202 3 rfl ?_
    refine V_iconst (v := nI 0) C dL_law_2203 (by decide) ?_
    refine V_laldn (v := y.toInt64) C dL_law_2204 rfl rfl (by decide) (by decide) (by rw [if_pos hb2]; rfl) ?_
    refine V_iload C dL_law_2205 0 rfl ?_
    refine V_i2l C dL_law_2207 rfl ?_
    refine V_lcmp C dL_law_2208 ?_
    refine V_if_eq (tgt := 2214) C dL_law_2209 (by decide) (fun hb3 => ?_) (fun hb3 => by exfalso; exact hb3 (lg_self _))
    refine V_goto (tgt := 2272) C dL_law_2214 (by decide) ?_
    refine V_wd (w' := LW ad2 σ2 tl t lo (nI k) ro lo2 ma ap (if k = 0 then vp_updL f 0 y.toInt64 else f)) (put_comm (by decide)) ?_
    refine V_lv [2, 3, 4, 5, 6] rfl ?_
    exact K _ _ _ _ _ _ _ _ _ _ _ _ _ hσ2x (by omega) (by omega)
set_option maxHeartbeats 4000000 in
theorem law_25 {p : Program} {l : Launch} {e : Env} {s : State} {m : MethodId} {args : Array Value} {below : List Frame} {meth : Method} {c : Code} {D : va_G} {ba d mc ms cells slots : Nat} {Q : State → Prop} {ad : Adr} {tb : List ExceptionTableEntry} {σ : CS} {tl : Int32} {t : TT} {lo : Nat → Int32} {th ro : Int32} {lo2 ma ap : Nat → Int32} {f : Nat → Int64} (C : Cx p l s m args meth c D ba RL cL_law 9 tb d) (hl : l.stackTraces = false) (hd : 12 ≤ d) {b9 L i0 : Nat} {xs : Nat → Int32} (hX : va_X b9 L xs s s.heap) (hb : b9 < ba) (hi : i0 + 6 ≤ L) (hL : L ≤ 3072) (hσ : cOK σ) (hcs : cells + 60 ≤ mc) (hss : slots + 300 ≤ ms) (K : ∀ ad2 σ2 tl t lo th ro lo2 ma ap f cells2 slots2, cOK σ2 → cells2 ≤ cells + 60 → slots2 ≤ slots + 300 → V p l e s m args below meth c D ba d mc ms Q 9 ad2 (LW ad2 σ2 tl t lo th ro lo2 ma ap f) 2272 [(4, .int (nI i0)), (3, .ref (ad2 [2])), (2, .ref (ad2 [1])), (1, .ref (ad2 [0])), (0, .ref b9)] [] cells2 slots2) : V p l e s m args below meth c D ba d mc ms Q 9 ad (LW ad σ tl t lo th ro lo2 ma ap f) 1873 [(4, .int (nI i0)), (3, .ref (ad [2])), (2, .ref (ad [1])), (1, .ref (ad [0])), (0, .ref b9)] [] cells slots := by
  have hσ1 := hσ.1
  have hσ2 := hσ.2.1
  refine V_aload_n C dL_law_1873 3 rfl ?_
  refine V_callV (r := (RX6, TX6, 8)) C [] dL_law_1874 m_X6_halls k_X6_halls tw_95 rfl rfl rfl PW_b rfl rfl (Nat.le_of_ble_eq_true rfl) ⟨by omega, by omega, by omega, by omega⟩ (p_halls hl (by omega) hσ) (kr_RP (x := .int (nI (cN σ))) (fun tl t lo => ?_)) kx_no
  refine V_wd (w' := QW 1 ad σ th ro lo2 ma ap (PW 0 ad σ tl t lo (Bf f))) LW_swap0 ?_
  refine V_aload_n C dL_law_1877 2 rfl ?_
  refine V_callV (r := (RX7, TX7, 17)) C [] dL_law_1878 m_X7_halls k_X7_halls tw_916 rfl rfl rfl QW_o rfl rfl (Nat.le_of_ble_eq_true rfl) ⟨by omega, by omega, by omega, by omega⟩ (m_halls hl (by omega) hσ) (kr_RQ (x := .int (nI (cN σ))) (fun ro lo2 ma ap => ?_)) kx_no
  refine V_icmpn_eq (tgt := 2272) C dL_law_1881 (by decide) (by omega) (by omega) (fun hb1 => ?_) (fun hb1 => by exfalso; omega)
  refine V_wd (w' := LW ad σ tl t lo (nI 0) ro lo2 ma ap f) (put_comm (by decide)) ?_
  refine V_lv [0, 1, 2, 3, 4] rfl ?_
  exact K _ _ _ _ _ _ _ _ _ _ _ _ _ hσ (by omega) (by omega)
set_option maxHeartbeats 4000000 in
theorem law_26 {p : Program} {l : Launch} {e : Env} {s : State} {m : MethodId} {args : Array Value} {below : List Frame} {meth : Method} {c : Code} {D : va_G} {ba d mc ms cells slots : Nat} {Q : State → Prop} {ad : Adr} {tb : List ExceptionTableEntry} {σ : CS} {tl : Int32} {t : TT} {lo : Nat → Int32} {th ro : Int32} {lo2 ma ap : Nat → Int32} {f : Nat → Int64} (C : Cx p l s m args meth c D ba RL cL_law 9 tb d) (hl : l.stackTraces = false) (hd : 12 ≤ d) {b9 L i0 : Nat} {xs : Nat → Int32} (hX : va_X b9 L xs s s.heap) (hb : b9 < ba) (hi : i0 + 6 ≤ L) (hL : L ≤ 3072) (hσ : cOK σ) (hcs : cells + 60 ≤ mc) (hss : slots + 300 ≤ ms) (K : ∀ ad2 σ2 tl t lo th ro lo2 ma ap f cells2 slots2, cOK σ2 → cells2 ≤ cells + 60 → slots2 ≤ slots + 300 → V p l e s m args below meth c D ba d mc ms Q 9 ad2 (LW ad2 σ2 tl t lo th ro lo2 ma ap f) 2272 [(4, .int (nI i0)), (3, .ref (ad2 [2])), (2, .ref (ad2 [1])), (1, .ref (ad2 [0])), (0, .ref b9)] [] cells2 slots2) : V p l e s m args below meth c D ba d mc ms Q 9 ad (LW ad σ tl t lo th ro lo2 ma ap f) 1886 [(4, .int (nI i0)), (3, .ref (ad [2])), (2, .ref (ad [1])), (1, .ref (ad [0])), (0, .ref b9)] [] cells slots := by
  have hσ1 := hσ.1
  have hσ2 := hσ.2.1
  refine V_aload_n C dL_law_1886 3 rfl ?_
  refine V_callV (r := (RX6, TX6, 8)) C [] dL_law_1887 m_X6_standards k_X6_standards tw_99 rfl rfl rfl PW_b rfl rfl (Nat.le_of_ble_eq_true rfl) ⟨by omega, by omega, by omega, by omega⟩ (p_standards hl (by omega) hσ) (kr_RP (x := .int (nI (cK σ))) (fun tl t lo => ?_)) kx_no
  refine V_wd (w' := QW 1 ad σ th ro lo2 ma ap (PW 0 ad σ tl t lo (Bf f))) LW_swap0 ?_
  refine V_aload_n C dL_law_1890 2 rfl ?_
  refine V_callV (r := (RX7, TX7, 17)) C [] dL_law_1891 m_X7_standards k_X7_standards tw_920 rfl rfl rfl QW_o rfl rfl (Nat.le_of_ble_eq_true rfl) ⟨by omega, by omega, by omega, by omega⟩ (m_standards hl (by omega) hσ) (kr_RQ (x := .int (nI (cK σ))) (fun ro lo2 ma ap => ?_)) kx_no
  refine V_icmpn_eq (tgt := 2272) C dL_law_1894 (by decide) (by omega) (by omega) (fun hb1 => ?_) (fun hb1 => by exfalso; omega)
  refine V_wd (w' := LW ad σ tl t lo (nI 0) ro lo2 ma ap f) (put_comm (by decide)) ?_
  refine V_lv [0, 1, 2, 3, 4] rfl ?_
  exact K _ _ _ _ _ _ _ _ _ _ _ _ _ hσ (by omega) (by omega)
set_option maxHeartbeats 4000000 in
theorem law_27 {p : Program} {l : Launch} {e : Env} {s : State} {m : MethodId} {args : Array Value} {below : List Frame} {meth : Method} {c : Code} {D : va_G} {ba d mc ms cells slots : Nat} {Q : State → Prop} {ad : Adr} {tb : List ExceptionTableEntry} {σ : CS} {tl : Int32} {t : TT} {lo : Nat → Int32} {th ro : Int32} {lo2 ma ap : Nat → Int32} {f : Nat → Int64} (C : Cx p l s m args meth c D ba RL cL_law 9 tb d) (hl : l.stackTraces = false) (hd : 12 ≤ d) {b9 L i0 : Nat} {xs : Nat → Int32} (hX : va_X b9 L xs s s.heap) (hb : b9 < ba) (hi : i0 + 6 ≤ L) (hL : L ≤ 3072) (hσ : cOK σ) (hcs : cells + 60 ≤ mc) (hss : slots + 300 ≤ ms) (K : ∀ ad2 σ2 tl t lo th ro lo2 ma ap f cells2 slots2, cOK σ2 → cells2 ≤ cells + 60 → slots2 ≤ slots + 300 → V p l e s m args below meth c D ba d mc ms Q 9 ad2 (LW ad2 σ2 tl t lo th ro lo2 ma ap f) 2272 [(4, .int (nI i0)), (3, .ref (ad2 [2])), (2, .ref (ad2 [1])), (1, .ref (ad2 [0])), (0, .ref b9)] [] cells2 slots2) : V p l e s m args below meth c D ba d mc ms Q 9 ad (LW ad σ tl t lo th ro lo2 ma ap f) 1899 [(4, .int (nI i0)), (3, .ref (ad [2])), (2, .ref (ad [1])), (1, .ref (ad [0])), (0, .ref b9)] [] cells slots := by
  have hσ1 := hσ.1
  have hσ2 := hσ.2.1
  refine V_aload_n C dL_law_1899 3 rfl ?_
  refine V_callV (r := (RX6, TX6, 8)) C [] dL_law_1900 m_X6_day k_X6_day tw_103 rfl rfl rfl PW_b rfl rfl (Nat.le_of_ble_eq_true rfl) ⟨by omega, by omega, by omega, by omega⟩ (p_day hl (by omega) hσ) (kr_RP (x := .int (cDay σ)) (fun tl t lo => ?_)) kx_no
  refine V_wd (w' := QW 1 ad σ th ro lo2 ma ap (PW 0 ad σ tl t lo (Bf f))) LW_swap0 ?_
  refine V_aload_n C dL_law_1903 2 rfl ?_
  refine V_callV (r := (RX7, TX7, 17)) C [] dL_law_1904 m_X7_day k_X7_day tw_924 rfl rfl rfl QW_o rfl rfl (Nat.le_of_ble_eq_true rfl) ⟨by omega, by omega, by omega, by omega⟩ (m_day hl (by omega) hσ) (kr_RQ (x := .int (cDay σ)) (fun ro lo2 ma ap => ?_)) kx_no
  refine V_icmp_eq (tgt := 2272) C dL_law_1907 (by decide) (fun hb1 => ?_) (fun hb1 => by exfalso; exact hb1 rfl)
  refine V_wd (w' := LW ad σ tl t lo (nI 0) ro lo2 ma ap f) (put_comm (by decide)) ?_
  refine V_lv [0, 1, 2, 3, 4] rfl ?_
  exact K _ _ _ _ _ _ _ _ _ _ _ _ _ hσ (by omega) (by omega)
set_option maxHeartbeats 4000000 in
theorem law_28 {p : Program} {l : Launch} {e : Env} {s : State} {m : MethodId} {args : Array Value} {below : List Frame} {meth : Method} {c : Code} {D : va_G} {ba d mc ms cells slots : Nat} {Q : State → Prop} {ad : Adr} {tb : List ExceptionTableEntry} {σ : CS} {tl : Int32} {t : TT} {lo : Nat → Int32} {th ro : Int32} {lo2 ma ap : Nat → Int32} {f : Nat → Int64} (C : Cx p l s m args meth c D ba RL cL_law 9 tb d) (hl : l.stackTraces = false) (hd : 12 ≤ d) {b9 L i0 : Nat} {xs : Nat → Int32} (hX : va_X b9 L xs s s.heap) (hb : b9 < ba) (hi : i0 + 6 ≤ L) (hL : L ≤ 3072) (hσ : cOK σ) (hcs : cells + 60 ≤ mc) (hss : slots + 300 ≤ ms) (K : ∀ ad2 σ2 tl t lo th ro lo2 ma ap f cells2 slots2, cOK σ2 → cells2 ≤ cells + 60 → slots2 ≤ slots + 300 → V p l e s m args below meth c D ba d mc ms Q 9 ad2 (LW ad2 σ2 tl t lo th ro lo2 ma ap f) 2272 [(4, .int (nI i0)), (3, .ref (ad2 [2])), (2, .ref (ad2 [1])), (1, .ref (ad2 [0])), (0, .ref b9)] [] cells2 slots2) : V p l e s m args below meth c D ba d mc ms Q 9 ad (LW ad σ tl t lo th ro lo2 ma ap f) 1912 [(4, .int (nI i0)), (3, .ref (ad [2])), (2, .ref (ad [1])), (1, .ref (ad [0])), (0, .ref b9)] [] cells slots := by
  have hσ1 := hσ.1
  have hσ2 := hσ.2.1
  refine V_aload_n C dL_law_1912 3 rfl ?_
  refine V_callV (r := (RX6, TX6, 8)) C [] dL_law_1913 m_X6_inspections k_X6_inspections tw_107 rfl rfl rfl PW_b rfl rfl (Nat.le_of_ble_eq_true rfl) ⟨by omega, by omega, by omega, by omega⟩ (p_inspections hl (by omega) hσ) (kr_RP (x := .int (cIns σ)) (fun tl t lo => ?_)) kx_no
  refine V_wd (w' := QW 1 ad σ th ro lo2 ma ap (PW 0 ad σ tl t lo (Bf f))) LW_swap0 ?_
  refine V_aload_n C dL_law_1916 2 rfl ?_
  refine V_callV (r := (RX7, TX7, 17)) C [] dL_law_1917 m_X7_inspections k_X7_inspections tw_928 rfl rfl rfl QW_o rfl rfl (Nat.le_of_ble_eq_true rfl) ⟨by omega, by omega, by omega, by omega⟩ (m_inspections hl (by omega) hσ) (kr_RQ (x := .int (cIns σ)) (fun ro lo2 ma ap => ?_)) kx_no
  refine V_icmp_eq (tgt := 2272) C dL_law_1920 (by decide) (fun hb1 => ?_) (fun hb1 => by exfalso; exact hb1 rfl)
  refine V_wd (w' := LW ad σ tl t lo (nI 0) ro lo2 ma ap f) (put_comm (by decide)) ?_
  refine V_lv [0, 1, 2, 3, 4] rfl ?_
  exact K _ _ _ _ _ _ _ _ _ _ _ _ _ hσ (by omega) (by omega)
set_option maxHeartbeats 4000000 in
theorem law_29 {p : Program} {l : Launch} {e : Env} {s : State} {m : MethodId} {args : Array Value} {below : List Frame} {meth : Method} {c : Code} {D : va_G} {ba d mc ms cells slots : Nat} {Q : State → Prop} {ad : Adr} {tb : List ExceptionTableEntry} {σ : CS} {tl : Int32} {t : TT} {lo : Nat → Int32} {th ro : Int32} {lo2 ma ap : Nat → Int32} {f : Nat → Int64} (C : Cx p l s m args meth c D ba RL cL_law 9 tb d) (hl : l.stackTraces = false) (hd : 12 ≤ d) {b9 L i0 : Nat} {xs : Nat → Int32} (hX : va_X b9 L xs s s.heap) (hb : b9 < ba) (hi : i0 + 6 ≤ L) (hL : L ≤ 3072) (hσ : cOK σ) (hcs : cells + 60 ≤ mc) (hss : slots + 300 ≤ ms) (K : ∀ ad2 σ2 tl t lo th ro lo2 ma ap f cells2 slots2, cOK σ2 → cells2 ≤ cells + 60 → slots2 ≤ slots + 300 → V p l e s m args below meth c D ba d mc ms Q 9 ad2 (LW ad2 σ2 tl t lo th ro lo2 ma ap f) 2272 [(4, .int (nI i0)), (3, .ref (ad2 [2])), (2, .ref (ad2 [1])), (1, .ref (ad2 [0])), (0, .ref b9)] [] cells2 slots2) : V p l e s m args below meth c D ba d mc ms Q 9 ad (LW ad σ tl t lo th ro lo2 ma ap f) 1925 [(4, .int (nI i0)), (3, .ref (ad [2])), (2, .ref (ad [1])), (1, .ref (ad [0])), (0, .ref b9)] [] cells slots := by
  have hσ1 := hσ.1
  have hσ2 := hσ.2.1
  have hce := certs_le (cH σ) (cN σ)
  refine V_aload_n C dL_law_1925 3 rfl ?_
  refine V_callV (r := (RX6, TX6, 8)) C [] dL_law_1926 m_X6_certifiedHalls k_X6_certifiedHalls tw_111 rfl rfl rfl PW_b rfl rfl (Nat.le_of_ble_eq_true rfl) ⟨by omega, by omega, by omega, by omega⟩ (p_certifiedHalls hl (by omega) hσ) (kr_RP (x := .int (nI (certs (cH σ) (cN σ)))) (fun tl t lo => ?_)) kx_no
  refine V_wd (w' := QW 1 ad σ th ro lo2 ma ap (PW 0 ad σ tl t lo (Bf f))) LW_swap0 ?_
  refine V_aload_n C dL_law_1929 2 rfl ?_
  refine V_callV (r := (RX7, TX7, 17)) C [] dL_law_1930 m_X7_certifiedHalls k_X7_certifiedHalls tw_932 rfl rfl rfl QW_o rfl rfl (Nat.le_of_ble_eq_true rfl) ⟨by omega, by omega, by omega, by omega⟩ (m_certifiedHalls hl (by omega) hσ) (kr_RQ (x := .int (nI (certs (cH σ) (cN σ)))) (fun ro lo2 ma ap => ?_)) kx_no
  refine V_icmpn_eq (tgt := 2272) C dL_law_1933 (by decide) (by omega) (by omega) (fun hb1 => ?_) (fun hb1 => by exfalso; omega)
  refine V_wd (w' := LW ad σ tl t lo (nI 0) ro lo2 ma ap f) (put_comm (by decide)) ?_
  refine V_lv [0, 1, 2, 3, 4] rfl ?_
  exact K _ _ _ _ _ _ _ _ _ _ _ _ _ hσ (by omega) (by omega)
set_option maxHeartbeats 4000000 in
theorem law_35 {p : Program} {l : Launch} {e : Env} {s : State} {m : MethodId} {args : Array Value} {below : List Frame} {meth : Method} {c : Code} {D : va_G} {ba d mc ms cells slots : Nat} {Q : State → Prop} {ad : Adr} {tb : List ExceptionTableEntry} {σ : CS} {tl : Int32} {t : TT} {lo : Nat → Int32} {th ro : Int32} {lo2 ma ap : Nat → Int32} {f : Nat → Int64} (C : Cx p l s m args meth c D ba RL cL_law 9 tb d) (hl : l.stackTraces = false) (hd : 12 ≤ d) {b9 L i0 : Nat} {xs : Nat → Int32} (hX : va_X b9 L xs s s.heap) (hb : b9 < ba) (hi : i0 + 6 ≤ L) (hL : L ≤ 3072) (hσ : cOK σ) (hcs : cells + 60 ≤ mc) (hss : slots + 300 ≤ ms) (K : ∀ ad2 σ2 tl t lo th ro lo2 ma ap f cells2 slots2, cOK σ2 → cells2 ≤ cells + 60 → slots2 ≤ slots + 300 → V p l e s m args below meth c D ba d mc ms Q 9 ad2 (LW ad2 σ2 tl t lo th ro lo2 ma ap f) 2272 [(4, .int (nI i0)), (3, .ref (ad2 [2])), (2, .ref (ad2 [1])), (1, .ref (ad2 [0])), (0, .ref b9)] [] cells2 slots2) : V p l e s m args below meth c D ba d mc ms Q 9 ad (LW ad σ tl t lo th ro lo2 ma ap f) 2258 [(4, .int (nI i0)), (3, .ref (ad [2])), (2, .ref (ad [1])), (1, .ref (ad [0])), (0, .ref b9)] [] cells slots := by
  have hσ1 := hσ.1
  have hσ2 := hσ.2.1
  refine V_aload_n C dL_law_2258 3 rfl ?_
  refine V_callV (r := (RX6, TX6, 8)) C [] dL_law_2259 m_X6_digest k_X6_digest tw_128 rfl rfl rfl PW_b rfl rfl (Nat.le_of_ble_eq_true rfl) ⟨by omega, by omega, by omega, by omega⟩ (p_digest hl (by omega) hσ) (kr_RP (x := .long (mxC σ)) (fun tl t lo => ?_)) kx_no
  refine V_wd (w' := QW 1 ad σ th ro lo2 ma ap (PW 0 ad σ tl t lo (Bf f))) LW_swap0 ?_
  refine V_aload_n C dL_law_2262 2 rfl ?_
  refine V_callV (r := (RX7, TX7, 17)) C [] dL_law_2263 m_X7_digest k_X7_digest tw_960 rfl rfl rfl QW_o rfl rfl (Nat.le_of_ble_eq_true rfl) ⟨by omega, by omega, by omega, by omega⟩ (m_digest hl (by omega) hσ rfl) (kr_RQ (x := .long (mxC σ)) (fun ro lo2 ma ap => ?_)) kx_no
  refine V_lcmp C dL_law_2266 ?_
  refine V_if_eq (tgt := 2272) C dL_law_2267 (by decide) (fun hb1 => ?_) (fun hb1 => by exfalso; exact hb1 (lg_self _))
  refine V_wd (w' := LW ad σ tl t lo (nI 0) ro lo2 ma ap f) (put_comm (by decide)) ?_
  refine V_lv [0, 1, 2, 3, 4] rfl ?_
  exact K _ _ _ _ _ _ _ _ _ _ _ _ _ hσ (by omega) (by omega)
set_option maxHeartbeats 4000000 in
theorem law_34_mean {p : Program} {l : Launch} {e : Env} {s : State} {m : MethodId} {args : Array Value} {below : List Frame} {meth : Method} {c : Code} {D : va_G} {ba d mc ms cells slots : Nat} {Q : State → Prop} {ad : Adr} {tb : List ExceptionTableEntry} {σ : CS} {tl : Int32} {t : TT} {lo : Nat → Int32} {th ro : Int32} {lo2 ma ap : Nat → Int32} {f : Nat → Int64} (C : Cx p l s m args meth c D ba RL cL_law 9 tb d) (hl : l.stackTraces = false) (hd : 12 ≤ d) {b9 L i0 : Nat} {xs : Nat → Int32} (hX : va_X b9 L xs s s.heap) (hb : b9 < ba) (hi : i0 + 6 ≤ L) (hL : L ≤ 3072) (hσ : cOK σ) (hcs : cells + 60 ≤ mc) (hss : slots + 300 ≤ ms) (h1 : 0 < cN σ)  (K : ∀ ad2 σ2 tl t lo th ro lo2 ma ap f cells2 slots2, cOK σ2 → cells2 ≤ cells + 60 → slots2 ≤ slots + 300 → V p l e s m args below meth c D ba d mc ms Q 9 ad2 (LW ad2 σ2 tl t lo th ro lo2 ma ap f) 2272 [(4, .int (nI i0)), (3, .ref (ad2 [2])), (2, .ref (ad2 [1])), (1, .ref (ad2 [0])), (0, .ref b9)] [] cells2 slots2) : V p l e s m args below meth c D ba d mc ms Q 9 ad (LW ad σ tl t lo th ro lo2 ma ap f) 2217 [(4, .int (nI i0)), (3, .ref (ad [2])), (2, .ref (ad [1])), (1, .ref (ad [0])), (0, .ref b9)] [] cells slots := by
  have hσ1 := hσ.1
  have hσ2 := hσ.2.1
  refine V_aload_n C dL_law_2217 3 rfl ?_
  refine V_callV (r := (RX6, TX6, 8)) C [] dL_law_2218 m_X6_meanDamping k_X6_meanDamping tw_124 rfl rfl rfl PW_b rfl rfl (Nat.le_of_ble_eq_true rfl) ⟨by omega, by omega, by omega, by omega⟩ (p_mean hl (by omega) hσ h1) (kr_RP (x := .double (FP.ddiv (FP.i2d (nI (sumD (cH σ) (cN σ)))) (FP.i2d (nI (cN σ))))) (fun tl t lo => ?_)) kx_no
  refine V_wd (w' := QW 1 ad σ th ro lo2 ma ap (PW 0 ad σ tl t lo (Bf f))) LW_swap0 ?_
  refine V_dstore C [(5, .double (FP.ddiv (FP.i2d (nI (sumD (cH σ) (cN σ)))) (FP.i2d (nI (cN σ))))), (4, .int (nI i0)), (3, .ref (ad [2])), (2, .ref (ad [1])), (1, .ref (ad [0])), (0, .ref b9)] dL_law_2221 (by decide) rfl ?_
  refine V_aload_n C dL_law_2223 3 rfl ?_
  refine V_callV (r := (RX7, TX7, 17)) C [] dL_law_2224 m_X7_meanDamping k_X7_meanDamping tw_956 rfl rfl rfl QW_o rfl rfl (Nat.le_of_ble_eq_true rfl) ⟨by omega, by omega, by omega, by omega⟩ (m_mean hl (by omega) hσ h1) (kr_RQ (x := .double (FP.ddiv (FP.i2d (nI (sumD (cH σ) (cN σ)))) (FP.i2d (nI (cN σ))))) (fun ro lo2 ma ap => ?_)) kx_no
  refine V_dstore C [(7, .double (FP.ddiv (FP.i2d (nI (sumD (cH σ) (cN σ)))) (FP.i2d (nI (cN σ))))), (5, .double (FP.ddiv (FP.i2d (nI (sumD (cH σ) (cN σ)))) (FP.i2d (nI (cN σ))))), (4, .int (nI i0)), (3, .ref (ad [2])), (2, .ref (ad [1])), (1, .ref (ad [0])), (0, .ref b9)] dL_law_2227 (by decide) rfl ?_
  refine V_dload C dL_law_2229 1 rfl ?_
  refine V_dload C dL_law_2231 0 rfl ?_
  refine V_dcmp C dL_law_2233 ?_
  refine V_if_eq (tgt := 2255) C dL_law_2234 (by decide) (fun hb1 => ?_) (fun hb1 => ?_)
  · skip
    refine V_goto (tgt := 2272) C dL_law_2255 (by decide) ?_
    refine V_wd (w' := LW ad σ tl t lo (nI 0) ro lo2 ma ap f) (put_comm (by decide)) ?_
    refine V_lv [2, 3, 4, 5, 6] rfl ?_
    exact K _ _ _ _ _ _ _ _ _ _ _ _ _ hσ (by omega) (by omega)
  · skip
    refine V_dload C dL_law_2237 1 rfl ?_
    refine V_dload C dL_law_2239 1 rfl ?_
    refine V_dcmp C dL_law_2241 ?_
    refine V_if_eq (tgt := 2253) C dL_law_2242 (by decide) (fun hb2 => by exfalso; exact hb1 hb2) (fun hb2 => ?_)
    refine V_dload C dL_law_2245 0 rfl ?_
    refine V_dload C dL_law_2247 0 rfl ?_
    refine V_dcmp C dL_law_2249 ?_
    refine V_if_ne (tgt := 2255) C dL_law_2250 (by decide) (fun hb3 => ?_) (fun hb3 => by exfalso; exact hb1 hb3)
    refine V_goto (tgt := 2272) C dL_law_2255 (by decide) ?_
    refine V_wd (w' := LW ad σ tl t lo (nI 0) ro lo2 ma ap f) (put_comm (by decide)) ?_
    refine V_lv [2, 3, 4, 5, 6] rfl ?_
    exact K _ _ _ _ _ _ _ _ _ _ _ _ _ hσ (by omega) (by omega)
set_option maxHeartbeats 4000000 in
theorem law_34_mean0 {p : Program} {l : Launch} {e : Env} {s : State} {m : MethodId} {args : Array Value} {below : List Frame} {meth : Method} {c : Code} {D : va_G} {ba d mc ms cells slots : Nat} {Q : State → Prop} {ad : Adr} {tb : List ExceptionTableEntry} {σ : CS} {tl : Int32} {t : TT} {lo : Nat → Int32} {th ro : Int32} {lo2 ma ap : Nat → Int32} {f : Nat → Int64} (C : Cx p l s m args meth c D ba RL cL_law 9 tb d) (hl : l.stackTraces = false) (hd : 12 ≤ d) {b9 L i0 : Nat} {xs : Nat → Int32} (hX : va_X b9 L xs s s.heap) (hb : b9 < ba) (hi : i0 + 6 ≤ L) (hL : L ≤ 3072) (hσ : cOK σ) (hcs : cells + 60 ≤ mc) (hss : slots + 300 ≤ ms) (h1 : cN σ = 0)  (K : ∀ ad2 σ2 tl t lo th ro lo2 ma ap f cells2 slots2, cOK σ2 → cells2 ≤ cells + 60 → slots2 ≤ slots + 300 → V p l e s m args below meth c D ba d mc ms Q 9 ad2 (LW ad2 σ2 tl t lo th ro lo2 ma ap f) 2272 [(4, .int (nI i0)), (3, .ref (ad2 [2])), (2, .ref (ad2 [1])), (1, .ref (ad2 [0])), (0, .ref b9)] [] cells2 slots2) : V p l e s m args below meth c D ba d mc ms Q 9 ad (LW ad σ tl t lo th ro lo2 ma ap f) 2217 [(4, .int (nI i0)), (3, .ref (ad [2])), (2, .ref (ad [1])), (1, .ref (ad [0])), (0, .ref b9)] [] cells slots := by
  have hσ1 := hσ.1
  have hσ2 := hσ.2.1
  refine V_aload_n C dL_law_2217 3 rfl ?_
  refine V_callV (r := (RX6, TX6, 8)) C [] dL_law_2218 m_X6_meanDamping k_X6_meanDamping tw_124 rfl rfl rfl PW_b rfl rfl (Nat.le_of_ble_eq_true rfl) ⟨by omega, by omega, by omega, by omega⟩ (p_mean0 hl (by omega) hσ h1) (kr_RP (x := .double FP.dconst0) (fun tl t lo => ?_)) kx_no
  refine V_wd (w' := QW 1 ad σ th ro lo2 ma ap (PW 0 ad σ tl t lo (Bf f))) LW_swap0 ?_
  refine V_dstore C [(5, .double FP.dconst0), (4, .int (nI i0)), (3, .ref (ad [2])), (2, .ref (ad [1])), (1, .ref (ad [0])), (0, .ref b9)] dL_law_2221 (by decide) rfl ?_
  refine V_aload_n C dL_law_2223 3 rfl ?_
  refine V_callV (r := (RX7, TX7, 17)) C [] dL_law_2224 m_X7_meanDamping k_X7_meanDamping tw_956 rfl rfl rfl QW_o rfl rfl (Nat.le_of_ble_eq_true rfl) ⟨by omega, by omega, by omega, by omega⟩ (m_mean0 hl (by omega) hσ h1) (kr_RQ (x := .double FP.dconst0) (fun ro lo2 ma ap => ?_)) kx_no
  refine V_dstore C [(7, .double FP.dconst0), (5, .double FP.dconst0), (4, .int (nI i0)), (3, .ref (ad [2])), (2, .ref (ad [1])), (1, .ref (ad [0])), (0, .ref b9)] dL_law_2227 (by decide) rfl ?_
  refine V_dload C dL_law_2229 1 rfl ?_
  refine V_dload C dL_law_2231 0 rfl ?_
  refine V_dcmp C dL_law_2233 ?_
  refine V_if_eq (tgt := 2255) C dL_law_2234 (by decide) (fun hb1 => ?_) (fun hb1 => ?_)
  · skip
    refine V_goto (tgt := 2272) C dL_law_2255 (by decide) ?_
    refine V_wd (w' := LW ad σ tl t lo (nI 0) ro lo2 ma ap f) (put_comm (by decide)) ?_
    refine V_lv [2, 3, 4, 5, 6] rfl ?_
    exact K _ _ _ _ _ _ _ _ _ _ _ _ _ hσ (by omega) (by omega)
  · skip
    refine V_dload C dL_law_2237 1 rfl ?_
    refine V_dload C dL_law_2239 1 rfl ?_
    refine V_dcmp C dL_law_2241 ?_
    refine V_if_eq (tgt := 2253) C dL_law_2242 (by decide) (fun hb2 => by exfalso; exact hb1 hb2) (fun hb2 => ?_)
    refine V_dload C dL_law_2245 0 rfl ?_
    refine V_dload C dL_law_2247 0 rfl ?_
    refine V_dcmp C dL_law_2249 ?_
    refine V_if_ne (tgt := 2255) C dL_law_2250 (by decide) (fun hb3 => ?_) (fun hb3 => by exfalso; exact hb1 hb3)
    refine V_goto (tgt := 2272) C dL_law_2255 (by decide) ?_
    refine V_wd (w' := LW ad σ tl t lo (nI 0) ro lo2 ma ap f) (put_comm (by decide)) ?_
    refine V_lv [2, 3, 4, 5, 6] rfl ?_
    exact K _ _ _ _ _ _ _ _ _ _ _ _ _ hσ (by omega) (by omega)
theorem law_34 {p : Program} {l : Launch} {e : Env} {s : State} {m : MethodId} {args : Array Value} {below : List Frame} {meth : Method} {c : Code} {D : va_G} {ba d mc ms cells slots : Nat} {Q : State → Prop} {ad : Adr} {tb : List ExceptionTableEntry} {σ : CS} {tl : Int32} {t : TT} {lo : Nat → Int32} {th ro : Int32} {lo2 ma ap : Nat → Int32} {f : Nat → Int64} (C : Cx p l s m args meth c D ba RL cL_law 9 tb d) (hl : l.stackTraces = false) (hd : 12 ≤ d) {b9 L i0 : Nat} {xs : Nat → Int32} (hX : va_X b9 L xs s s.heap) (hb : b9 < ba) (hi : i0 + 6 ≤ L) (hL : L ≤ 3072) (hσ : cOK σ) (hcs : cells + 60 ≤ mc) (hss : slots + 300 ≤ ms) (K : ∀ ad2 σ2 tl t lo th ro lo2 ma ap f cells2 slots2, cOK σ2 → cells2 ≤ cells + 60 → slots2 ≤ slots + 300 → V p l e s m args below meth c D ba d mc ms Q 9 ad2 (LW ad2 σ2 tl t lo th ro lo2 ma ap f) 2272 [(4, .int (nI i0)), (3, .ref (ad2 [2])), (2, .ref (ad2 [1])), (1, .ref (ad2 [0])), (0, .ref b9)] [] cells2 slots2) : V p l e s m args below meth c D ba d mc ms Q 9 ad (LW ad σ tl t lo th ro lo2 ma ap f) 2217 [(4, .int (nI i0)), (3, .ref (ad [2])), (2, .ref (ad [1])), (1, .ref (ad [0])), (0, .ref b9)] [] cells slots := by
  rcases Nat.eq_zero_or_pos (cN σ) with h1 | h1
  · exact law_34_mean0 C hl hd hX hb hi hL hσ hcs hss h1 K
  · exact law_34_mean C hl hd hX hb hi hL hσ hcs hss h1 K
