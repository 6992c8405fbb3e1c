
theorem put_wset_o {i j : Nat} {f o : Wd} {r : Lab} {e : Ent} (h : j ≠ i) : wset (put i f o) (j :: r) e = put i f (wset o (j :: r) e) := by
  funext L
  cases L with
  | nil => simp [wset, put]
  | cons k q =>
    by_cases hk : k = i
    · subst hk; simp [wset, put, Ne.symm h]
    · simp [wset, put, hk]
section K30
variable {p : Program} {l : Launch} {e : Env} {s : State} {m : MethodId} {args : Array Value} {below : List Frame} {meth : Method} {c : Code} {D : va_G} {ba d mc ms nL pc cells slots : Nat} {ad : Adr} {Q : State → Prop} {lv : List (Nat × Value)} {rest : List Value} {σ : CS} {tl : Int32} {t : TT} {lo : Nat → Int32}
abbrev LX (ad : Adr) (σ : CS) (tl : Int32) (t : TT) (lo : Nat → Int32) (f : Nat → Int32) : Wd := PW 0 ad σ tl t lo (wset (SW 2 ad σ nW) [2, 9] (eI 4 f))
theorem LW_ad9 {q : Nat} : LW (aset ad [2, 9] q) σ σ tl t lo = LW ad σ σ tl t lo := by
  show PW 0 (aset ad [2, 9] q) σ tl t lo (SW 2 (aset ad [2, 9] q) σ nW) = _
  rw [SW_ad9, PW_ad (ad2 := aset ad [2, 9] q) (fun r => aset_n (by simp))]
theorem LX_of {q : Nat} {f : Nat → Int32} : wset (SW 2 ad σ (PW 0 ad σ tl t lo nW)) [2, 9] (eI 4 f) = LX (aset ad [2, 9] q) σ tl t lo f := by
  show wset (LSW ad σ σ tl t lo) [2, 9] (eI 4 f) = PW 0 (aset ad [2, 9] q) σ tl t lo (wset (SW 2 (aset ad [2, 9] q) σ nW) [2, 9] (eI 4 f))
  refine Eq.trans ?_ (put_wset_o (i := 0) (j := 2) (by decide))
  show wset (LSW ad σ σ tl t lo) [2, 9] (eI 4 f) = wset (LW (aset ad [2, 9] q) σ σ tl t lo) [2, 9] (eI 4 f)
  rw [LW_ad9, LW_LS]
theorem V_back9W {q : Nat} {f : Nat → Int32} (k : V p l e s m args below meth c D ba d mc ms Q nL ad (LW ad σ σ tl t lo) pc lv rest cells slots) : V p l e s m args below meth c D ba d mc ms Q nL (aset ad [2, 9] q) (LX (aset ad [2, 9] q) σ tl t lo f) pc lv rest cells slots := by
  have h9 : LW ad σ σ tl t lo [2, 9] = none := (put_n (by decide)).trans SW_9
  refine V_wd (w' := wset (LW ad σ σ tl t lo) [2, 9] (eI 4 f)) ?_ ?_
  · rw [← LX_of (q := q)]
    show wset (LSW ad σ σ tl t lo) [2, 9] (eI 4 f) = _
    rw [← LW_LS]
  refine V_del [2, 9] ?_
  rw [wdel_wset h9]
  refine V_adr (ad' := ad) (fun L hL => ?_) k
  by_cases h : L = [2, 9]
  · exact absurd (by rw [h]; exact h9) hL
  · exact (aset_n h).symm
end K30
theorem fold_co {x y : Int32} : ∀ (E : List (Nat × Nat)) {a b : TT}, (a.1 = b.1 ∧ a.2.2.1 = b.2.2.1 ∧ a.2.2.2 = b.2.2.2) → ((List.foldl (hearT x) a E).1 = (List.foldl (hearT y) b E).1 ∧ (List.foldl (hearT x) a E).2.2.1 = (List.foldl (hearT y) b E).2.2.1 ∧ (List.foldl (hearT x) a E).2.2.2 = (List.foldl (hearT y) b E).2.2.2)
  | [], _, _, h => h
  | q :: E, a, b, h => fold_co E (by
    refine ⟨?_, ?_, ?_⟩
    · show a.1 + nI 1 = b.1 + nI 1; rw [h.1]
    · show tFi (nI q.1) a.2.2.1 = tFi (nI q.1) b.2.2.1; rw [h.2.1]
    · show tLa (nI q.1) a.2.2.2 = tLa (nI q.1) b.2.2.2; rw [h.2.2])
theorem upF_zero {α : Type} {g : Nat → α → α} {x : α} : upF g 0 x = x := rfl
theorem rowsT_q {li : Int32} {dm du cl u : Nat} {su : Nat → Nat × Nat} {t : TT} : rowsT li dm du cl su u t = List.foldl (hearT li) t (rowE ((su u).1 - du / 5) dm (su u).2 500 1 cl) := rfl
theorem rows_co {x y : Int32} {dm du cl : Nat} {su : Nat → Nat × Nat} : ∀ m, ((upF (rowsT x dm du cl su) m t00).1 = (upF (rowsT y dm du cl su) m t00).1 ∧ (upF (rowsT x dm du cl su) m t00).2.2.1 = (upF (rowsT y dm du cl su) m t00).2.2.1 ∧ (upF (rowsT x dm du cl su) m t00).2.2.2 = (upF (rowsT y dm du cl su) m t00).2.2.2) := by
  intro m
  induction m with
  | zero =>
    rw [upF_zero, upF_zero]
    exact ⟨rfl, rfl, rfl⟩
  | succ m ih =>
    rw [upF_succ, upF_succ, rowsT_q, rowsT_q]
    generalize rowE ((su m).1 - du / 5) dm (su m).2 500 1 cl = E
    exact fold_co E ih
theorem tly_co {h : HallS} (x y : Int32) {cl : Nat} : (tly h x cl).1 = (tly h y cl).1 ∧ (tly h x cl).2.2.1 = (tly h y cl).2.2.1 ∧ (tly h x cl).2.2.2 = (tly h y cl).2.2.2 := rows_co _
abbrev RLW (ad : Adr) (σ : CS) (v : Value) : Option Value → Adr → Wd → Prop := fun v' ad' w' => v' = some v ∧ ad' = ad ∧ ∃ tl t lo, w' = LW ad σ σ tl t lo
set_option maxRecDepth 20000 in
set_option maxHeartbeats 4000000 in
theorem lp_sm1 {p : Program} {l : Launch} {e : Env} {s : State} {m : MethodId} {args : Array Value} {below : List Frame} {meth : Method} {c : Code} {D : va_G} {ba d mc ms : Nat} {ad : Adr} {Q : State → Prop} (C : Cx p l s m args meth c D ba RX8 cX8_isSame 8 [] d) (hl : l.stackTraces = false) (hr : meth.sig.returnType = (some .boolean)) (hd : 10 ≤ d) {σ : CS} (hσ : cOK σ) (hI0 : cI σ) {k : Nat} (hk : k < cN σ) {sm : Nat} {C1 S1 : Nat} (hC1 : C1 ≤ mc) (hS1 : S1 ≤ ms)  : ∀ (n : Nat) (u : Nat) (tl : Int32) (t : TT) (lo : Nat → Int32) (cz sz : Nat), u + n = hSc (cH σ k) → cz + 16 * n ≤ C1 → sz + 128 * n ≤ S1 → (∀ tl t lo, V p l e s m args below meth c D ba d mc ms Q 8 ad (LW ad σ σ tl t lo) 252 [(5, .ref (ad [2, 3, k])), (4, .int (nI k)), (3, .int (nI sm)), (0, .ref (ad [2])), (1, .ref (ad [0])), (2, .int (nI 1000))] [] C1 S1) → V p l e s m args below meth c D ba d mc ms Q 8 ad (LW ad σ σ tl t lo) 189 [(6, .int (nI u)), (5, .ref (ad [2, 3, k])), (4, .int (nI k)), (3, .int (nI sm)), (0, .ref (ad [2])), (1, .ref (ad [0])), (2, .int (nI 1000))] [] cz sz := by
  intro n
  induction n with
  | zero =>
    intro u tl t lo cz sz hun hcz hsz K
    have hσ1 := hσ.1
    have hσ2 := hσ.2.1
    have hu := hσ.2.2.1 k hk
    have hu1 := hu.1
    have hu2 := hu.2.1
    have hu3 := hu.2.2.1
    have hu4 := hu.2.2.2.1
    refine V_iload C dX8_isSame_189 0 rfl ?_
    refine V_aload C dX8_isSame_191 1 rfl ?_
    refine V_get (ci := 6) (k := 0) C dX8_isSame_193 RX7 RX7 TX7 5 fw_X7 rfl (by decide) tw_530 rfl rfl ((put_n (by decide)).trans (SW_h hk)) rfl ?_
    refine V_alen (v := nI (hSc (cH σ k))) C dX8_isSame_196 rfl ((put_n (by decide)).trans (SW_s hk)) rfl ?_
    refine V_icmpn_ge (tgt := 252) C dX8_isSame_197 (by decide) (by omega) (by omega) (fun hb1 => ?_) (fun hb1 => by exfalso; omega)
    refine V_lv [1, 2, 3, 4, 5, 6] rfl ?_
    exact V_cs (by omega) (by omega) (K tl t lo)
  | succ n ih =>
    intro u tl t lo cz sz hun hcz hsz K
    have hσ1 := hσ.1
    have hσ2 := hσ.2.1
    have hu := hσ.2.2.1 k hk
    have hu1 := hu.1
    have hu2 := hu.2.1
    have hu3 := hu.2.2.1
    have hu4 := hu.2.2.2.1
    rw [show 16 * (n + 1) = 16 * n + 16 from Nat.mul_succ 16 n] at hcz
    rw [show 128 * (n + 1) = 128 * n + 128 from Nat.mul_succ 128 n] at hsz
    refine V_iload C dX8_isSame_189 0 rfl ?_
    refine V_aload C dX8_isSame_191 1 rfl ?_
    refine V_get (ci := 6) (k := 0) C dX8_isSame_193 RX7 RX7 TX7 5 fw_X7 rfl (by decide) tw_530 rfl rfl ((put_n (by decide)).trans (SW_h hk)) rfl ?_
    refine V_alen (v := nI (hSc (cH σ k))) C dX8_isSame_196 rfl ((put_n (by decide)).trans (SW_s hk)) rfl ?_
    refine V_icmpn_ge (tgt := 252) C dX8_isSame_197 (by decide) (by omega) (by omega) (fun hb1 => by exfalso; omega) (fun hb1 => ?_)
    have hu0 : u < hSc (cH σ k) := by omega
    have hs9 := hu.2.2.2.2 u hu0
    refine V_aload_n C dX8_isSame_200 5 rfl ?_
    refine V_iload C dX8_isSame_201 2 rfl ?_
    refine V_iload C dX8_isSame_203 0 rfl ?_
    refine V_callV (r := (RX6, TX6, 8)) C [.int (nI k), .int (nI u)] dX8_isSame_205 m_X6_distanceOf k_X6_distanceOf tw_482 rfl rfl rfl PW_b rfl rfl (Nat.le_of_ble_eq_true rfl) ⟨by omega, by omega, by omega, by omega⟩ (p_distanceOf (i := 0) hl (by omega) hσ hk hu0) (kr_RP (x := .int (nI ((hSu (cH σ k) u).2))) (fun tl t lo => ?_)) kx_no
    refine V_aload C dX8_isSame_208 1 rfl ?_
    refine V_get (ci := 6) (k := 0) C dX8_isSame_210 RX7 RX7 TX7 5 fw_X7 rfl (by decide) tw_530 rfl rfl ((put_n (by decide)).trans (SW_h hk)) rfl ?_
    refine V_iload C dX8_isSame_213 0 rfl ?_
    refine V_aaldA (v := .ref (ad [2, 6, k, u])) C dX8_isSame_215 rfl ((put_n (by decide)).trans (SW_s hk)) (by omega) (by omega) (by rw [adN_lt hu0]; rfl) ?_
    refine V_iconst (v := nI 0) C dX8_isSame_216 (by decide) ?_
    refine V_ialdn (v := (nI ((hSu (cH σ k) u).2))) C dX8_isSame_217 rfl ((put_n (by decide)).trans (SW_u hk hu0)) (by decide) (by decide) rfl ?_
    refine V_icmpn_ne (tgt := 244) C dX8_isSame_218 (by decide) (by omega) (by omega) (fun hb2 => by exfalso; omega) (fun hb2 => ?_)
    refine V_aload_n C dX8_isSame_221 5 rfl ?_
    refine V_iload C dX8_isSame_222 2 rfl ?_
    refine V_iload C dX8_isSame_224 0 rfl ?_
    refine V_callV (r := (RX6, TX6, 8)) C [.int (nI k), .int (nI u)] dX8_isSame_226 m_X6_hardnessOf k_X6_hardnessOf tw_483 rfl rfl rfl PW_b rfl rfl (Nat.le_of_ble_eq_true rfl) ⟨by omega, by omega, by omega, by omega⟩ (p_hardnessOf (i := 0) hl (by omega) hσ hk hu0) (kr_RP (x := .int (nI ((hSu (cH σ k) u).1 - hDu (cH σ k) / 5))) (fun tl t lo => ?_)) kx_no
    refine V_aload C dX8_isSame_229 1 rfl ?_
    refine V_iload C dX8_isSame_231 0 rfl ?_
    refine V_aload C dX8_isSame_233 1 rfl ?_
    refine V_get (ci := 6) (k := 2) C dX8_isSame_235 RX7 RX7 TX7 5 fw_X7 rfl (by decide) tw_533 rfl rfl ((put_n (by decide)).trans (SW_h hk)) rfl ?_
    refine V_callV (r := (RX7, TX7, 5)) C [.int (nI u), .int (nI (hDu (cH σ k)))] dX8_isSame_238 m_X7_hard k_X7_hard tw_484 rfl rfl rfl ((put_n (by decide)).trans (SW_h hk)) rfl rfl (Nat.le_of_ble_eq_true rfl) ⟨by omega, by omega, by omega, by omega⟩ (s_hard hl (by omega) (LU := [2, 6, k, u]) ((put_n (by decide)).trans (SW_h hk)) ((put_n (by decide)).trans (SW_s hk)) hu0 hu1 (by rw [adN_lt hu0]) ((put_n (by decide)).trans (SW_u hk hu0)) rfl hs9.1 hu3) (kr_some (x := .int (nI ((hSu (cH σ k) u).1 - hDu (cH σ k) / 5))) ?_) kx_no
    refine V_icmpn_eq (tgt := 246) C dX8_isSame_241 (by decide) (by omega) (by omega) (fun hb3 => ?_) (fun hb3 => by exfalso; omega)
    refine V_iincn C [(6, .int (nI (u + 1))), (5, .ref (ad [2, 3, k])), (4, .int (nI k)), (3, .int (nI sm)), (0, .ref (ad [2])), (1, .ref (ad [0])), (2, .int (nI 1000))] dX8_isSame_246 0 rfl (by decide) rfl ?_
    refine V_goto (tgt := 189) C dX8_isSame_249 (by decide) ?_
    refine V_lv [0, 1, 2, 3, 4, 5, 6] rfl ?_
    exact ih (u + 1) tl t lo _ _ (by omega) (by omega) (by omega) K
set_option maxRecDepth 20000 in
set_option maxHeartbeats 4000000 in
theorem lp_sm2 {p : Program} {l : Launch} {e : Env} {s : State} {m : MethodId} {args : Array Value} {below : List Frame} {meth : Method} {c : Code} {D : va_G} {ba d mc ms : Nat} {ad : Adr} {Q : State → Prop} (C : Cx p l s m args meth c D ba RX8 cX8_isSame 8 [] d) (hl : l.stackTraces = false) (hr : meth.sig.returnType = (some .boolean)) (hd : 10 ≤ d) {σ : CS} (hσ : cOK σ) (hI0 : cI σ) {k : Nat} (hk : k < cN σ) {sm : Nat} {C1 S1 : Nat} (hC1 : C1 ≤ mc) (hS1 : S1 ≤ ms)  : ∀ (n : Nat) (u : Nat) (tl : Int32) (t : TT) (lo : Nat → Int32) (cz sz : Nat), u + n = cK σ → cz + 9 * n ≤ C1 → sz + 68 * n ≤ S1 → (∀ tl t lo, V p l e s m args below meth c D ba d mc ms Q 8 ad (LW ad σ σ tl t lo) 392 [(5, .ref (ad [2, 3, k])), (4, .int (nI k)), (3, .int (nI sm)), (0, .ref (ad [2])), (1, .ref (ad [0])), (2, .int (nI 1000))] [] C1 S1) → V p l e s m args below meth c D ba d mc ms Q 8 ad (LW ad σ σ tl t lo) 341 [(7, .int (nI u)), (5, .ref (ad [2, 3, k])), (4, .int (nI k)), (3, .int (nI sm)), (0, .ref (ad [2])), (1, .ref (ad [0])), (2, .int (nI 1000))] [] cz sz := by
  intro n
  induction n with
  | zero =>
    intro u tl t lo cz sz hun hcz hsz K
    have hσ1 := hσ.1
    have hσ2 := hσ.2.1
    have hu := hσ.2.2.1 k hk
    have hu1 := hu.1
    have hu2 := hu.2.1
    have hu3 := hu.2.2.1
    have hu4 := hu.2.2.2.1
    refine V_iload C dX8_isSame_341 0 rfl ?_
    refine V_aload_n C dX8_isSame_343 4 rfl ?_
    refine V_get (ci := 7) (k := 3) C dX8_isSame_344 RX8 RX8 TX8 4 fw_X8 rfl (by decide) tw_649 rfl rfl ((put_n (by decide)).trans SW_b) rfl ?_
    refine V_alen (v := nI (cK σ)) C dX8_isSame_347 rfl ((put_n (by decide)).trans SW_rr) rfl ?_
    refine V_icmpn_ge (tgt := 392) C dX8_isSame_348 (by decide) (by omega) (by omega) (fun hb1 => ?_) (fun hb1 => by exfalso; omega)
    refine V_lv [1, 2, 3, 4, 5, 6] rfl ?_
    exact V_cs (by omega) (by omega) (K tl t lo)
  | succ n ih =>
    intro u tl t lo cz sz hun hcz hsz K
    have hσ1 := hσ.1
    have hσ2 := hσ.2.1
    have hu := hσ.2.2.1 k hk
    have hu1 := hu.1
    have hu2 := hu.2.1
    have hu3 := hu.2.2.1
    have hu4 := hu.2.2.2.1
    rw [show 9 * (n + 1) = 9 * n + 9 from Nat.mul_succ 9 n] at hcz
    rw [show 68 * (n + 1) = 68 * n + 68 from Nat.mul_succ 68 n] at hsz
    refine V_iload C dX8_isSame_341 0 rfl ?_
    refine V_aload_n C dX8_isSame_343 4 rfl ?_
    refine V_get (ci := 7) (k := 3) C dX8_isSame_344 RX8 RX8 TX8 4 fw_X8 rfl (by decide) tw_649 rfl rfl ((put_n (by decide)).trans SW_b) rfl ?_
    refine V_alen (v := nI (cK σ)) C dX8_isSame_347 rfl ((put_n (by decide)).trans SW_rr) rfl ?_
    refine V_icmpn_ge (tgt := 392) C dX8_isSame_348 (by decide) (by omega) (by omega) (fun hb1 => by exfalso; omega) (fun hb1 => ?_)
    have hu0 : u < cK σ := by omega
    have hml := metW_le (cH σ k) (cS σ u) (hDm (cH σ k)) (hDu (cH σ k))
    refine V_aload_n C dX8_isSame_351 5 rfl ?_
    refine V_iload C dX8_isSame_352 2 rfl ?_
    refine V_iload C dX8_isSame_354 0 rfl ?_
    refine V_callV (r := (RX6, TX6, 8)) C [.int (nI k), .int (nI u)] dX8_isSame_356 m_X6_meets k_X6_meets tw_501 rfl rfl rfl PW_b rfl rfl (Nat.le_of_ble_eq_true rfl) ⟨by omega, by omega, by omega, by omega⟩ (p_meets (i := 0) hl (by omega) hσ hk hu0) (kr_RP (x := .int (nI (metW (cH σ k) (cS σ u) (hDm (cH σ k)) (hDu (cH σ k))))) (fun tl t lo => ?_)) kx_no
    refine V_aload C dX8_isSame_359 1 rfl ?_
    refine V_aload_n C dX8_isSame_361 4 rfl ?_
    refine V_get (ci := 7) (k := 3) C dX8_isSame_362 RX8 RX8 TX8 4 fw_X8 rfl (by decide) tw_649 rfl rfl ((put_n (by decide)).trans SW_b) rfl ?_
    refine V_iload C dX8_isSame_365 0 rfl ?_
    refine V_aaldA (v := .ref (ad [2, 4, u])) C dX8_isSame_367 rfl ((put_n (by decide)).trans SW_rr) (by omega) (by omega) (by rw [adN_lt hu0]; rfl) ?_
    refine V_aload C dX8_isSame_368 1 rfl ?_
    refine V_get (ci := 6) (k := 1) C dX8_isSame_370 RX7 RX7 TX7 5 fw_X7 rfl (by decide) tw_532 rfl rfl ((put_n (by decide)).trans (SW_h hk)) rfl ?_
    refine V_aload C dX8_isSame_373 1 rfl ?_
    refine V_get (ci := 6) (k := 2) C dX8_isSame_375 RX7 RX7 TX7 5 fw_X7 rfl (by decide) tw_533 rfl rfl ((put_n (by decide)).trans (SW_h hk)) rfl ?_
    refine V_wd (w' := LSW ad σ σ tl t lo) LW_LS ?_
    refine V_callV (r := (RX7, TX7, 5)) C [.ref (ad [2, 4, u]), .int (nI (hDm (cH σ k))), .int (nI (hDu (cH σ k)))] dX8_isSame_378 m_X7_meets k_X7_meets tw_502 rfl rfl rfl (SW_h hk) rfl rfl (Nat.le_of_ble_eq_true rfl) ⟨by omega, by omega, by omega, by omega⟩ (s_meets (i := 2) hl (by omega) hσ hk hu0 hu2 hu3) (kr_some (x := .int (nI (metW (cH σ k) (cS σ u) (hDm (cH σ k)) (hDu (cH σ k))))) ?_) kx_no
    refine V_wd (w' := LW ad σ σ tl t lo) LW_LS.symm ?_
    refine V_icmpn_eq (tgt := 386) C dX8_isSame_381 (by decide) (by omega) (by omega) (fun hb2 => ?_) (fun hb2 => by exfalso; omega)
    refine V_iincn C [(7, .int (nI (u + 1))), (5, .ref (ad [2, 3, k])), (4, .int (nI k)), (3, .int (nI sm)), (0, .ref (ad [2])), (1, .ref (ad [0])), (2, .int (nI 1000))] dX8_isSame_386 0 rfl (by decide) rfl ?_
    refine V_goto (tgt := 341) C dX8_isSame_389 (by decide) ?_
    refine V_lv [0, 1, 2, 3, 4, 5, 6] rfl ?_
    exact ih (u + 1) tl t lo _ _ (by omega) (by omega) (by omega) K
set_option maxRecDepth 20000 in
set_option maxHeartbeats 4000000 in
theorem lp_sm3 {p : Program} {l : Launch} {e : Env} {s : State} {m : MethodId} {args : Array Value} {below : List Frame} {meth : Method} {c : Code} {D : va_G} {ba d mc ms : Nat} {ad : Adr} {Q : State → Prop} (C : Cx p l s m args meth c D ba RX8 cX8_isSame 8 [] d) (hl : l.stackTraces = false) (hr : meth.sig.returnType = (some .boolean)) (hd : 10 ≤ d) {σ : CS} (hσ : cOK σ) (hI0 : cI σ) {C1 S1 : Nat} (hC1 : C1 ≤ mc) (hS1 : S1 ≤ ms)  : ∀ (n : Nat) (k : Nat) (tl : Int32) (t : TT) (lo : Nat → Int32) (cz sz : Nat), k + n = cN σ → cz + 230 * n ≤ C1 → sz + 1800 * n ≤ S1 → (∀ tl t lo, V p l e s m args below meth c D ba d mc ms Q 8 ad (LW ad σ σ tl t lo) 406 [(3, .int (nI (sumD (cH σ) (cN σ)))), (0, .ref (ad [2])), (1, .ref (ad [0])), (2, .int (nI 1000))] [] C1 S1) → V p l e s m args below meth c D ba d mc ms Q 8 ad (LW ad σ σ tl t lo) 64 [(4, .int (nI k)), (3, .int (nI (upF (sumN (cH σ)) k 0))), (0, .ref (ad [2])), (1, .ref (ad [0])), (2, .int (nI 1000))] [] cz sz := by
  intro n
  induction n with
  | zero =>
    intro k tl t lo cz sz hkn hcz hsz K
    have hσ1 := hσ.1
    have hσ2 := hσ.2.1
    refine V_iload C dX8_isSame_64 0 rfl ?_
    refine V_aload_n C dX8_isSame_66 2 rfl ?_
    refine V_get (ci := 7) (k := 2) C dX8_isSame_67 RX8 RX8 TX8 4 fw_X8 rfl (by decide) tw_647 rfl rfl ((put_n (by decide)).trans SW_b) rfl ?_
    refine V_alen (v := nI (cN σ)) C dX8_isSame_70 rfl ((put_n (by decide)).trans SW_hr) rfl ?_
    refine V_icmpn_ge (tgt := 406) C dX8_isSame_71 (by decide) (by omega) (by omega) (fun hb1 => ?_) (fun hb1 => by exfalso; omega)
    refine V_lv [1, 2, 3, 4] rfl ?_
    refine V_lvE (lv' := [(3, .int (nI (sumD (cH σ) (cN σ)))), (0, .ref (ad [2])), (1, .ref (ad [0])), (2, .int (nI 1000))]) (by rw [show k = cN σ by omega]; rfl) ?_
    exact V_cs (by omega) (by omega) (K tl t lo)
  | succ n ih =>
    intro k tl t lo cz sz hkn hcz hsz K
    have hσ1 := hσ.1
    have hσ2 := hσ.2.1
    rw [show 230 * (n + 1) = 230 * n + 230 from Nat.mul_succ 230 n] at hcz
    rw [show 1800 * (n + 1) = 1800 * n + 1800 from Nat.mul_succ 1800 n] at hsz
    refine V_iload C dX8_isSame_64 0 rfl ?_
    refine V_aload_n C dX8_isSame_66 2 rfl ?_
    refine V_get (ci := 7) (k := 2) C dX8_isSame_67 RX8 RX8 TX8 4 fw_X8 rfl (by decide) tw_647 rfl rfl ((put_n (by decide)).trans SW_b) rfl ?_
    refine V_alen (v := nI (cN σ)) C dX8_isSame_70 rfl ((put_n (by decide)).trans SW_hr) rfl ?_
    refine V_icmpn_ge (tgt := 406) C dX8_isSame_71 (by decide) (by omega) (by omega) (fun hb1 => by exfalso; omega) (fun hb1 => ?_)
    have hk : k < cN σ := by omega
    have hσ1 := hσ.1
    have hσ2 := hσ.2.1
    have hu := hσ.2.2.1 k hk
    have hu1 := hu.1
    have hu2 := hu.2.1
    have hu3 := hu.2.2.1
    have hu4 := hu.2.2.2.1
    have hle9 : (if hCe (cH σ k) = -1 then 0 else 1) ≤ 1 := by split <;> omega
    refine V_aload_n C dX8_isSame_74 2 rfl ?_
    refine V_get (ci := 7) (k := 2) C dX8_isSame_75 RX8 RX8 TX8 4 fw_X8 rfl (by decide) tw_647 rfl rfl ((put_n (by decide)).trans SW_b) rfl ?_
    refine V_iload C dX8_isSame_78 0 rfl ?_
    refine V_aaldn (v := .ref (ad [2, 3, k])) C dX8_isSame_80 rfl ((put_n (by decide)).trans SW_hr) (by omega) (by omega) (by rw [adN_lt hk]; rfl) ?_
    refine V_astore C [(5, .ref (ad [2, 3, k])), (4, .int (nI k)), (3, .int (nI (upF (sumN (cH σ)) k 0))), (0, .ref (ad [2])), (1, .ref (ad [0])), (2, .int (nI 1000))] dX8_isSame_81 (by decide) rfl ?_
    refine V_aload_n C dX8_isSame_83 4 rfl ?_
    refine V_iload C dX8_isSame_84 1 rfl ?_
    refine V_callV (r := (RX6, TX6, 8)) C [.int (nI k)] dX8_isSame_86 m_X6_surfacesOf k_X6_surfacesOf tw_469 rfl rfl rfl PW_b rfl rfl (Nat.le_of_ble_eq_true rfl) ⟨by omega, by omega, by omega, by omega⟩ (p_surfacesOf (i := 0) hl (by omega) hσ hk) (kr_RP (x := .int (nI (hSc (cH σ k)))) (fun tl t lo => ?_)) kx_no
    refine V_aload C dX8_isSame_89 0 rfl ?_
    refine V_get (ci := 6) (k := 0) C dX8_isSame_91 RX7 RX7 TX7 5 fw_X7 rfl (by decide) tw_530 rfl rfl ((put_n (by decide)).trans (SW_h hk)) rfl ?_
    refine V_alen (v := nI (hSc (cH σ k))) C dX8_isSame_94 rfl ((put_n (by decide)).trans (SW_s hk)) rfl ?_
    refine V_icmpn_ne (tgt := 184) C dX8_isSame_95 (by decide) (by omega) (by omega) (fun hb2 => by exfalso; omega) (fun hb2 => ?_)
    refine V_aload_n C dX8_isSame_98 4 rfl ?_
    refine V_iload C dX8_isSame_99 1 rfl ?_
    refine V_callV (r := (RX6, TX6, 8)) C [.int (nI k)] dX8_isSame_101 m_X6_dampingOf k_X6_dampingOf tw_470 rfl rfl rfl PW_b rfl rfl (Nat.le_of_ble_eq_true rfl) ⟨by omega, by omega, by omega, by omega⟩ (p_dampingOf (i := 0) hl (by omega) hσ hk) (kr_RP (x := .int (nI (hDm (cH σ k)))) (fun tl t lo => ?_)) kx_no
    refine V_aload C dX8_isSame_104 0 rfl ?_
    refine V_get (ci := 6) (k := 1) C dX8_isSame_106 RX7 RX7 TX7 5 fw_X7 rfl (by decide) tw_532 rfl rfl ((put_n (by decide)).trans (SW_h hk)) rfl ?_
    refine V_icmpn_ne (tgt := 184) C dX8_isSame_109 (by decide) (by omega) (by omega) (fun hb3 => by exfalso; omega) (fun hb3 => ?_)
    refine V_aload_n C dX8_isSame_112 4 rfl ?_
    refine V_iload C dX8_isSame_113 1 rfl ?_
    refine V_callV (r := (RX6, TX6, 8)) C [.int (nI k)] dX8_isSame_115 m_X6_dustOf k_X6_dustOf tw_471 rfl rfl rfl PW_b rfl rfl (Nat.le_of_ble_eq_true rfl) ⟨by omega, by omega, by omega, by omega⟩ (p_dustOf (i := 0) hl (by omega) hσ hk) (kr_RP (x := .int (nI (hDu (cH σ k)))) (fun tl t lo => ?_)) kx_no
    refine V_aload C dX8_isSame_118 0 rfl ?_
    refine V_get (ci := 6) (k := 2) C dX8_isSame_120 RX7 RX7 TX7 5 fw_X7 rfl (by decide) tw_533 rfl rfl ((put_n (by decide)).trans (SW_h hk)) rfl ?_
    refine V_icmpn_ne (tgt := 184) C dX8_isSame_123 (by decide) (by omega) (by omega) (fun hb4 => by exfalso; omega) (fun hb4 => ?_)
    refine V_aload_n C dX8_isSame_126 4 rfl ?_
    refine V_iload C dX8_isSame_127 1 rfl ?_
    refine V_callV (r := (RX6, TX6, 8)) C [.int (nI k)] dX8_isSame_129 m_X6_isCertified k_X6_isCertified tw_472 rfl rfl rfl PW_b rfl rfl (Nat.le_of_ble_eq_true rfl) ⟨by omega, by omega, by omega, by omega⟩ (p_isCertified (i := 0) hl (by omega) hσ hk) (kr_RP (x := .int (nI (if hCe (cH σ k) = -1 then 0 else 1))) (fun tl t lo => ?_)) kx_no
    refine V_aload C dX8_isSame_132 0 rfl ?_
    refine V_get (ci := 6) (k := 3) C dX8_isSame_134 RX7 RX7 TX7 5 fw_X7 rfl (by decide) tw_536 rfl rfl ((put_n (by decide)).trans (SW_h hk)) rfl ?_
    refine V_if_lt (tgt := 144) C dX8_isSame_137 (by decide) (fun hb5 => ?_) (fun hb5 => ?_)
    · skip
      have hz := (hI_lt (hI0 k hk) hb5)
      refine V_iconst (v := nI 0) C dX8_isSame_144 (by decide) ?_
      refine V_stE (st' := [.int (nI 0), .int (nI 0)]) (by rw [if_pos hz.1]) ?_
      refine V_icmpn_ne (tgt := 184) C dX8_isSame_145 (by decide) (by decide) (by decide) (fun hb6 => by exfalso; omega) (fun hb6 => ?_)
      refine V_aload C dX8_isSame_148 0 rfl ?_
      refine V_get (ci := 6) (k := 3) C dX8_isSame_150 RX7 RX7 TX7 5 fw_X7 rfl (by decide) tw_536 rfl rfl ((put_n (by decide)).trans (SW_h hk)) rfl ?_
      refine V_if_lt (tgt := 170) C dX8_isSame_153 (by decide) (fun hb7 => ?_) (fun hb7 => by exfalso; exact hb7 hb5)
      refine V_aload_n C dX8_isSame_170 4 rfl ?_
      refine V_iload C dX8_isSame_171 1 rfl ?_
      refine V_callV (r := (RX6, TX6, 8)) C [.int (nI k)] dX8_isSame_173 m_X6_daysLeft k_X6_daysLeft tw_481 rfl rfl rfl PW_b rfl rfl (Nat.le_of_ble_eq_true rfl) ⟨by omega, by omega, by omega, by omega⟩ (p_daysLeft (i := 0) hl (by omega) hσ hk) (kr_RP (x := .int (nI (hDy (cH σ k)))) (fun tl t lo => ?_)) kx_no
      refine V_aload C dX8_isSame_176 0 rfl ?_
      refine V_get (ci := 6) (k := 4) C dX8_isSame_178 RX7 RX7 TX7 5 fw_X7 rfl (by decide) tw_538 rfl rfl ((put_n (by decide)).trans (SW_h hk)) rfl ?_
      refine V_icmpn_eq (tgt := 186) C dX8_isSame_181 (by decide) (by omega) (by omega) (fun hb8 => ?_) (fun hb8 => by exfalso; omega)
      refine V_iconst (v := nI 0) C dX8_isSame_186 (by decide) ?_
      refine V_istore C [(6, .int (nI 0)), (5, .ref (ad [2, 3, k])), (4, .int (nI k)), (3, .int (nI (upF (sumN (cH σ)) k 0))), (0, .ref (ad [2])), (1, .ref (ad [0])), (2, .int (nI 1000))] dX8_isSame_187 (by decide) rfl ?_
      refine V_lv [0, 1, 2, 3, 4, 5, 6] rfl ?_
      refine lp_sm1 (C1 := cz + 144) (S1 := sz + 1152) C hl hr (by omega) hσ hI0 hk (by omega) (by omega) (hSc (cH σ k)) 0 tl t lo _ _ (by omega) (by omega) (by omega) (fun tl t lo => ?_)
      refine V_aload C dX8_isSame_252 0 rfl ?_
      refine V_iload_n C dX8_isSame_254 5 rfl ?_
      refine V_iload_n C dX8_isSame_255 5 rfl ?_
      refine V_iconst (v := nI 3) C dX8_isSame_256 (by decide) ?_
      refine V_idivn C dX8_isSame_257 (by omega) (by omega) (by omega) ?_
      refine V_iconst (v := nI 1) C dX8_isSame_258 (by decide) ?_
      refine V_iaddn C dX8_isSame_259 ?_
      refine V_aload C dX8_isSame_260 0 rfl ?_
      refine V_get (ci := 6) (k := 1) C dX8_isSame_262 RX7 RX7 TX7 5 fw_X7 rfl (by decide) tw_532 rfl rfl ((put_n (by decide)).trans (SW_h hk)) rfl ?_
      refine V_aload C dX8_isSame_265 0 rfl ?_
      refine V_get (ci := 6) (k := 2) C dX8_isSame_267 RX7 RX7 TX7 5 fw_X7 rfl (by decide) tw_533 rfl rfl ((put_n (by decide)).trans (SW_h hk)) rfl ?_
      refine V_wd (w' := LSW ad σ σ tl t lo) LW_LS ?_
      refine V_callV (r := (RX7, TX7, 5)) C [.int (nI 1000), .int (nI ((1000 / 3) + 1)), .int (nI (hDm (cH σ k))), .int (nI (hDu (cH σ k)))] dX8_isSame_270 m_X7_echoes k_X7_echoes tw_489 rfl rfl rfl (SW_h hk) rfl rfl (Nat.le_of_ble_eq_true rfl) ⟨by omega, by omega, by omega, by omega⟩ (s_echoes (i := 2) hl (by omega) hσ hk hu2 hu3 (by decide) (nI (1000 / 3 + 1))) ?_ kx_no
      rintro v2 adz wz ⟨q9, rfl, rfl, rfl⟩
      obtain ⟨ad1, hA1⟩ : ∃ z, z = aset ad [2, 9] q9 := ⟨_, rfl⟩
      have hq9 : q9 = ad1 [2, 9] := by rw [hA1]; exact aset_s.symm
      refine V_wd (w' := LX ad1 σ tl t lo (tF (tly (cH σ k) (nI (1000 / 3 + 1)) 1000))) (by rw [hA1]; exact LX_of) ?_
      rw [← hA1]
      refine V_lvE (lv' := [(5, .ref (ad1 [2, 3, k])), (4, .int (nI k)), (3, .int (nI (upF (sumN (cH σ)) k 0))), (0, .ref (ad1 [2])), (1, .ref (ad1 [0])), (2, .int (nI 1000))]) (by rw [hA1]; simp [aset]) ?_
      refine V_stE (st' := [.ref (ad1 [2, 9])]) (by rw [hq9]; rfl) ?_
      refine V_astore C [(6, .ref (ad1 [2, 9])), (5, .ref (ad1 [2, 3, k])), (4, .int (nI k)), (3, .int (nI (upF (sumN (cH σ)) k 0))), (0, .ref (ad1 [2])), (1, .ref (ad1 [0])), (2, .int (nI 1000))] dX8_isSame_273 (by decide) rfl ?_
      refine V_aload_n C dX8_isSame_275 5 rfl ?_
      refine V_iload C dX8_isSame_276 2 rfl ?_
      refine V_iload_n C dX8_isSame_278 6 rfl ?_
      refine V_callV (r := (RX6, TX6, 8)) C [.int (nI k), .int (nI 1000)] dX8_isSame_279 m_X6_echoes k_X6_echoes tw_497 rfl rfl rfl PW_b rfl rfl (Nat.le_of_ble_eq_true rfl) ⟨by omega, by omega, by omega, by omega⟩ (p_echoes (i := 0) hl (by omega) hσ hk (by omega) (inR_ok (by omega) (by omega) (by decide))) (kr_RP (x := .int ((tly (cH σ k) (nI 1) 1000).1)) (fun tl t lo => ?_)) kx_no
      refine V_aload C dX8_isSame_282 0 rfl ?_
      refine V_iconst (v := nI 0) C dX8_isSame_284 (by decide) ?_
      refine V_ialdn (v := ((tly (cH σ k) (nI 1) 1000).1)) C dX8_isSame_285 rfl ((put_n (by decide)).trans wset_s) (by decide) (by decide) (tly_co _ (nI 1)).1 ?_
      refine V_icmp_ne (tgt := 336) C dX8_isSame_286 (by decide) (fun hb9 => by exfalso; exact hb9 rfl) (fun hb9 => ?_)
      refine V_aload_n C dX8_isSame_289 5 rfl ?_
      refine V_iload C dX8_isSame_290 2 rfl ?_
      refine V_iload_n C dX8_isSame_292 6 rfl ?_
      refine V_iload_n C dX8_isSame_293 6 rfl ?_
      refine V_iconst (v := nI 3) C dX8_isSame_294 (by decide) ?_
      refine V_idivn C dX8_isSame_295 (by omega) (by omega) (by omega) ?_
      refine V_iconst (v := nI 1) C dX8_isSame_296 (by decide) ?_
      refine V_iaddn C dX8_isSame_297 ?_
      refine V_callV (r := (RX6, TX6, 8)) C [.int (nI k), .int (nI 1000), .int (nI ((1000 / 3) + 1))] dX8_isSame_298 m_X6_loudEchoes k_X6_loudEchoes tw_498 rfl rfl rfl PW_b rfl rfl (Nat.le_of_ble_eq_true rfl) ⟨by omega, by omega, by omega, by omega⟩ (p_loudEchoes (i := 0) hl (by omega) hσ hk (by omega) (inR_ok (by omega) (by omega) (by decide)) (inR_ok (by decide) (by decide) (by decide))) (kr_RP (x := .int ((tly (cH σ k) (nI (1000 / 3 + 1)) 1000).2.1)) (fun tl t lo => ?_)) kx_no
      refine V_aload C dX8_isSame_301 0 rfl ?_
      refine V_iconst (v := nI 1) C dX8_isSame_303 (by decide) ?_
      refine V_ialdn (v := ((tly (cH σ k) (nI (1000 / 3 + 1)) 1000).2.1)) C dX8_isSame_304 rfl ((put_n (by decide)).trans wset_s) (by decide) (by decide) rfl ?_
      refine V_icmp_ne (tgt := 336) C dX8_isSame_305 (by decide) (fun hb10 => by exfalso; exact hb10 rfl) (fun hb10 => ?_)
      refine V_aload_n C dX8_isSame_308 5 rfl ?_
      refine V_iload C dX8_isSame_309 2 rfl ?_
      refine V_iload_n C dX8_isSame_311 6 rfl ?_
      refine V_callV (r := (RX6, TX6, 8)) C [.int (nI k), .int (nI 1000)] dX8_isSame_312 m_X6_firstEcho k_X6_firstEcho tw_499 rfl rfl rfl PW_b rfl rfl (Nat.le_of_ble_eq_true rfl) ⟨by omega, by omega, by omega, by omega⟩ (p_firstEcho (i := 0) hl (by omega) hσ hk (by omega) (inR_ok (by omega) (by omega) (by decide))) (kr_RP (x := .int ((tly (cH σ k) (nI 1) 1000).2.2.1)) (fun tl t lo => ?_)) kx_no
      refine V_aload C dX8_isSame_315 0 rfl ?_
      refine V_iconst (v := nI 2) C dX8_isSame_317 (by decide) ?_
      refine V_ialdn (v := ((tly (cH σ k) (nI 1) 1000).2.2.1)) C dX8_isSame_318 rfl ((put_n (by decide)).trans wset_s) (by decide) (by decide) (tly_co _ (nI 1)).2.1 ?_
      refine V_icmp_ne (tgt := 336) C dX8_isSame_319 (by decide) (fun hb11 => by exfalso; exact hb11 rfl) (fun hb11 => ?_)
      refine V_aload_n C dX8_isSame_322 5 rfl ?_
      refine V_iload C dX8_isSame_323 2 rfl ?_
      refine V_iload_n C dX8_isSame_325 6 rfl ?_
      refine V_callV (r := (RX6, TX6, 8)) C [.int (nI k), .int (nI 1000)] dX8_isSame_326 m_X6_lastEcho k_X6_lastEcho tw_500 rfl rfl rfl PW_b rfl rfl (Nat.le_of_ble_eq_true rfl) ⟨by omega, by omega, by omega, by omega⟩ (p_lastEcho (i := 0) hl (by omega) hσ hk (by omega) (inR_ok (by omega) (by omega) (by decide))) (kr_RP (x := .int ((tly (cH σ k) (nI 1) 1000).2.2.2)) (fun tl t lo => ?_)) kx_no
      refine V_aload C dX8_isSame_329 0 rfl ?_
      refine V_iconst (v := nI 3) C dX8_isSame_331 (by decide) ?_
      refine V_ialdn (v := ((tly (cH σ k) (nI 1) 1000).2.2.2)) C dX8_isSame_332 rfl ((put_n (by decide)).trans wset_s) (by decide) (by decide) (tly_co _ (nI 1)).2.2 ?_
      refine V_icmp_eq (tgt := 338) C dX8_isSame_333 (by decide) (fun hb12 => ?_) (fun hb12 => by exfalso; exact hb12 rfl)
      refine V_lv (lv' := [(5, .ref (ad1 [2, 3, k])), (4, .int (nI k)), (3, .int (nI (upF (sumN (cH σ)) k 0))), (0, .ref (ad1 [2])), (1, .ref (ad1 [0])), (2, .int (nI 1000))]) [1, 2, 3, 4, 5, 6] rfl ?_
      refine V_lvE (lv' := [(5, .ref (ad [2, 3, k])), (4, .int (nI k)), (3, .int (nI (upF (sumN (cH σ)) k 0))), (0, .ref (ad [2])), (1, .ref (ad [0])), (2, .int (nI 1000))]) (by rw [hA1]; simp [aset]) ?_
      rw [hA1]
      refine V_back9W ?_
      refine V_iconst (v := nI 0) C dX8_isSame_338 (by decide) ?_
      refine V_istore C [(7, .int (nI 0)), (5, .ref (ad [2, 3, k])), (4, .int (nI k)), (3, .int (nI (upF (sumN (cH σ)) k 0))), (0, .ref (ad [2])), (1, .ref (ad [0])), (2, .int (nI 1000))] dX8_isSame_339 (by decide) rfl ?_
      refine V_lv [0, 1, 2, 3, 4, 5, 6] rfl ?_
      refine lp_sm2 (C1 := cz + 230) (S1 := sz + 1800) C hl hr (by omega) hσ hI0 hk (by omega) (by omega) (cK σ) 0 tl t lo _ _ (by omega) (by omega) (by omega) (fun tl t lo => ?_)
      refine V_iload_n C dX8_isSame_392 2 rfl ?_
      refine V_aload C dX8_isSame_393 0 rfl ?_
      refine V_get (ci := 6) (k := 1) C dX8_isSame_395 RX7 RX7 TX7 5 fw_X7 rfl (by decide) tw_532 rfl rfl ((put_n (by decide)).trans (SW_h hk)) rfl ?_
      refine V_iaddn C dX8_isSame_398 ?_
      refine V_istore_n C [(3, .int (nI ((upF (sumN (cH σ)) k 0) + (hDm (cH σ k))))), (5, .ref (ad [2, 3, k])), (4, .int (nI k)), (0, .ref (ad [2])), (1, .ref (ad [0])), (2, .int (nI 1000))] dX8_isSame_399 (by decide) rfl ?_
      refine V_iincn C [(4, .int (nI (k + 1))), (3, .int (nI ((upF (sumN (cH σ)) k 0) + (hDm (cH σ k))))), (5, .ref (ad [2, 3, k])), (0, .ref (ad [2])), (1, .ref (ad [0])), (2, .int (nI 1000))] dX8_isSame_400 2 rfl (by decide) rfl ?_
      refine V_goto (tgt := 64) C dX8_isSame_403 (by decide) ?_
      refine V_lv [0, 1, 3, 4, 5] rfl ?_
      exact ih (k + 1) tl t lo _ _ (by omega) (by omega) (by omega) K
    · skip
      have hz := (hI_ge (hI0 k hk) hb5)
      refine V_iconst (v := nI 1) C dX8_isSame_140 (by decide) ?_
      refine V_goto (tgt := 145) C dX8_isSame_141 (by decide) ?_
      refine V_stE (st' := [.int (nI 1), .int (nI 1)]) (by rw [if_neg hz.1]) ?_
      refine V_icmpn_ne (tgt := 184) C dX8_isSame_145 (by decide) (by decide) (by decide) (fun hb13 => by exfalso; omega) (fun hb13 => ?_)
      refine V_aload C dX8_isSame_148 0 rfl ?_
      refine V_get (ci := 6) (k := 3) C dX8_isSame_150 RX7 RX7 TX7 5 fw_X7 rfl (by decide) tw_536 rfl rfl ((put_n (by decide)).trans (SW_h hk)) rfl ?_
      refine V_if_lt (tgt := 170) C dX8_isSame_153 (by decide) (fun hb14 => by exfalso; exact hb5 hb14) (fun hb14 => ?_)
      refine V_aload_n C dX8_isSame_156 4 rfl ?_
      refine V_iload C dX8_isSame_157 1 rfl ?_
      refine V_callV (r := (RX6, TX6, 8)) C [.int (nI k)] dX8_isSame_159 m_X6_certifiedBy k_X6_certifiedBy tw_473 rfl rfl rfl PW_b rfl rfl (Nat.le_of_ble_eq_true rfl) ⟨by omega, by omega, by omega, by omega⟩ (p_certifiedBy (i := 0) hl (by omega) hσ hk hz.1) (kr_RP (x := .int (hCe (cH σ k))) (fun tl t lo => ?_)) kx_no
      refine V_aload C dX8_isSame_162 0 rfl ?_
      refine V_get (ci := 6) (k := 3) C dX8_isSame_164 RX7 RX7 TX7 5 fw_X7 rfl (by decide) tw_536 rfl rfl ((put_n (by decide)).trans (SW_h hk)) rfl ?_
      refine V_icmp_ne (tgt := 184) C dX8_isSame_167 (by decide) (fun hb15 => by exfalso; exact hb15 rfl) (fun hb15 => ?_)
      refine V_aload_n C dX8_isSame_170 4 rfl ?_
      refine V_iload C dX8_isSame_171 1 rfl ?_
      refine V_callV (r := (RX6, TX6, 8)) C [.int (nI k)] dX8_isSame_173 m_X6_daysLeft k_X6_daysLeft tw_481 rfl rfl rfl PW_b rfl rfl (Nat.le_of_ble_eq_true rfl) ⟨by omega, by omega, by omega, by omega⟩ (p_daysLeft (i := 0) hl (by omega) hσ hk) (kr_RP (x := .int (nI (hDy (cH σ k)))) (fun tl t lo => ?_)) kx_no
      refine V_aload C dX8_isSame_176 0 rfl ?_
      refine V_get (ci := 6) (k := 4) C dX8_isSame_178 RX7 RX7 TX7 5 fw_X7 rfl (by decide) tw_538 rfl rfl ((put_n (by decide)).trans (SW_h hk)) rfl ?_
      refine V_icmpn_eq (tgt := 186) C dX8_isSame_181 (by decide) (by omega) (by omega) (fun hb16 => ?_) (fun hb16 => by exfalso; omega)
      refine V_iconst (v := nI 0) C dX8_isSame_186 (by decide) ?_
      refine V_istore C [(6, .int (nI 0)), (5, .ref (ad [2, 3, k])), (4, .int (nI k)), (3, .int (nI (upF (sumN (cH σ)) k 0))), (0, .ref (ad [2])), (1, .ref (ad [0])), (2, .int (nI 1000))] dX8_isSame_187 (by decide) rfl ?_
      refine V_lv [0, 1, 2, 3, 4, 5, 6] rfl ?_
      refine lp_sm1 (C1 := cz + 144) (S1 := sz + 1152) C hl hr (by omega) hσ hI0 hk (by omega) (by omega) (hSc (cH σ k)) 0 tl t lo _ _ (by omega) (by omega) (by omega) (fun tl t lo => ?_)
      refine V_aload C dX8_isSame_252 0 rfl ?_
      refine V_iload_n C dX8_isSame_254 5 rfl ?_
      refine V_iload_n C dX8_isSame_255 5 rfl ?_
      refine V_iconst (v := nI 3) C dX8_isSame_256 (by decide) ?_
      refine V_idivn C dX8_isSame_257 (by omega) (by omega) (by omega) ?_
      refine V_iconst (v := nI 1) C dX8_isSame_258 (by decide) ?_
      refine V_iaddn C dX8_isSame_259 ?_
      refine V_aload C dX8_isSame_260 0 rfl ?_
      refine V_get (ci := 6) (k := 1) C dX8_isSame_262 RX7 RX7 TX7 5 fw_X7 rfl (by decide) tw_532 rfl rfl ((put_n (by decide)).trans (SW_h hk)) rfl ?_
      refine V_aload C dX8_isSame_265 0 rfl ?_
      refine V_get (ci := 6) (k := 2) C dX8_isSame_267 RX7 RX7 TX7 5 fw_X7 rfl (by decide) tw_533 rfl rfl ((put_n (by decide)).trans (SW_h hk)) rfl ?_
      refine V_wd (w' := LSW ad σ σ tl t lo) LW_LS ?_
      refine V_callV (r := (RX7, TX7, 5)) C [.int (nI 1000), .int (nI ((1000 / 3) + 1)), .int (nI (hDm (cH σ k))), .int (nI (hDu (cH σ k)))] dX8_isSame_270 m_X7_echoes k_X7_echoes tw_489 rfl rfl rfl (SW_h hk) rfl rfl (Nat.le_of_ble_eq_true rfl) ⟨by omega, by omega, by omega, by omega⟩ (s_echoes (i := 2) hl (by omega) hσ hk hu2 hu3 (by decide) (nI (1000 / 3 + 1))) ?_ kx_no
      rintro v2 adz wz ⟨q9, rfl, rfl, rfl⟩
      obtain ⟨ad1, hA1⟩ : ∃ z, z = aset ad [2, 9] q9 := ⟨_, rfl⟩
      have hq9 : q9 = ad1 [2, 9] := by rw [hA1]; exact aset_s.symm
      refine V_wd (w' := LX ad1 σ tl t lo (tF (tly (cH σ k) (nI (1000 / 3 + 1)) 1000))) (by rw [hA1]; exact LX_of) ?_
      rw [← hA1]
      refine V_lvE (lv' := [(5, .ref (ad1 [2, 3, k])), (4, .int (nI k)), (3, .int (nI (upF (sumN (cH σ)) k 0))), (0, .ref (ad1 [2])), (1, .ref (ad1 [0])), (2, .int (nI 1000))]) (by rw [hA1]; simp [aset]) ?_
      refine V_stE (st' := [.ref (ad1 [2, 9])]) (by rw [hq9]; rfl) ?_
      refine V_astore C [(6, .ref (ad1 [2, 9])), (5, .ref (ad1 [2, 3, k])), (4, .int (nI k)), (3, .int (nI (upF (sumN (cH σ)) k 0))), (0, .ref (ad1 [2])), (1, .ref (ad1 [0])), (2, .int (nI 1000))] dX8_isSame_273 (by decide) rfl ?_
      refine V_aload_n C dX8_isSame_275 5 rfl ?_
      refine V_iload C dX8_isSame_276 2 rfl ?_
      refine V_iload_n C dX8_isSame_278 6 rfl ?_
      refine V_callV (r := (RX6, TX6, 8)) C [.int (nI k), .int (nI 1000)] dX8_isSame_279 m_X6_echoes k_X6_echoes tw_497 rfl rfl rfl PW_b rfl rfl (Nat.le_of_ble_eq_true rfl) ⟨by omega, by omega, by omega, by omega⟩ (p_echoes (i := 0) hl (by omega) hσ hk (by omega) (inR_ok (by omega) (by omega) (by decide))) (kr_RP (x := .int ((tly (cH σ k) (nI 1) 1000).1)) (fun tl t lo => ?_)) kx_no
      refine V_aload C dX8_isSame_282 0 rfl ?_
      refine V_iconst (v := nI 0) C dX8_isSame_284 (by decide) ?_
      refine V_ialdn (v := ((tly (cH σ k) (nI 1) 1000).1)) C dX8_isSame_285 rfl ((put_n (by decide)).trans wset_s) (by decide) (by decide) (tly_co _ (nI 1)).1 ?_
      refine V_icmp_ne (tgt := 336) C dX8_isSame_286 (by decide) (fun hb17 => by exfalso; exact hb17 rfl) (fun hb17 => ?_)
      refine V_aload_n C dX8_isSame_289 5 rfl ?_
      refine V_iload C dX8_isSame_290 2 rfl ?_
      refine V_iload_n C dX8_isSame_292 6 rfl ?_
      refine V_iload_n C dX8_isSame_293 6 rfl ?_
      refine V_iconst (v := nI 3) C dX8_isSame_294 (by decide) ?_
      refine V_idivn C dX8_isSame_295 (by omega) (by omega) (by omega) ?_
      refine V_iconst (v := nI 1) C dX8_isSame_296 (by decide) ?_
      refine V_iaddn C dX8_isSame_297 ?_
      refine V_callV (r := (RX6, TX6, 8)) C [.int (nI k), .int (nI 1000), .int (nI ((1000 / 3) + 1))] dX8_isSame_298 m_X6_loudEchoes k_X6_loudEchoes tw_498 rfl rfl rfl PW_b rfl rfl (Nat.le_of_ble_eq_true rfl) ⟨by omega, by omega, by omega, by omega⟩ (p_loudEchoes (i := 0) hl (by omega) hσ hk (by omega) (inR_ok (by omega) (by omega) (by decide)) (inR_ok (by decide) (by decide) (by decide))) (kr_RP (x := .int ((tly (cH σ k) (nI (1000 / 3 + 1)) 1000).2.1)) (fun tl t lo => ?_)) kx_no
      refine V_aload C dX8_isSame_301 0 rfl ?_
      refine V_iconst (v := nI 1) C dX8_isSame_303 (by decide) ?_
      refine V_ialdn (v := ((tly (cH σ k) (nI (1000 / 3 + 1)) 1000).2.1)) C dX8_isSame_304 rfl ((put_n (by decide)).trans wset_s) (by decide) (by decide) rfl ?_
      refine V_icmp_ne (tgt := 336) C dX8_isSame_305 (by decide) (fun hb18 => by exfalso; exact hb18 rfl) (fun hb18 => ?_)
      refine V_aload_n C dX8_isSame_308 5 rfl ?_
      refine V_iload C dX8_isSame_309 2 rfl ?_
      refine V_iload_n C dX8_isSame_311 6 rfl ?_
      refine V_callV (r := (RX6, TX6, 8)) C [.int (nI k), .int (nI 1000)] dX8_isSame_312 m_X6_firstEcho k_X6_firstEcho tw_499 rfl rfl rfl PW_b rfl rfl (Nat.le_of_ble_eq_true rfl) ⟨by omega, by omega, by omega, by omega⟩ (p_firstEcho (i := 0) hl (by omega) hσ hk (by omega) (inR_ok (by omega) (by omega) (by decide))) (kr_RP (x := .int ((tly (cH σ k) (nI 1) 1000).2.2.1)) (fun tl t lo => ?_)) kx_no
      refine V_aload C dX8_isSame_315 0 rfl ?_
      refine V_iconst (v := nI 2) C dX8_isSame_317 (by decide) ?_
      refine V_ialdn (v := ((tly (cH σ k) (nI 1) 1000).2.2.1)) C dX8_isSame_318 rfl ((put_n (by decide)).trans wset_s) (by decide) (by decide) (tly_co _ (nI 1)).2.1 ?_
      refine V_icmp_ne (tgt := 336) C dX8_isSame_319 (by decide) (fun hb19 => by exfalso; exact hb19 rfl) (fun hb19 => ?_)
      refine V_aload_n C dX8_isSame_322 5 rfl ?_
      refine V_iload C dX8_isSame_323 2 rfl ?_
      refine V_iload_n C dX8_isSame_325 6 rfl ?_
      refine V_callV (r := (RX6, TX6, 8)) C [.int (nI k), .int (nI 1000)] dX8_isSame_326 m_X6_lastEcho k_X6_lastEcho tw_500 rfl rfl rfl PW_b rfl rfl (Nat.le_of_ble_eq_true rfl) ⟨by omega, by omega, by omega, by omega⟩ (p_lastEcho (i := 0) hl (by omega) hσ hk (by omega) (inR_ok (by omega) (by omega) (by decide))) (kr_RP (x := .int ((tly (cH σ k) (nI 1) 1000).2.2.2)) (fun tl t lo => ?_)) kx_no
      refine V_aload C dX8_isSame_329 0 rfl ?_
      refine V_iconst (v := nI 3) C dX8_isSame_331 (by decide) ?_
      refine V_ialdn (v := ((tly (cH σ k) (nI 1) 1000).2.2.2)) C dX8_isSame_332 rfl ((put_n (by decide)).trans wset_s) (by decide) (by decide) (tly_co _ (nI 1)).2.2 ?_
      refine V_icmp_eq (tgt := 338) C dX8_isSame_333 (by decide) (fun hb20 => ?_) (fun hb20 => by exfalso; exact hb20 rfl)
      refine V_lv (lv' := [(5, .ref (ad1 [2, 3, k])), (4, .int (nI k)), (3, .int (nI (upF (sumN (cH σ)) k 0))), (0, .ref (ad1 [2])), (1, .ref (ad1 [0])), (2, .int (nI 1000))]) [1, 2, 3, 4, 5, 6] rfl ?_
      refine V_lvE (lv' := [(5, .ref (ad [2, 3, k])), (4, .int (nI k)), (3, .int (nI (upF (sumN (cH σ)) k 0))), (0, .ref (ad [2])), (1, .ref (ad [0])), (2, .int (nI 1000))]) (by rw [hA1]; simp [aset]) ?_
      rw [hA1]
      refine V_back9W ?_
      refine V_iconst (v := nI 0) C dX8_isSame_338 (by decide) ?_
      refine V_istore C [(7, .int (nI 0)), (5, .ref (ad [2, 3, k])), (4, .int (nI k)), (3, .int (nI (upF (sumN (cH σ)) k 0))), (0, .ref (ad [2])), (1, .ref (ad [0])), (2, .int (nI 1000))] dX8_isSame_339 (by decide) rfl ?_
      refine V_lv [0, 1, 2, 3, 4, 5, 6] rfl ?_
      refine lp_sm2 (C1 := cz + 230) (S1 := sz + 1800) C hl hr (by omega) hσ hI0 hk (by omega) (by omega) (cK σ) 0 tl t lo _ _ (by omega) (by omega) (by omega) (fun tl t lo => ?_)
      refine V_iload_n C dX8_isSame_392 2 rfl ?_
      refine V_aload C dX8_isSame_393 0 rfl ?_
      refine V_get (ci := 6) (k := 1) C dX8_isSame_395 RX7 RX7 TX7 5 fw_X7 rfl (by decide) tw_532 rfl rfl ((put_n (by decide)).trans (SW_h hk)) rfl ?_
      refine V_iaddn C dX8_isSame_398 ?_
      refine V_istore_n C [(3, .int (nI ((upF (sumN (cH σ)) k 0) + (hDm (cH σ k))))), (5, .ref (ad [2, 3, k])), (4, .int (nI k)), (0, .ref (ad [2])), (1, .ref (ad [0])), (2, .int (nI 1000))] dX8_isSame_399 (by decide) rfl ?_
      refine V_iincn C [(4, .int (nI (k + 1))), (3, .int (nI ((upF (sumN (cH σ)) k 0) + (hDm (cH σ k))))), (5, .ref (ad [2, 3, k])), (0, .ref (ad [2])), (1, .ref (ad [0])), (2, .int (nI 1000))] dX8_isSame_400 2 rfl (by decide) rfl ?_
      refine V_goto (tgt := 64) C dX8_isSame_403 (by decide) ?_
      refine V_lv [0, 1, 3, 4, 5] rfl ?_
      exact ih (k + 1) tl t lo _ _ (by omega) (by omega) (by omega) K
set_option maxHeartbeats 4000000 in
theorem s_isSame {l : Launch} {D : va_G} {ba d : Nat} {ad : Adr} (hl : l.stackTraces = false) (hd : 11 ≤ d) {σ : CS} {tl : Int32} {t : TT} {lo : Nat → Int32} (hσ : cOK σ) (hI0 : cI σ) (hn : 1 ≤ cN σ) : CT l yX8_isSame (wsO yX8_isSame cX8_isSame 8 (some .boolean)) d 2000 16000 D ba [.ref (ad [2]), .ref (ad [0]), .int (nI 1000)] ad (LW ad σ σ tl t lo) (RLW ad σ (.int (nI 1))) noX := by
  refine CT_of RX8 rfl (by decide +kernel) hl (Nat.le_of_ble_eq_true rfl) ?_
  intro p e s m args below meth c C hr hnm
  refine V_lvE (lv' := [(0, .ref (ad [2])), (1, .ref (ad [0])), (2, .int (nI 1000))]) rfl ?_
  have hσ1 := hσ.1
  have hσ2 := hσ.2.1
  have hce := certs_le (cH σ) (cN σ)
  have hsd : sumD (cH σ) (cN σ) ≤ 720 := by have := sumD_le hσ (cN σ) (Nat.le_refl _); omega
  refine V_aload_n C dX8_isSame_0 1 rfl ?_
  refine V_callV (r := (RX6, TX6, 8)) C [] dX8_isSame_1 m_X6_halls k_X6_halls tw_454 rfl rfl rfl PW_b rfl rfl (Nat.le_of_ble_eq_true rfl) ⟨by omega, by omega, by omega, by omega⟩ (p_halls (i := 0) hl (by omega) hσ) (kr_RP (x := .int (nI (cN σ))) (fun tl t lo => ?_)) kx_no
  refine V_aload_n C dX8_isSame_4 0 rfl ?_
  refine V_get (ci := 7) (k := 2) C dX8_isSame_5 RX8 RX8 TX8 4 fw_X8 rfl (by decide) tw_647 rfl rfl ((put_n (by decide)).trans SW_b) rfl ?_
  refine V_alen (v := nI (cN σ)) C dX8_isSame_8 rfl ((put_n (by decide)).trans SW_hr) rfl ?_
  refine V_icmpn_ne (tgt := 57) C dX8_isSame_9 (by decide) (by omega) (by omega) (fun hb1 => by exfalso; omega) (fun hb1 => ?_)
  refine V_aload_n C dX8_isSame_12 1 rfl ?_
  refine V_callV (r := (RX6, TX6, 8)) C [] dX8_isSame_13 m_X6_standards k_X6_standards tw_455 rfl rfl rfl PW_b rfl rfl (Nat.le_of_ble_eq_true rfl) ⟨by omega, by omega, by omega, by omega⟩ (p_standards (i := 0) hl (by omega) hσ) (kr_RP (x := .int (nI (cK σ))) (fun tl t lo => ?_)) kx_no
  refine V_aload_n C dX8_isSame_16 0 rfl ?_
  refine V_get (ci := 7) (k := 3) C dX8_isSame_17 RX8 RX8 TX8 4 fw_X8 rfl (by decide) tw_649 rfl rfl ((put_n (by decide)).trans SW_b) rfl ?_
  refine V_alen (v := nI (cK σ)) C dX8_isSame_20 rfl ((put_n (by decide)).trans SW_rr) rfl ?_
  refine V_icmpn_ne (tgt := 57) C dX8_isSame_21 (by decide) (by omega) (by omega) (fun hb2 => by exfalso; omega) (fun hb2 => ?_)
  refine V_aload_n C dX8_isSame_24 1 rfl ?_
  refine V_callV (r := (RX6, TX6, 8)) C [] dX8_isSame_25 m_X6_day k_X6_day tw_456 rfl rfl rfl PW_b rfl rfl (Nat.le_of_ble_eq_true rfl) ⟨by omega, by omega, by omega, by omega⟩ (p_day (i := 0) hl (by omega) hσ) (kr_RP (x := .int (cDay σ)) (fun tl t lo => ?_)) kx_no
  refine V_aload_n C dX8_isSame_28 0 rfl ?_
  refine V_get (ci := 7) (k := 0) C dX8_isSame_29 RX8 RX8 TX8 4 fw_X8 rfl (by decide) tw_644 rfl rfl ((put_n (by decide)).trans SW_b) rfl ?_
  refine V_icmp_ne (tgt := 57) C dX8_isSame_32 (by decide) (fun hb3 => by exfalso; exact hb3 rfl) (fun hb3 => ?_)
  refine V_aload_n C dX8_isSame_35 1 rfl ?_
  refine V_callV (r := (RX6, TX6, 8)) C [] dX8_isSame_36 m_X6_inspections k_X6_inspections tw_460 rfl rfl rfl PW_b rfl rfl (Nat.le_of_ble_eq_true rfl) ⟨by omega, by omega, by omega, by omega⟩ (p_inspections (i := 0) hl (by omega) hσ) (kr_RP (x := .int (cIns σ)) (fun tl t lo => ?_)) kx_no
  refine V_aload_n C dX8_isSame_39 0 rfl ?_
  refine V_get (ci := 7) (k := 1) C dX8_isSame_40 RX8 RX8 TX8 4 fw_X8 rfl (by decide) tw_646 rfl rfl ((put_n (by decide)).trans SW_b) rfl ?_
  refine V_icmp_ne (tgt := 57) C dX8_isSame_43 (by decide) (fun hb4 => by exfalso; exact hb4 rfl) (fun hb4 => ?_)
  refine V_aload_n C dX8_isSame_46 1 rfl ?_
  refine V_callV (r := (RX6, TX6, 8)) C [] dX8_isSame_47 m_X6_certifiedHalls k_X6_certifiedHalls tw_464 rfl rfl rfl PW_b rfl rfl (Nat.le_of_ble_eq_true rfl) ⟨by omega, by omega, by omega, by omega⟩ (p_certifiedHalls (i := 0) hl (by omega) hσ) (kr_RP (x := .int (nI (certs (cH σ) (cN σ)))) (fun tl t lo => ?_)) kx_no
  refine V_aload_n C dX8_isSame_50 0 rfl ?_
  refine V_wd (w' := LSW ad σ σ tl t lo) LW_LS ?_
  refine V_callV (r := (RX8, TX8, 4)) C [] dX8_isSame_51 m_X8_certified k_X8_certified tw_465 rfl rfl rfl SW_b rfl rfl (Nat.le_of_ble_eq_true rfl) ⟨by omega, by omega, by omega, by omega⟩ (s_certified (i := 2) hl (by omega) hσ hI0) (kr_some (x := .int (nI (certs (cH σ) (cN σ)))) ?_) kx_no
  refine V_wd (w' := LW ad σ σ tl t lo) LW_LS.symm ?_
  refine V_icmpn_eq (tgt := 59) C dX8_isSame_54 (by decide) (by omega) (by omega) (fun hb5 => ?_) (fun hb5 => by exfalso; omega)
  refine V_iconst (v := nI 0) C dX8_isSame_59 (by decide) ?_
  refine V_istore_n C [(3, .int (nI 0)), (0, .ref (ad [2])), (1, .ref (ad [0])), (2, .int (nI 1000))] dX8_isSame_60 (by decide) rfl ?_
  refine V_iconst (v := nI 0) C dX8_isSame_61 (by decide) ?_
  refine V_istore C [(4, .int (nI 0)), (3, .int (nI 0)), (0, .ref (ad [2])), (1, .ref (ad [0])), (2, .int (nI 1000))] dX8_isSame_62 (by decide) rfl ?_
  refine V_lv [0, 1, 2, 3, 4] rfl ?_
  refine lp_sm3 (C1 := 1900) (S1 := 14800) C hl hr (by omega) hσ hI0 (by omega) (by omega) (cN σ) 0 tl t lo _ _ (by omega) (by omega) (by omega) (fun tl t lo => ?_)
  refine V_aload_n C dX8_isSame_406 2 rfl ?_
  refine V_callV (r := (RX6, TX6, 8)) C [] dX8_isSame_407 m_X6_meanDamping k_X6_meanDamping tw_507 rfl rfl rfl PW_b rfl rfl (Nat.le_of_ble_eq_true rfl) ⟨by omega, by omega, by omega, by omega⟩ (p_mean (i := 0) hl (by omega) hσ hn) (kr_RP (x := .double (FP.ddiv (FP.i2d (nI (sumD (cH σ) (cN σ)))) (FP.i2d (nI (cN σ))))) (fun tl t lo => ?_)) kx_no
  refine V_aload_n C dX8_isSame_410 1 rfl ?_
  refine V_get (ci := 7) (k := 2) C dX8_isSame_411 RX8 RX8 TX8 4 fw_X8 rfl (by decide) tw_647 rfl rfl ((put_n (by decide)).trans SW_b) rfl ?_
  refine V_alen (v := nI (cN σ)) C dX8_isSame_414 rfl ((put_n (by decide)).trans SW_hr) rfl ?_
  refine V_ifn_ne (tgt := 422) C dX8_isSame_415 (by decide) (by omega) (fun hb6 => ?_) (fun hb6 => by exfalso; omega)
  refine V_iload_n C dX8_isSame_422 0 rfl ?_
  refine V_i2d C dX8_isSame_423 ?_
  refine V_aload_n C dX8_isSame_424 1 rfl ?_
  refine V_get (ci := 7) (k := 2) C dX8_isSame_425 RX8 RX8 TX8 4 fw_X8 rfl (by decide) tw_647 rfl rfl ((put_n (by decide)).trans SW_b) rfl ?_
  refine V_alen (v := nI (cN σ)) C dX8_isSame_428 rfl ((put_n (by decide)).trans SW_hr) rfl ?_
  refine V_i2d C dX8_isSame_429 ?_
  refine V_ddiv C dX8_isSame_430 (by exact mean_ok hsd hn hσ1) ?_
  refine V_dcmp C dX8_isSame_431 ?_
  refine V_if_ne (tgt := 439) C dX8_isSame_432 (by decide) (fun hb7 => by exfalso; exact hb7 (mean_eq hsd hn hσ1)) (fun hb7 => ?_)
  refine V_iconst (v := nI 1) C dX8_isSame_435 (by decide) ?_
  refine V_goto (tgt := 440) C dX8_isSame_436 (by decide) ?_
  exact V_iret C .boolean dX8_isSame_440 hr rfl ⟨rfl, rfl, tl, t, lo, rfl⟩ (by omega) (by omega)
