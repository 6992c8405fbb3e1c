
abbrev mx (x : Int64) (y : Int32) : Int64 := x * 31 + y.toInt64
def mxS (h : HallS) (k : Nat) (x : Int64) : Int64 := mx (mx x (nI (hSu h k).2)) (nI ((hSu h k).1 - hDu h / 5))
/-- a hall, mixed into x -/
def mxH0 (h : HallS) (x : Int64) : Int64 := mx (mx (mx (mx (mx x (nI (hSc h))) (nI (hDm h))) (nI (hDu h))) (hCe h)) (nI (hDy h))
def mxH (h : HallS) (x : Int64) : Int64 := upF (mxS h) (hSc h) (mxH0 h x)
def mxM (S : Nat → StdS) (h : HallS) (q : Nat) (x : Int64) : Int64 := mx x (nI (metW h (S q) (hDm h) (hDu h)))
def mxE0 (h : HallS) (x : Int64) : Int64 := mx (mx (mx (mx x (tly h (nI 1) 1000).1) (tly h (nI 1) 1000).2.2.1) (tly h (nI 1) 1000).2.2.2) (momF (ldz h 1000) 501 0 (nI 0) (-1))
/-- a hall's echoes, mixed into x -/
def mxE (S : Nat → StdS) (K : Nat) (h : HallS) (x : Int64) : Int64 := upF (mxM S h) K (mxE0 h x)
def mxC0 (σ : CS) : Int64 := mx (mx (mx (mx (mx 1871 (nI (cN σ))) (nI (cK σ))) (cDay σ)) (cIns σ)) (nI (certs (cH σ) (cN σ)))
def mxC1 (σ : CS) : Int64 := upF (fun j => mxH (cH σ j)) (cN σ) (mxC0 σ)
/-- the whole bureau in one number -/
def mxC (σ : CS) : Int64 := upF (fun j => mxE (cS σ) (cK σ) (cH σ j)) (cN σ) (mxC1 σ)
section KR
variable {p : Program} {l : Launch} {e : Env} {s : State} {m : MethodId} {args : Array Value} {below : List Frame} {meth : Method} {c : Code} {D : va_G} {ba d mc ms nL npc cells slots : Nat} {ad : Adr} {Q : State → Prop} {lv : List (Nat × Value)} {rest : List Value} {i : Nat} {σ : CS} {o : Wd}
theorem kr_RP {x : Value} (k : ∀ tl t lo, V p l e s m args below meth c D ba d mc ms Q nL ad (PW i ad σ tl t lo o) npc lv (x :: rest) cells slots) : ∀ (v : Option Value) (ad' : Adr) (w' : Wd), RP i ad σ o (some x) v ad' w' → V p l e s m args below meth c D ba d mc ms Q nL ad' w' npc lv (v.toList ++ rest) cells slots := by
  rintro v ad' w' ⟨rfl, rfl, tl, t, lo, rfl⟩
  exact k tl t lo
end KR
set_option maxHeartbeats 4000000 in
theorem lp_mixH {p : Program} {l : Launch} {e : Env} {s : State} {m : MethodId} {args : Array Value} {below : List Frame} {meth : Method} {c : Code} {D : va_G} {ba d mc ms : Nat} {ad : Adr} {QR : Option Value → Adr → Wd → Prop} {QX : String → Adr → Wd → Prop} (C : Cx p l s m args meth c D ba RX6 cX6_mixHall 9 [] d) (hl : l.stackTraces = false) (hr : meth.sig.returnType = (some .long)) (hd : 3 ≤ d) {i : Nat} {σ : CS} {tl : Int32} {t : TT} {lo : Nat → Int32} {o : Wd} (hσ : cOK σ) {j : Nat} (hj : j < cN σ) {x : Int64} (hq : QR (some (.long (mxH (cH σ j) x))) ad (PW i ad σ tl t lo o)) : ∀ (n : Nat) (k : Nat), k + n = 6 → V p l e s m args below meth c D ba d mc ms (MO D ba QR QX below args s mc ms) 9 ad (PW i ad σ tl t lo o) 61 [(7, .int (nI k)), (6, .int (nI 6)), (5, .ref (ad [i, 7, j])), (3, .long (upF (mxS (cH σ j)) (min k (hSc (cH σ j))) (mxH0 (cH σ j) x))), (0, .long x), (2, .ref (ad [i, 6, j]))] [] 0 0 := by
  intro n
  induction n with
  | zero =>
    intro k hk
    have hu := hσ.2.2.1 j hj
    have hu1 := hu.1
    have hu2 := hu.2.1
    have hu3 := hu.2.2.1
    have hu4 := hu.2.2.2.1
    refine V_iload C dX6_mixHall_61 0 rfl ?_
    refine V_iload C dX6_mixHall_63 1 rfl ?_
    refine V_icmpn_ge (tgt := 110) C dX6_mixHall_65 (by decide) (by omega) (by decide) (fun hb1 => ?_) (fun hb1 => by exfalso; omega)
    refine V_lload_n C dX6_mixHall_110 3 rfl ?_
    exact V_lret C dX6_mixHall_111 hr (by rw [upF_x (by omega)]; exact hq) (by omega) (by omega)
  | succ n ih =>
    intro k hk
    have hu := hσ.2.2.1 j hj
    have hu1 := hu.1
    have hu2 := hu.2.1
    have hu3 := hu.2.2.1
    have hu4 := hu.2.2.2.1
    refine V_iload C dX6_mixHall_61 0 rfl ?_
    refine V_iload C dX6_mixHall_63 1 rfl ?_
    refine V_icmpn_ge (tgt := 110) C dX6_mixHall_65 (by decide) (by omega) (by decide) (fun hb1 => by exfalso; omega) (fun hb1 => ?_)
    refine V_aload C dX6_mixHall_68 2 rfl ?_
    refine V_iload C dX6_mixHall_70 0 rfl ?_
    rcases Nat.lt_or_ge k (hSc (cH σ j)) with hks | hks
    · skip
      refine V_aaldn (v := .ref (ad [i, 8, j, k])) C dX6_mixHall_72 rfl (PW_hs hj) (by omega) (by decide) (by rw [adN_lt hks]; rfl) ?_
      refine V_astore C [(8, .ref (ad [i, 8, j, k])), (7, .int (nI k)), (6, .int (nI 6)), (5, .ref (ad [i, 7, j])), (3, .long (upF (mxS (cH σ j)) (min k (hSc (cH σ j))) (mxH0 (cH σ j) x))), (0, .long x), (2, .ref (ad [i, 6, j]))] dX6_mixHall_73 (by decide) rfl ?_
      refine V_aload C dX6_mixHall_75 0 rfl ?_
      refine V_ifnull C dX6_mixHall_77 ?_
      refine V_lload_n C dX6_mixHall_80 4 rfl ?_
      refine V_aload C dX6_mixHall_81 0 rfl ?_
      refine V_getN (ci := 3) (k := 1) C dX6_mixHall_83 RX4 RX4 RX6 TX4 2 fw_X4 rfl (by decide) tw_393 rfl rfl (PW_u hj hks) rfl ?_
      refine V_callS C [.long (upF (mxS (cH σ j)) (min k (hSc (cH σ j))) (mxH0 (cH σ j) x)), .int (nI ((hSu (cH σ j) k).2))] dX6_mixHall_86 m_X6_mix k_X6_mix tw_133 rfl rfl (Nat.le_of_ble_eq_true rfl) ⟨by omega, by omega, by omega, by omega⟩ (c_mix hl (by omega) (upF (mxS (cH σ j)) (min k (hSc (cH σ j))) (mxH0 (cH σ j) x)) (nI ((hSu (cH σ j) k).2))) (kr_some (x := .long (mx (upF (mxS (cH σ j)) (min k (hSc (cH σ j))) (mxH0 (cH σ j) x)) (nI ((hSu (cH σ j) k).2)))) ?_) kx_no
      refine V_lstore_n C [(3, .long (mx (upF (mxS (cH σ j)) (min k (hSc (cH σ j))) (mxH0 (cH σ j) x)) (nI ((hSu (cH σ j) k).2)))), (8, .ref (ad [i, 8, j, k])), (7, .int (nI k)), (6, .int (nI 6)), (5, .ref (ad [i, 7, j])), (0, .long x), (2, .ref (ad [i, 6, j]))] dX6_mixHall_89 (by decide) rfl ?_
      refine V_lload_n C dX6_mixHall_90 0 rfl ?_
      refine V_aload C dX6_mixHall_91 1 rfl ?_
      refine V_aload_n C dX6_mixHall_93 6 rfl ?_
      refine V_getN (ci := 0) (k := 3) C dX6_mixHall_94 RX0 RX0 RX6 TX0 6 fw_X0 rfl (by decide) tw_324 rfl rfl (PW_h hj) rfl ?_
      refine V_callVN (r := (RX4, TX4, 2)) C RX6 [.int (nI (hDu (cH σ j)))] dX6_mixHall_97 m_X4_hardnessUnder k_X4_hardnessUnder tw_140 rfl rfl rfl (PW_u hj hks) rfl rfl (Nat.le_of_ble_eq_true rfl) ⟨by omega, by omega, by omega, by omega⟩ (c_hardUnder hl (by omega) (PW_u hj hks) (hDu (cH σ j)) (hu.2.2.2.2 k hks).1 hu3) (kr_some (x := .int (nI ((hSu (cH σ j) k).1 - hDu (cH σ j) / 5))) ?_) kx_no
      refine V_callS C [.long (mx (upF (mxS (cH σ j)) (min k (hSc (cH σ j))) (mxH0 (cH σ j) x)) (nI ((hSu (cH σ j) k).2))), .int (nI ((hSu (cH σ j) k).1 - hDu (cH σ j) / 5))] dX6_mixHall_100 m_X6_mix k_X6_mix tw_133 rfl rfl (Nat.le_of_ble_eq_true rfl) ⟨by omega, by omega, by omega, by omega⟩ (c_mix hl (by omega) (mx (upF (mxS (cH σ j)) (min k (hSc (cH σ j))) (mxH0 (cH σ j) x)) (nI ((hSu (cH σ j) k).2))) (nI ((hSu (cH σ j) k).1 - hDu (cH σ j) / 5))) (kr_some (x := .long (mx (mx (upF (mxS (cH σ j)) (min k (hSc (cH σ j))) (mxH0 (cH σ j) x)) (nI ((hSu (cH σ j) k).2))) (nI ((hSu (cH σ j) k).1 - hDu (cH σ j) / 5)))) ?_) kx_no
      refine V_lstore_n C [(3, .long (mx (mx (upF (mxS (cH σ j)) (min k (hSc (cH σ j))) (mxH0 (cH σ j) x)) (nI ((hSu (cH σ j) k).2))) (nI ((hSu (cH σ j) k).1 - hDu (cH σ j) / 5)))), (8, .ref (ad [i, 8, j, k])), (7, .int (nI k)), (6, .int (nI 6)), (5, .ref (ad [i, 7, j])), (0, .long x), (2, .ref (ad [i, 6, j]))] dX6_mixHall_103 (by decide) rfl ?_
      refine V_iincn C [(7, .int (nI (k + 1))), (3, .long (mx (mx (upF (mxS (cH σ j)) (min k (hSc (cH σ j))) (mxH0 (cH σ j) x)) (nI ((hSu (cH σ j) k).2))) (nI ((hSu (cH σ j) k).1 - hDu (cH σ j) / 5)))), (8, .ref (ad [i, 8, j, k])), (6, .int (nI 6)), (5, .ref (ad [i, 7, j])), (0, .long x), (2, .ref (ad [i, 6, j]))] dX6_mixHall_104 2 rfl (by decide) rfl ?_
      refine V_goto (tgt := 61) C dX6_mixHall_107 (by decide) ?_
      rw [show mx (mx (upF (mxS (cH σ j)) (min k (hSc (cH σ j))) (mxH0 (cH σ j) x)) (nI ((hSu (cH σ j) k).2))) (nI ((hSu (cH σ j) k).1 - hDu (cH σ j) / 5)) = upF (mxS (cH σ j)) (min (k + 1) (hSc (cH σ j))) (mxH0 (cH σ j) x) from by rw [upF_s hks]; rfl]
      refine V_lv [0, 3, 4, 1, 5, 6] rfl ?_
      exact ih (k + 1) (by omega)
    · skip
      refine V_aaldn (v := .null) C dX6_mixHall_72 rfl (PW_hs hj) (by omega) (by decide) (by rw [adN_ge (Nat.not_lt.mpr hks)]; rfl) ?_
      refine V_astoreN C [(8, .null), (7, .int (nI k)), (6, .int (nI 6)), (5, .ref (ad [i, 7, j])), (3, .long (upF (mxS (cH σ j)) (min k (hSc (cH σ j))) (mxH0 (cH σ j) x))), (0, .long x), (2, .ref (ad [i, 6, j]))] dX6_mixHall_73 (by decide) rfl ?_
      refine V_aloadN C dX6_mixHall_75 0 rfl ?_
      refine V_ifnullN (tgt := 104) C dX6_mixHall_77 (by decide) ?_
      refine V_iincn C [(7, .int (nI (k + 1))), (8, .null), (6, .int (nI 6)), (5, .ref (ad [i, 7, j])), (3, .long (upF (mxS (cH σ j)) (min k (hSc (cH σ j))) (mxH0 (cH σ j) x))), (0, .long x), (2, .ref (ad [i, 6, j]))] dX6_mixHall_104 1 rfl (by decide) rfl ?_
      refine V_goto (tgt := 61) C dX6_mixHall_107 (by decide) ?_
      rw [show upF (mxS (cH σ j)) (min k (hSc (cH σ j))) (mxH0 (cH σ j) x) = upF (mxS (cH σ j)) (min (k + 1) (hSc (cH σ j))) (mxH0 (cH σ j) x) from by rw [upF_e hks]]
      refine V_lv [0, 2, 3, 4, 5, 6] rfl ?_
      exact ih (k + 1) (by omega)
set_option maxHeartbeats 4000000 in
theorem c_mixH {l : Launch} {D : va_G} {ba d : Nat} {ad : Adr} (hl : l.stackTraces = false) (hd : 3 ≤ d) {i : Nat} {σ : CS} {tl : Int32} {t : TT} {lo : Nat → Int32} {o : Wd} (hσ : cOK σ) {j : Nat} (hj : j < cN σ) (x : Int64)  : CT l yX6_mixHall (wsO yX6_mixHall cX6_mixHall 9 (some .long)) d 0 0 D ba [.long x, .ref (ad [i, 6, j])] ad (PW i ad σ tl t lo o) (isR (some (.long (mxH (cH σ j) x))) ad (PW i ad σ tl t lo o)) noX := by
  refine CT_of RX6 rfl (by decide +kernel) hl (Nat.le_of_ble_eq_true rfl) ?_
  intro p e s m args below meth c C hr hnm
  refine V_lvE (lv' := [(0, .long x), (2, .ref (ad [i, 6, j]))]) rfl ?_
  have hu := hσ.2.2.1 j hj
  have hu1 := hu.1
  have hu2 := hu.2.1
  have hu3 := hu.2.2.1
  have hu4 := hu.2.2.2.1
  refine V_lload_n C dX6_mixHall_0 0 rfl ?_
  refine V_lstore_n C [(3, .long x), (0, .long x), (2, .ref (ad [i, 6, j]))] dX6_mixHall_1 (by decide) rfl ?_
  refine V_lload_n C dX6_mixHall_2 0 rfl ?_
  refine V_aload_n C dX6_mixHall_3 2 rfl ?_
  refine V_getN (ci := 0) (k := 1) C dX6_mixHall_4 RX0 RX0 RX6 TX0 6 fw_X0 rfl (by decide) tw_321 rfl rfl (PW_h hj) rfl ?_
  refine V_callS C [.long x, .int (nI (hSc (cH σ j)))] dX6_mixHall_7 m_X6_mix k_X6_mix tw_133 rfl rfl (Nat.le_of_ble_eq_true rfl) ⟨by omega, by omega, by omega, by omega⟩ (c_mix hl (by omega) x (nI (hSc (cH σ j)))) (kr_some (x := .long (mx x (nI (hSc (cH σ j))))) ?_) kx_no
  refine V_lstore_n C [(3, .long (mx x (nI (hSc (cH σ j))))), (0, .long x), (2, .ref (ad [i, 6, j]))] dX6_mixHall_10 (by decide) rfl ?_
  refine V_lload_n C dX6_mixHall_11 0 rfl ?_
  refine V_aload_n C dX6_mixHall_12 2 rfl ?_
  refine V_getN (ci := 0) (k := 2) C dX6_mixHall_13 RX0 RX0 RX6 TX0 6 fw_X0 rfl (by decide) tw_323 rfl rfl (PW_h hj) rfl ?_
  refine V_callS C [.long (mx x (nI (hSc (cH σ j)))), .int (nI (hDm (cH σ j)))] dX6_mixHall_16 m_X6_mix k_X6_mix tw_133 rfl rfl (Nat.le_of_ble_eq_true rfl) ⟨by omega, by omega, by omega, by omega⟩ (c_mix hl (by omega) (mx x (nI (hSc (cH σ j)))) (nI (hDm (cH σ j)))) (kr_some (x := .long (mx (mx x (nI (hSc (cH σ j)))) (nI (hDm (cH σ j))))) ?_) kx_no
  refine V_lstore_n C [(3, .long (mx (mx x (nI (hSc (cH σ j)))) (nI (hDm (cH σ j))))), (0, .long x), (2, .ref (ad [i, 6, j]))] dX6_mixHall_19 (by decide) rfl ?_
  refine V_lload_n C dX6_mixHall_20 0 rfl ?_
  refine V_aload_n C dX6_mixHall_21 2 rfl ?_
  refine V_getN (ci := 0) (k := 3) C dX6_mixHall_22 RX0 RX0 RX6 TX0 6 fw_X0 rfl (by decide) tw_324 rfl rfl (PW_h hj) rfl ?_
  refine V_callS C [.long (mx (mx x (nI (hSc (cH σ j)))) (nI (hDm (cH σ j)))), .int (nI (hDu (cH σ j)))] dX6_mixHall_25 m_X6_mix k_X6_mix tw_133 rfl rfl (Nat.le_of_ble_eq_true rfl) ⟨by omega, by omega, by omega, by omega⟩ (c_mix hl (by omega) (mx (mx x (nI (hSc (cH σ j)))) (nI (hDm (cH σ j)))) (nI (hDu (cH σ j)))) (kr_some (x := .long (mx (mx (mx x (nI (hSc (cH σ j)))) (nI (hDm (cH σ j)))) (nI (hDu (cH σ j))))) ?_) kx_no
  refine V_lstore_n C [(3, .long (mx (mx (mx x (nI (hSc (cH σ j)))) (nI (hDm (cH σ j)))) (nI (hDu (cH σ j))))), (0, .long x), (2, .ref (ad [i, 6, j]))] dX6_mixHall_28 (by decide) rfl ?_
  refine V_lload_n C dX6_mixHall_29 0 rfl ?_
  refine V_aload_n C dX6_mixHall_30 2 rfl ?_
  refine V_getN (ci := 0) (k := 4) C dX6_mixHall_31 RX0 RX0 RX6 TX0 6 fw_X0 rfl (by decide) tw_327 rfl rfl (PW_h hj) rfl ?_
  refine V_callS C [.long (mx (mx (mx x (nI (hSc (cH σ j)))) (nI (hDm (cH σ j)))) (nI (hDu (cH σ j)))), .int (hCe (cH σ j))] dX6_mixHall_34 m_X6_mix k_X6_mix tw_133 rfl rfl (Nat.le_of_ble_eq_true rfl) ⟨by omega, by omega, by omega, by omega⟩ (c_mix hl (by omega) (mx (mx (mx x (nI (hSc (cH σ j)))) (nI (hDm (cH σ j)))) (nI (hDu (cH σ j)))) (hCe (cH σ j))) (kr_some (x := .long (mx (mx (mx (mx x (nI (hSc (cH σ j)))) (nI (hDm (cH σ j)))) (nI (hDu (cH σ j)))) (hCe (cH σ j)))) ?_) kx_no
  refine V_lstore_n C [(3, .long (mx (mx (mx (mx x (nI (hSc (cH σ j)))) (nI (hDm (cH σ j)))) (nI (hDu (cH σ j)))) (hCe (cH σ j)))), (0, .long x), (2, .ref (ad [i, 6, j]))] dX6_mixHall_37 (by decide) rfl ?_
  refine V_lload_n C dX6_mixHall_38 0 rfl ?_
  refine V_aload_n C dX6_mixHall_39 2 rfl ?_
  refine V_getN (ci := 0) (k := 5) C dX6_mixHall_40 RX0 RX0 RX6 TX0 6 fw_X0 rfl (by decide) tw_329 rfl rfl (PW_h hj) rfl ?_
  refine V_callS C [.long (mx (mx (mx (mx x (nI (hSc (cH σ j)))) (nI (hDm (cH σ j)))) (nI (hDu (cH σ j)))) (hCe (cH σ j))), .int (nI (hDy (cH σ j)))] dX6_mixHall_43 m_X6_mix k_X6_mix tw_133 rfl rfl (Nat.le_of_ble_eq_true rfl) ⟨by omega, by omega, by omega, by omega⟩ (c_mix hl (by omega) (mx (mx (mx (mx x (nI (hSc (cH σ j)))) (nI (hDm (cH σ j)))) (nI (hDu (cH σ j)))) (hCe (cH σ j))) (nI (hDy (cH σ j)))) (kr_some (x := .long (mx (mx (mx (mx (mx x (nI (hSc (cH σ j)))) (nI (hDm (cH σ j)))) (nI (hDu (cH σ j)))) (hCe (cH σ j))) (nI (hDy (cH σ j))))) ?_) kx_no
  refine V_lstore_n C [(3, .long (mx (mx (mx (mx (mx x (nI (hSc (cH σ j)))) (nI (hDm (cH σ j)))) (nI (hDu (cH σ j)))) (hCe (cH σ j))) (nI (hDy (cH σ j))))), (0, .long x), (2, .ref (ad [i, 6, j]))] dX6_mixHall_46 (by decide) rfl ?_
  refine V_aload_n C dX6_mixHall_47 2 rfl ?_
  refine V_getN (ci := 0) (k := 0) C dX6_mixHall_48 RX0 RX0 RX6 TX0 6 fw_X0 rfl (by decide) tw_319 rfl rfl (PW_h hj) rfl ?_
  refine V_astore C [(5, .ref (ad [i, 7, j])), (3, .long (mx (mx (mx (mx (mx x (nI (hSc (cH σ j)))) (nI (hDm (cH σ j)))) (nI (hDu (cH σ j)))) (hCe (cH σ j))) (nI (hDy (cH σ j))))), (0, .long x), (2, .ref (ad [i, 6, j]))] dX6_mixHall_51 (by decide) rfl ?_
  refine V_aload C dX6_mixHall_53 0 rfl ?_
  refine V_alen (v := nI 6) C dX6_mixHall_55 rfl (PW_hs hj) rfl ?_
  refine V_istore C [(6, .int (nI 6)), (5, .ref (ad [i, 7, j])), (3, .long (mx (mx (mx (mx (mx x (nI (hSc (cH σ j)))) (nI (hDm (cH σ j)))) (nI (hDu (cH σ j)))) (hCe (cH σ j))) (nI (hDy (cH σ j))))), (0, .long x), (2, .ref (ad [i, 6, j]))] dX6_mixHall_56 (by decide) rfl ?_
  refine V_iconst (v := nI 0) C dX6_mixHall_58 (by decide) ?_
  refine V_istore C [(7, .int (nI 0)), (6, .int (nI 6)), (5, .ref (ad [i, 7, j])), (3, .long (mx (mx (mx (mx (mx x (nI (hSc (cH σ j)))) (nI (hDm (cH σ j)))) (nI (hDu (cH σ j)))) (hCe (cH σ j))) (nI (hDy (cH σ j))))), (0, .long x), (2, .ref (ad [i, 6, j]))] dX6_mixHall_59 (by decide) rfl ?_
  rw [show mx (mx (mx (mx (mx x (nI (hSc (cH σ j)))) (nI (hDm (cH σ j)))) (nI (hDu (cH σ j)))) (hCe (cH σ j))) (nI (hDy (cH σ j))) = mxH0 (cH σ j) x from rfl]
  refine V_lv [0, 1, 2, 3, 4, 5] rfl ?_
  have K := lp_mixH (QR := isR (some (.long (mxH (cH σ j) x))) ad (PW i ad σ tl t lo o)) (QX := noX) (mc := 0) (ms := 0) (e := e) (below := below) C hl hr (by omega) hσ hj ⟨rfl, rfl, rfl⟩ 6 0 (by omega)
  rw [Nat.zero_min] at K
  exact K
set_option maxHeartbeats 4000000 in
theorem lp_mixE {p : Program} {l : Launch} {e : Env} {s : State} {m : MethodId} {args : Array Value} {below : List Frame} {meth : Method} {c : Code} {D : va_G} {ba d mc ms : Nat} {ad : Adr} {QR : Option Value → Adr → Wd → Prop} {QX : String → Adr → Wd → Prop} (C : Cx p l s m args meth c D ba RX6 cX6_mixEchoes 11 [] d) (hl : l.stackTraces = false) (hr : meth.sig.returnType = (some .long)) (hd : 8 ≤ d) {i : Nat} {σ : CS} {lo : Nat → Int32} {o : Wd} (hσ : cOK σ) {j : Nat} (hj : j < cN σ) {x : Int64} (hq1 : ∀ tl t, QR (some (.long (mxE (cS σ) (cK σ) (cH σ j) x))) ad (PW i ad σ tl t lo o)) : ∀ (n : Nat) (k : Nat) (tl : Int32) (t : TT), k + n = 5 → V p l e s m args below meth c D ba d mc ms (MO D ba QR QX below args s mc ms) 11 ad (PW i ad σ tl t lo o) 82 [(9, .int (nI k)), (8, .int (nI 5)), (7, .ref (ad [i, 2])), (4, .long (upF (mxM (cS σ) (cH σ j)) (min k (cK σ)) (mxE0 (cH σ j) x))), (0, .ref (ad [i])), (3, .ref (ad [i, 6, j]))] [] 0 0 := by
  intro n
  induction n with
  | zero =>
    intro k tl t hk
    have hu := hσ.2.2.1 j hj
    have hu1 := hu.1
    have hu2 := hu.2.1
    have hu3 := hu.2.2.1
    have hu4 := hu.2.2.2.1
    have hσ2 := hσ.2.1
    refine V_iload C dX6_mixEchoes_82 0 rfl ?_
    refine V_iload C dX6_mixEchoes_84 1 rfl ?_
    refine V_icmpn_ge (tgt := 129) C dX6_mixEchoes_86 (by decide) (by omega) (by decide) (fun hb1 => ?_) (fun hb1 => by exfalso; omega)
    refine V_lload C dX6_mixEchoes_129 3 rfl ?_
    exact V_lret C dX6_mixEchoes_131 hr (by rw [upF_x (by omega)]; exact hq1 _ _) (by omega) (by omega)
  | succ n ih =>
    intro k tl t hk
    have hu := hσ.2.2.1 j hj
    have hu1 := hu.1
    have hu2 := hu.2.1
    have hu3 := hu.2.2.1
    have hu4 := hu.2.2.2.1
    have hσ2 := hσ.2.1
    refine V_iload C dX6_mixEchoes_82 0 rfl ?_
    refine V_iload C dX6_mixEchoes_84 1 rfl ?_
    refine V_icmpn_ge (tgt := 129) C dX6_mixEchoes_86 (by decide) (by omega) (by decide) (fun hb1 => by exfalso; omega) (fun hb1 => ?_)
    refine V_aload C dX6_mixEchoes_89 2 rfl ?_
    refine V_iload C dX6_mixEchoes_91 0 rfl ?_
    rcases Nat.lt_or_ge k (cK σ) with hks | hks
    · skip
      refine V_aaldn (v := .ref (ad [i, 9, k])) C dX6_mixEchoes_93 rfl PW_sr (by omega) (by decide) (by rw [adN_lt hks]; rfl) ?_
      refine V_astore C [(10, .ref (ad [i, 9, k])), (9, .int (nI k)), (8, .int (nI 5)), (7, .ref (ad [i, 2])), (4, .long (upF (mxM (cS σ) (cH σ j)) (min k (cK σ)) (mxE0 (cH σ j) x))), (0, .ref (ad [i])), (3, .ref (ad [i, 6, j]))] dX6_mixEchoes_94 (by decide) rfl ?_
      refine V_aload C dX6_mixEchoes_96 0 rfl ?_
      refine V_ifnull C dX6_mixEchoes_98 ?_
      refine V_lload C dX6_mixEchoes_101 4 rfl ?_
      refine V_aload_n C dX6_mixEchoes_103 5 rfl ?_
      refine V_aload_n C dX6_mixEchoes_104 6 rfl ?_
      refine V_aload C dX6_mixEchoes_105 0 rfl ?_
      have hmle := metW_le (cH σ j) (cS σ k) (hDm (cH σ j)) (hDu (cH σ j))
      refine V_callV (r := (RX6, TX6, 8)) C [.ref (ad [i, 6, j]), .ref (ad [i, 9, k])] dX6_mixEchoes_107 m_X6_meetsNow k_X6_meetsNow tw_200 rfl rfl rfl PW_b rfl rfl (Nat.le_of_ble_eq_true rfl) ⟨by omega, by omega, by omega, by omega⟩ (c_meetsNow hl (by omega) hσ hj hks) (kr_some (x := .int (nI (metW (cH σ j) (cS σ k) (hDm (cH σ j)) (hDu (cH σ j))))) ?_) kx_no
      refine V_ifn_eq (tgt := 117) C dX6_mixEchoes_110 (by decide) (by omega) (fun hb2 => ?_) (fun hb2 => ?_)
      · skip
        refine V_iconst (v := nI 0) C dX6_mixEchoes_117 (by decide) ?_
        refine V_callS C [.long (upF (mxM (cS σ) (cH σ j)) (min k (cK σ)) (mxE0 (cH σ j) x)), .int (nI 0)] dX6_mixEchoes_118 m_X6_mix k_X6_mix tw_133 rfl rfl (Nat.le_of_ble_eq_true rfl) ⟨by omega, by omega, by omega, by omega⟩ (c_mix hl (by omega) (upF (mxM (cS σ) (cH σ j)) (min k (cK σ)) (mxE0 (cH σ j) x)) (nI 0)) (kr_some (x := .long (mx (upF (mxM (cS σ) (cH σ j)) (min k (cK σ)) (mxE0 (cH σ j) x)) (nI 0))) ?_) kx_no
        refine V_lstore C [(4, .long (mx (upF (mxM (cS σ) (cH σ j)) (min k (cK σ)) (mxE0 (cH σ j) x)) (nI 0))), (10, .ref (ad [i, 9, k])), (9, .int (nI k)), (8, .int (nI 5)), (7, .ref (ad [i, 2])), (0, .ref (ad [i])), (3, .ref (ad [i, 6, j]))] dX6_mixEchoes_121 (by decide) rfl ?_
        refine V_iincn C [(9, .int (nI (k + 1))), (4, .long (mx (upF (mxM (cS σ) (cH σ j)) (min k (cK σ)) (mxE0 (cH σ j) x)) (nI 0))), (10, .ref (ad [i, 9, k])), (8, .int (nI 5)), (7, .ref (ad [i, 2])), (0, .ref (ad [i])), (3, .ref (ad [i, 6, j]))] dX6_mixEchoes_123 2 rfl (by decide) rfl ?_
        refine V_goto (tgt := 82) C dX6_mixEchoes_126 (by decide) ?_
        rw [show mx (upF (mxM (cS σ) (cH σ j)) (min k (cK σ)) (mxE0 (cH σ j) x)) (nI 0) = upF (mxM (cS σ) (cH σ j)) (min (k + 1) (cK σ)) (mxE0 (cH σ j) x) from by rw [upF_s hks]; show _ = mx _ (nI (metW (cH σ j) (cS σ k) (hDm (cH σ j)) (hDu (cH σ j)))); rw [show metW (cH σ j) (cS σ k) (hDm (cH σ j)) (hDu (cH σ j)) = 0 by omega]]
        refine V_lv [0, 3, 4, 1, 5, 6] rfl ?_
        exact ih (k + 1) _ _ (by omega)
      · skip
        refine V_iconst (v := nI 1) C dX6_mixEchoes_113 (by decide) ?_
        refine V_goto (tgt := 118) C dX6_mixEchoes_114 (by decide) ?_
        refine V_callS C [.long (upF (mxM (cS σ) (cH σ j)) (min k (cK σ)) (mxE0 (cH σ j) x)), .int (nI 1)] dX6_mixEchoes_118 m_X6_mix k_X6_mix tw_133 rfl rfl (Nat.le_of_ble_eq_true rfl) ⟨by omega, by omega, by omega, by omega⟩ (c_mix hl (by omega) (upF (mxM (cS σ) (cH σ j)) (min k (cK σ)) (mxE0 (cH σ j) x)) (nI 1)) (kr_some (x := .long (mx (upF (mxM (cS σ) (cH σ j)) (min k (cK σ)) (mxE0 (cH σ j) x)) (nI 1))) ?_) kx_no
        refine V_lstore C [(4, .long (mx (upF (mxM (cS σ) (cH σ j)) (min k (cK σ)) (mxE0 (cH σ j) x)) (nI 1))), (10, .ref (ad [i, 9, k])), (9, .int (nI k)), (8, .int (nI 5)), (7, .ref (ad [i, 2])), (0, .ref (ad [i])), (3, .ref (ad [i, 6, j]))] dX6_mixEchoes_121 (by decide) rfl ?_
        refine V_iincn C [(9, .int (nI (k + 1))), (4, .long (mx (upF (mxM (cS σ) (cH σ j)) (min k (cK σ)) (mxE0 (cH σ j) x)) (nI 1))), (10, .ref (ad [i, 9, k])), (8, .int (nI 5)), (7, .ref (ad [i, 2])), (0, .ref (ad [i])), (3, .ref (ad [i, 6, j]))] dX6_mixEchoes_123 2 rfl (by decide) rfl ?_
        refine V_goto (tgt := 82) C dX6_mixEchoes_126 (by decide) ?_
        rw [show mx (upF (mxM (cS σ) (cH σ j)) (min k (cK σ)) (mxE0 (cH σ j) x)) (nI 1) = upF (mxM (cS σ) (cH σ j)) (min (k + 1) (cK σ)) (mxE0 (cH σ j) x) from by rw [upF_s hks]; show _ = mx _ (nI (metW (cH σ j) (cS σ k) (hDm (cH σ j)) (hDu (cH σ j)))); rw [show metW (cH σ j) (cS σ k) (hDm (cH σ j)) (hDu (cH σ j)) = 1 by omega]]
        refine V_lv [0, 3, 4, 1, 5, 6] rfl ?_
        exact ih (k + 1) _ _ (by omega)
    · skip
      refine V_aaldn (v := .null) C dX6_mixEchoes_93 rfl PW_sr (by omega) (by decide) (by rw [adN_ge (Nat.not_lt.mpr hks)]; rfl) ?_
      refine V_astoreN C [(10, .null), (9, .int (nI k)), (8, .int (nI 5)), (7, .ref (ad [i, 2])), (4, .long (upF (mxM (cS σ) (cH σ j)) (min k (cK σ)) (mxE0 (cH σ j) x))), (0, .ref (ad [i])), (3, .ref (ad [i, 6, j]))] dX6_mixEchoes_94 (by decide) rfl ?_
      refine V_aloadN C dX6_mixEchoes_96 0 rfl ?_
      refine V_ifnullN (tgt := 123) C dX6_mixEchoes_98 (by decide) ?_
      refine V_iincn C [(9, .int (nI (k + 1))), (10, .null), (8, .int (nI 5)), (7, .ref (ad [i, 2])), (4, .long (upF (mxM (cS σ) (cH σ j)) (min k (cK σ)) (mxE0 (cH σ j) x))), (0, .ref (ad [i])), (3, .ref (ad [i, 6, j]))] dX6_mixEchoes_123 1 rfl (by decide) rfl ?_
      refine V_goto (tgt := 82) C dX6_mixEchoes_126 (by decide) ?_
      rw [show upF (mxM (cS σ) (cH σ j)) (min k (cK σ)) (mxE0 (cH σ j) x) = upF (mxM (cS σ) (cH σ j)) (min (k + 1) (cK σ)) (mxE0 (cH σ j) x) from by rw [upF_e hks]]
      refine V_lv [0, 2, 3, 4, 5, 6] rfl ?_
      exact ih (k + 1) _ _ (by omega)
set_option maxHeartbeats 4000000 in
theorem c_mixE {l : Launch} {D : va_G} {ba d : Nat} {ad : Adr} (hl : l.stackTraces = false) (hd : 8 ≤ d) {i : Nat} {σ : CS} {tl : Int32} {t : TT} {lo : Nat → Int32} {o : Wd} (hσ : cOK σ) {j : Nat} (hj : j < cN σ) (x : Int64)  : CT l yX6_mixEchoes (wsO yX6_mixEchoes cX6_mixEchoes 11 (some .long)) d 0 0 D ba [.ref (ad [i]), .long x, .ref (ad [i, 6, j])] ad (PW i ad σ tl t lo o) (RP i ad σ o (some (.long (mxE (cS σ) (cK σ) (cH σ j) x)))) noX := by
  refine CT_of RX6 rfl (by decide +kernel) hl (Nat.le_of_ble_eq_true rfl) ?_
  intro p e s m args below meth c C hr hnm
  refine V_lvE (lv' := [(0, .ref (ad [i])), (1, .long x), (3, .ref (ad [i, 6, j]))]) rfl ?_
  have hu := hσ.2.2.1 j hj
  have hu1 := hu.1
  have hu2 := hu.2.1
  have hu3 := hu.2.2.1
  have hu4 := hu.2.2.2.1
  have hσ2 := hσ.2.1
  refine V_lload_n C dX6_mixEchoes_0 1 rfl ?_
  refine V_lstore C [(4, .long x), (0, .ref (ad [i])), (1, .long x), (3, .ref (ad [i, 6, j]))] dX6_mixEchoes_1 (by decide) rfl ?_
  refine V_aload_n C dX6_mixEchoes_3 1 rfl ?_
  refine V_aload_n C dX6_mixEchoes_4 3 rfl ?_
  refine V_sipush (v := nI 1000) C dX6_mixEchoes_5 (by decide) ?_
  refine V_iconst (v := nI 1) C dX6_mixEchoes_8 (by decide) ?_
  refine V_callV (r := (RX6, TX6, 8)) C [.ref (ad [i, 6, j]), .int (nI 1000), .int (nI 1)] dX6_mixEchoes_9 m_X6_tallyOf k_X6_tallyOf tw_152 rfl rfl rfl PW_b rfl rfl (Nat.le_of_ble_eq_true rfl) ⟨by omega, by omega, by omega, by omega⟩ (c_tallyOf hl (by omega) hσ hj (by omega) (nI 1)) (kr_some (x := .ref (ad [i, 3])) ?_) kx_no
  refine V_astore C [(6, .ref (ad [i, 3])), (4, .long x), (0, .ref (ad [i])), (1, .long x), (3, .ref (ad [i, 6, j]))] dX6_mixEchoes_12 (by decide) rfl ?_
  refine V_lload C dX6_mixEchoes_14 1 rfl ?_
  refine V_aload C dX6_mixEchoes_16 0 rfl ?_
  refine V_getN (ci := 4) (k := 1) C dX6_mixEchoes_18 RX5 RX5 RX6 TX5 5 fw_X5 rfl (by decide) tw_38 rfl rfl PW_t rfl ?_
  refine V_callS C [.long x, .int ((tly (cH σ j) (nI 1) 1000).1)] dX6_mixEchoes_21 m_X6_mix k_X6_mix tw_133 rfl rfl (Nat.le_of_ble_eq_true rfl) ⟨by omega, by omega, by omega, by omega⟩ (c_mix hl (by omega) x ((tly (cH σ j) (nI 1) 1000).1)) (kr_some (x := .long (mx x ((tly (cH σ j) (nI 1) 1000).1))) ?_) kx_no
  refine V_lstore C [(4, .long (mx x ((tly (cH σ j) (nI 1) 1000).1))), (6, .ref (ad [i, 3])), (0, .ref (ad [i])), (1, .long x), (3, .ref (ad [i, 6, j]))] dX6_mixEchoes_24 (by decide) rfl ?_
  refine V_lload C dX6_mixEchoes_26 0 rfl ?_
  refine V_aload C dX6_mixEchoes_28 1 rfl ?_
  refine V_getN (ci := 4) (k := 3) C dX6_mixEchoes_30 RX5 RX5 RX6 TX5 5 fw_X5 rfl (by decide) tw_44 rfl rfl PW_t rfl ?_
  refine V_callS C [.long (mx x ((tly (cH σ j) (nI 1) 1000).1)), .int ((tly (cH σ j) (nI 1) 1000).2.2.1)] dX6_mixEchoes_33 m_X6_mix k_X6_mix tw_133 rfl rfl (Nat.le_of_ble_eq_true rfl) ⟨by omega, by omega, by omega, by omega⟩ (c_mix hl (by omega) (mx x ((tly (cH σ j) (nI 1) 1000).1)) ((tly (cH σ j) (nI 1) 1000).2.2.1)) (kr_some (x := .long (mx (mx x ((tly (cH σ j) (nI 1) 1000).1)) ((tly (cH σ j) (nI 1) 1000).2.2.1))) ?_) kx_no
  refine V_lstore C [(4, .long (mx (mx x ((tly (cH σ j) (nI 1) 1000).1)) ((tly (cH σ j) (nI 1) 1000).2.2.1))), (6, .ref (ad [i, 3])), (0, .ref (ad [i])), (1, .long x), (3, .ref (ad [i, 6, j]))] dX6_mixEchoes_36 (by decide) rfl ?_
  refine V_lload C dX6_mixEchoes_38 0 rfl ?_
  refine V_aload C dX6_mixEchoes_40 1 rfl ?_
  refine V_getN (ci := 4) (k := 4) C dX6_mixEchoes_42 RX5 RX5 RX6 TX5 5 fw_X5 rfl (by decide) tw_47 rfl rfl PW_t rfl ?_
  refine V_callS C [.long (mx (mx x ((tly (cH σ j) (nI 1) 1000).1)) ((tly (cH σ j) (nI 1) 1000).2.2.1)), .int ((tly (cH σ j) (nI 1) 1000).2.2.2)] dX6_mixEchoes_45 m_X6_mix k_X6_mix tw_133 rfl rfl (Nat.le_of_ble_eq_true rfl) ⟨by omega, by omega, by omega, by omega⟩ (c_mix hl (by omega) (mx (mx x ((tly (cH σ j) (nI 1) 1000).1)) ((tly (cH σ j) (nI 1) 1000).2.2.1)) ((tly (cH σ j) (nI 1) 1000).2.2.2)) (kr_some (x := .long (mx (mx (mx x ((tly (cH σ j) (nI 1) 1000).1)) ((tly (cH σ j) (nI 1) 1000).2.2.1)) ((tly (cH σ j) (nI 1) 1000).2.2.2))) ?_) kx_no
  refine V_lstore C [(4, .long (mx (mx (mx x ((tly (cH σ j) (nI 1) 1000).1)) ((tly (cH σ j) (nI 1) 1000).2.2.1)) ((tly (cH σ j) (nI 1) 1000).2.2.2))), (6, .ref (ad [i, 3])), (0, .ref (ad [i])), (1, .long x), (3, .ref (ad [i, 6, j]))] dX6_mixEchoes_48 (by decide) rfl ?_
  refine V_lload C dX6_mixEchoes_50 0 rfl ?_
  refine V_aload_n C dX6_mixEchoes_52 2 rfl ?_
  refine V_aload_n C dX6_mixEchoes_53 4 rfl ?_
  refine V_sipush (v := nI 1000) C dX6_mixEchoes_54 (by decide) ?_
  refine V_callV (r := (RX6, TX6, 8)) C [.ref (ad [i, 6, j]), .int (nI 1000)] dX6_mixEchoes_57 m_X6_loudnessesOf k_X6_loudnessesOf tw_185 rfl rfl rfl PW_b rfl rfl (Nat.le_of_ble_eq_true rfl) ⟨by omega, by omega, by omega, by omega⟩ (c_loudOf hl (by omega) hσ hj (by omega)) (kr_some (x := .ref (ad [i, 4])) ?_) kx_no
  refine V_callVN (r := (RX2, TX2, 1)) C RX6 [] dX6_mixEchoes_60 m_X2_momentOfMost k_X2_momentOfMost tw_196 rfl rfl rfl PW_l rfl rfl (Nat.le_of_ble_eq_true rfl) ⟨by omega, by omega, by omega, by omega⟩ (c_mom hl (by omega) PW_l PW_a) (kr_some (x := .int (momF (lds lo (cH σ j) 1000) 501 0 (nI 0) (-1))) ?_) kx_no
  refine V_callS C [.long (mx (mx (mx x ((tly (cH σ j) (nI 1) 1000).1)) ((tly (cH σ j) (nI 1) 1000).2.2.1)) ((tly (cH σ j) (nI 1) 1000).2.2.2)), .int (momF (lds lo (cH σ j) 1000) 501 0 (nI 0) (-1))] dX6_mixEchoes_63 m_X6_mix k_X6_mix tw_133 rfl rfl (Nat.le_of_ble_eq_true rfl) ⟨by omega, by omega, by omega, by omega⟩ (c_mix hl (by omega) (mx (mx (mx x ((tly (cH σ j) (nI 1) 1000).1)) ((tly (cH σ j) (nI 1) 1000).2.2.1)) ((tly (cH σ j) (nI 1) 1000).2.2.2)) (momF (lds lo (cH σ j) 1000) 501 0 (nI 0) (-1))) (kr_some (x := .long (mx (mx (mx (mx x ((tly (cH σ j) (nI 1) 1000).1)) ((tly (cH σ j) (nI 1) 1000).2.2.1)) ((tly (cH σ j) (nI 1) 1000).2.2.2)) (momF (lds lo (cH σ j) 1000) 501 0 (nI 0) (-1)))) ?_) kx_no
  refine V_lstore C [(4, .long (mx (mx (mx (mx x ((tly (cH σ j) (nI 1) 1000).1)) ((tly (cH σ j) (nI 1) 1000).2.2.1)) ((tly (cH σ j) (nI 1) 1000).2.2.2)) (momF (lds lo (cH σ j) 1000) 501 0 (nI 0) (-1)))), (6, .ref (ad [i, 3])), (0, .ref (ad [i])), (1, .long x), (3, .ref (ad [i, 6, j]))] dX6_mixEchoes_66 (by decide) rfl ?_
  refine V_aload_n C dX6_mixEchoes_68 2 rfl ?_
  refine V_get (ci := 5) (k := 1) C dX6_mixEchoes_69 RX6 RX6 TX6 8 fw_X6 rfl (by decide) tw_71 rfl rfl PW_b rfl ?_
  refine V_astore C [(7, .ref (ad [i, 2])), (4, .long (mx (mx (mx (mx x ((tly (cH σ j) (nI 1) 1000).1)) ((tly (cH σ j) (nI 1) 1000).2.2.1)) ((tly (cH σ j) (nI 1) 1000).2.2.2)) (momF (lds lo (cH σ j) 1000) 501 0 (nI 0) (-1)))), (6, .ref (ad [i, 3])), (0, .ref (ad [i])), (1, .long x), (3, .ref (ad [i, 6, j]))] dX6_mixEchoes_72 (by decide) rfl ?_
  refine V_aload C dX6_mixEchoes_74 0 rfl ?_
  refine V_alen (v := nI 5) C dX6_mixEchoes_76 rfl PW_sr rfl ?_
  refine V_istore C [(8, .int (nI 5)), (7, .ref (ad [i, 2])), (4, .long (mx (mx (mx (mx x ((tly (cH σ j) (nI 1) 1000).1)) ((tly (cH σ j) (nI 1) 1000).2.2.1)) ((tly (cH σ j) (nI 1) 1000).2.2.2)) (momF (lds lo (cH σ j) 1000) 501 0 (nI 0) (-1)))), (6, .ref (ad [i, 3])), (0, .ref (ad [i])), (1, .long x), (3, .ref (ad [i, 6, j]))] dX6_mixEchoes_77 (by decide) rfl ?_
  refine V_iconst (v := nI 0) C dX6_mixEchoes_79 (by decide) ?_
  refine V_istore C [(9, .int (nI 0)), (8, .int (nI 5)), (7, .ref (ad [i, 2])), (4, .long (mx (mx (mx (mx x ((tly (cH σ j) (nI 1) 1000).1)) ((tly (cH σ j) (nI 1) 1000).2.2.1)) ((tly (cH σ j) (nI 1) 1000).2.2.2)) (momF (lds lo (cH σ j) 1000) 501 0 (nI 0) (-1)))), (6, .ref (ad [i, 3])), (0, .ref (ad [i])), (1, .long x), (3, .ref (ad [i, 6, j]))] dX6_mixEchoes_80 (by decide) rfl ?_
  rw [show mx (mx (mx (mx x ((tly (cH σ j) (nI 1) 1000).1)) ((tly (cH σ j) (nI 1) 1000).2.2.1)) ((tly (cH σ j) (nI 1) 1000).2.2.2)) (momF (lds lo (cH σ j) 1000) 501 0 (nI 0) (-1)) = mxE0 (cH σ j) x from by rw [mom_z]; rfl]
  refine V_lv [0, 1, 2, 3, 5, 7] rfl ?_
  have K := lp_mixE (QR := (RP i ad σ o (some (.long (mxE (cS σ) (cK σ) (cH σ j) x))))) (QX := noX) (mc := 0) (ms := 0) (e := e) (below := below) (lo := lds lo (cH σ j) 1000) C hl hr (by omega) hσ hj (fun _ _ => ⟨rfl, rfl, _, _, _, rfl⟩) 5 0 (nI 1) (tly (cH σ j) (nI 1) 1000) (by omega)
  rw [Nat.zero_min] at K
  exact K
set_option maxHeartbeats 4000000 in
theorem lp_dig2 {p : Program} {l : Launch} {e : Env} {s : State} {m : MethodId} {args : Array Value} {below : List Frame} {meth : Method} {c : Code} {D : va_G} {ba d mc ms : Nat} {ad : Adr} {QR : Option Value → Adr → Wd → Prop} {QX : String → Adr → Wd → Prop} (C : Cx p l s m args meth c D ba RX6 cX6_digest 7 [] d) (hl : l.stackTraces = false) (hr : meth.sig.returnType = (some .long)) (hd : 9 ≤ d) {i : Nat} {σ : CS} {o : Wd} (hσ : cOK σ) (hq1 : ∀ tl t lo, QR (some (.long (mxC σ))) ad (PW i ad σ tl t lo o)) : ∀ (n : Nat) (k : Nat) (tl : Int32) (t : TT) (lo : Nat → Int32), k + n = 8 → V p l e s m args below meth c D ba d mc ms (MO D ba QR QX below args s mc ms) 7 ad (PW i ad σ tl t lo o) 104 [(5, .int (nI k)), (4, .int (nI 8)), (3, .ref (ad [i, 1])), (1, .long (upF (fun j => mxE (cS σ) (cK σ) (cH σ j)) (min k (cN σ)) (mxC1 σ))), (0, .ref (ad [i]))] [] 0 0 := by
  intro n
  induction n with
  | zero =>
    intro k tl t lo hk
    have hσ1 := hσ.1
    refine V_iload C dX6_digest_104 0 rfl ?_
    refine V_iload C dX6_digest_106 1 rfl ?_
    refine V_icmpn_ge (tgt := 136) C dX6_digest_108 (by decide) (by omega) (by decide) (fun hb1 => ?_) (fun hb1 => by exfalso; omega)
    refine V_lload_n C dX6_digest_136 3 rfl ?_
    exact V_lret C dX6_digest_137 hr (by rw [upF_x (by omega)]; exact hq1 _ _ _) (by omega) (by omega)
  | succ n ih =>
    intro k tl t lo hk
    have hσ1 := hσ.1
    refine V_iload C dX6_digest_104 0 rfl ?_
    refine V_iload C dX6_digest_106 1 rfl ?_
    refine V_icmpn_ge (tgt := 136) C dX6_digest_108 (by decide) (by omega) (by decide) (fun hb1 => by exfalso; omega) (fun hb1 => ?_)
    refine V_aload_n C dX6_digest_111 2 rfl ?_
    refine V_iload C dX6_digest_112 0 rfl ?_
    rcases Nat.lt_or_ge k (cN σ) with hks | hks
    · skip
      refine V_aaldn (v := .ref (ad [i, 6, k])) C dX6_digest_114 rfl PW_hr (by omega) (by decide) (by rw [adN_lt hks]; rfl) ?_
      refine V_astore C [(6, .ref (ad [i, 6, k])), (5, .int (nI k)), (4, .int (nI 8)), (3, .ref (ad [i, 1])), (1, .long (upF (fun j => mxE (cS σ) (cK σ) (cH σ j)) (min k (cN σ)) (mxC1 σ))), (0, .ref (ad [i]))] dX6_digest_115 (by decide) rfl ?_
      refine V_aload C dX6_digest_117 0 rfl ?_
      refine V_ifnull C dX6_digest_119 ?_
      refine V_aload_n C dX6_digest_122 5 rfl ?_
      refine V_lload_n C dX6_digest_123 4 rfl ?_
      refine V_aload C dX6_digest_124 0 rfl ?_
      refine V_callV (r := (RX6, TX6, 8)) C [.long (upF (fun j => mxE (cS σ) (cK σ) (cH σ j)) (min k (cN σ)) (mxC1 σ)), .ref (ad [i, 6, k])] dX6_digest_126 m_X6_mixEchoes k_X6_mixEchoes tw_148 rfl rfl rfl PW_b rfl rfl (Nat.le_of_ble_eq_true rfl) ⟨by omega, by omega, by omega, by omega⟩ (c_mixE hl (by omega) hσ hks (upF (fun j => mxE (cS σ) (cK σ) (cH σ j)) (min k (cN σ)) (mxC1 σ))) (kr_RP (x := .long (mxE (cS σ) (cK σ) (cH σ k) (upF (fun j => mxE (cS σ) (cK σ) (cH σ j)) (min k (cN σ)) (mxC1 σ)))) (fun tl t lo => ?_)) kx_no
      refine V_lstore_n C [(1, .long (mxE (cS σ) (cK σ) (cH σ k) (upF (fun j => mxE (cS σ) (cK σ) (cH σ j)) (min k (cN σ)) (mxC1 σ)))), (6, .ref (ad [i, 6, k])), (5, .int (nI k)), (4, .int (nI 8)), (3, .ref (ad [i, 1])), (0, .ref (ad [i]))] dX6_digest_129 (by decide) rfl ?_
      refine V_iincn C [(5, .int (nI (k + 1))), (1, .long (mxE (cS σ) (cK σ) (cH σ k) (upF (fun j => mxE (cS σ) (cK σ) (cH σ j)) (min k (cN σ)) (mxC1 σ)))), (6, .ref (ad [i, 6, k])), (4, .int (nI 8)), (3, .ref (ad [i, 1])), (0, .ref (ad [i]))] dX6_digest_130 2 rfl (by decide) rfl ?_
      refine V_goto (tgt := 104) C dX6_digest_133 (by decide) ?_
      rw [show mxE (cS σ) (cK σ) (cH σ k) (upF (fun j => mxE (cS σ) (cK σ) (cH σ j)) (min k (cN σ)) (mxC1 σ)) = upF (fun j => mxE (cS σ) (cK σ) (cH σ j)) (min (k + 1) (cN σ)) (mxC1 σ) from by rw [upF_s hks]]
      refine V_lv [0, 3, 4, 1, 5] rfl ?_
      exact ih (k + 1) _ _ _ (by omega)
    · skip
      refine V_aaldn (v := .null) C dX6_digest_114 rfl PW_hr (by omega) (by decide) (by rw [adN_ge (Nat.not_lt.mpr hks)]; rfl) ?_
      refine V_astoreN C [(6, .null), (5, .int (nI k)), (4, .int (nI 8)), (3, .ref (ad [i, 1])), (1, .long (upF (fun j => mxE (cS σ) (cK σ) (cH σ j)) (min k (cN σ)) (mxC1 σ))), (0, .ref (ad [i]))] dX6_digest_115 (by decide) rfl ?_
      refine V_aloadN C dX6_digest_117 0 rfl ?_
      refine V_ifnullN (tgt := 130) C dX6_digest_119 (by decide) ?_
      refine V_iincn C [(5, .int (nI (k + 1))), (6, .null), (4, .int (nI 8)), (3, .ref (ad [i, 1])), (1, .long (upF (fun j => mxE (cS σ) (cK σ) (cH σ j)) (min k (cN σ)) (mxC1 σ))), (0, .ref (ad [i]))] dX6_digest_130 1 rfl (by decide) rfl ?_
      refine V_goto (tgt := 104) C dX6_digest_133 (by decide) ?_
      rw [show upF (fun j => mxE (cS σ) (cK σ) (cH σ j)) (min k (cN σ)) (mxC1 σ) = upF (fun j => mxE (cS σ) (cK σ) (cH σ j)) (min (k + 1) (cN σ)) (mxC1 σ) from by rw [upF_e hks]]
      refine V_lv [0, 2, 3, 4, 5] rfl ?_
      exact ih (k + 1) _ _ _ (by omega)
set_option maxHeartbeats 4000000 in
theorem lp_dig1 {p : Program} {l : Launch} {e : Env} {s : State} {m : MethodId} {args : Array Value} {below : List Frame} {meth : Method} {c : Code} {D : va_G} {ba d mc ms : Nat} {ad : Adr} {QR : Option Value → Adr → Wd → Prop} {QX : String → Adr → Wd → Prop} (C : Cx p l s m args meth c D ba RX6 cX6_digest 7 [] d) (hl : l.stackTraces = false) (hr : meth.sig.returnType = (some .long)) (hd : 9 ≤ d) {i : Nat} {σ : CS} {tl : Int32} {t : TT} {lo : Nat → Int32} {o : Wd} (hσ : cOK σ) (hq1 : ∀ tl t lo, QR (some (.long (mxC σ))) ad (PW i ad σ tl t lo o)) : ∀ (n : Nat) (k : Nat), k + n = 8 → V p l e s m args below meth c D ba d mc ms (MO D ba QR QX below args s mc ms) 7 ad (PW i ad σ tl t lo o) 61 [(5, .int (nI k)), (4, .int (nI 8)), (3, .ref (ad [i, 1])), (1, .long (upF (fun j => mxH (cH σ j)) (min k (cN σ)) (mxC0 σ))), (0, .ref (ad [i]))] [] 0 0 := by
  intro n
  induction n with
  | zero =>
    intro k hk
    have hσ1 := hσ.1
    refine V_iload C dX6_digest_61 0 rfl ?_
    refine V_iload C dX6_digest_63 1 rfl ?_
    refine V_icmpn_ge (tgt := 92) C dX6_digest_65 (by decide) (by omega) (by decide) (fun hb1 => ?_) (fun hb1 => by exfalso; omega)
    refine V_aload_n C dX6_digest_92 4 rfl ?_
    refine V_get (ci := 5) (k := 0) C dX6_digest_93 RX6 RX6 TX6 8 fw_X6 rfl (by decide) tw_70 rfl rfl PW_b rfl ?_
    refine V_astore_n C [(3, .ref (ad [i, 1])), (5, .int (nI k)), (4, .int (nI 8)), (1, .long (upF (fun j => mxH (cH σ j)) (min k (cN σ)) (mxC0 σ))), (0, .ref (ad [i]))] dX6_digest_96 (by decide) rfl ?_
    refine V_aload_n C dX6_digest_97 0 rfl ?_
    refine V_alen (v := nI 8) C dX6_digest_98 rfl PW_hr rfl ?_
    refine V_istore C [(4, .int (nI 8)), (3, .ref (ad [i, 1])), (5, .int (nI k)), (1, .long (upF (fun j => mxH (cH σ j)) (min k (cN σ)) (mxC0 σ))), (0, .ref (ad [i]))] dX6_digest_99 (by decide) rfl ?_
    refine V_iconst (v := nI 0) C dX6_digest_101 (by decide) ?_
    refine V_istore C [(5, .int (nI 0)), (4, .int (nI 8)), (3, .ref (ad [i, 1])), (1, .long (upF (fun j => mxH (cH σ j)) (min k (cN σ)) (mxC0 σ))), (0, .ref (ad [i]))] dX6_digest_102 (by decide) rfl ?_
    rw [show upF (fun j => mxH (cH σ j)) (min k (cN σ)) (mxC0 σ) = mxC1 σ from by rw [upF_x (by omega)]; rfl]
    refine V_lv [0, 1, 2, 3, 4] rfl ?_
    have K := lp_dig2 (QR := QR) (QX := QX) (mc := mc) (ms := ms) (e := e) (below := below) C hl hr (by omega) hσ hq1 8 0 tl t lo (by omega)
    rw [Nat.zero_min] at K
    exact K
  | succ n ih =>
    intro k hk
    have hσ1 := hσ.1
    refine V_iload C dX6_digest_61 0 rfl ?_
    refine V_iload C dX6_digest_63 1 rfl ?_
    refine V_icmpn_ge (tgt := 92) C dX6_digest_65 (by decide) (by omega) (by decide) (fun hb1 => by exfalso; omega) (fun hb1 => ?_)
    refine V_aload_n C dX6_digest_68 2 rfl ?_
    refine V_iload C dX6_digest_69 0 rfl ?_
    rcases Nat.lt_or_ge k (cN σ) with hks | hks
    · skip
      refine V_aaldn (v := .ref (ad [i, 6, k])) C dX6_digest_71 rfl PW_hr (by omega) (by decide) (by rw [adN_lt hks]; rfl) ?_
      refine V_astore C [(6, .ref (ad [i, 6, k])), (5, .int (nI k)), (4, .int (nI 8)), (3, .ref (ad [i, 1])), (1, .long (upF (fun j => mxH (cH σ j)) (min k (cN σ)) (mxC0 σ))), (0, .ref (ad [i]))] dX6_digest_72 (by decide) rfl ?_
      refine V_aload C dX6_digest_74 0 rfl ?_
      refine V_ifnull C dX6_digest_76 ?_
      refine V_lload_n C dX6_digest_79 4 rfl ?_
      refine V_aload C dX6_digest_80 0 rfl ?_
      refine V_callS C [.long (upF (fun j => mxH (cH σ j)) (min k (cN σ)) (mxC0 σ)), .ref (ad [i, 6, k])] dX6_digest_82 m_X6_mixHall k_X6_mixHall tw_137 rfl rfl (Nat.le_of_ble_eq_true rfl) ⟨by omega, by omega, by omega, by omega⟩ (c_mixH hl (by omega) hσ hks (upF (fun j => mxH (cH σ j)) (min k (cN σ)) (mxC0 σ))) (kr_some (x := .long (mxH (cH σ k) (upF (fun j => mxH (cH σ j)) (min k (cN σ)) (mxC0 σ)))) ?_) kx_no
      refine V_lstore_n C [(1, .long (mxH (cH σ k) (upF (fun j => mxH (cH σ j)) (min k (cN σ)) (mxC0 σ)))), (6, .ref (ad [i, 6, k])), (5, .int (nI k)), (4, .int (nI 8)), (3, .ref (ad [i, 1])), (0, .ref (ad [i]))] dX6_digest_85 (by decide) rfl ?_
      refine V_iincn C [(5, .int (nI (k + 1))), (1, .long (mxH (cH σ k) (upF (fun j => mxH (cH σ j)) (min k (cN σ)) (mxC0 σ)))), (6, .ref (ad [i, 6, k])), (4, .int (nI 8)), (3, .ref (ad [i, 1])), (0, .ref (ad [i]))] dX6_digest_86 2 rfl (by decide) rfl ?_
      refine V_goto (tgt := 61) C dX6_digest_89 (by decide) ?_
      rw [show mxH (cH σ k) (upF (fun j => mxH (cH σ j)) (min k (cN σ)) (mxC0 σ)) = upF (fun j => mxH (cH σ j)) (min (k + 1) (cN σ)) (mxC0 σ) from by rw [upF_s hks]]
      refine V_lv [0, 3, 4, 1, 5] rfl ?_
      exact ih (k + 1) (by omega)
    · skip
      refine V_aaldn (v := .null) C dX6_digest_71 rfl PW_hr (by omega) (by decide) (by rw [adN_ge (Nat.not_lt.mpr hks)]; rfl) ?_
      refine V_astoreN C [(6, .null), (5, .int (nI k)), (4, .int (nI 8)), (3, .ref (ad [i, 1])), (1, .long (upF (fun j => mxH (cH σ j)) (min k (cN σ)) (mxC0 σ))), (0, .ref (ad [i]))] dX6_digest_72 (by decide) rfl ?_
      refine V_aloadN C dX6_digest_74 0 rfl ?_
      refine V_ifnullN (tgt := 86) C dX6_digest_76 (by decide) ?_
      refine V_iincn C [(5, .int (nI (k + 1))), (6, .null), (4, .int (nI 8)), (3, .ref (ad [i, 1])), (1, .long (upF (fun j => mxH (cH σ j)) (min k (cN σ)) (mxC0 σ))), (0, .ref (ad [i]))] dX6_digest_86 1 rfl (by decide) rfl ?_
      refine V_goto (tgt := 61) C dX6_digest_89 (by decide) ?_
      rw [show upF (fun j => mxH (cH σ j)) (min k (cN σ)) (mxC0 σ) = upF (fun j => mxH (cH σ j)) (min (k + 1) (cN σ)) (mxC0 σ) from by rw [upF_e hks]]
      refine V_lv [0, 2, 3, 4, 5] rfl ?_
      exact ih (k + 1) (by omega)
set_option maxHeartbeats 4000000 in
theorem p_digest {l : Launch} {D : va_G} {ba d : Nat} {ad : Adr} (hl : l.stackTraces = false) (hd : 10 ≤ d) {i : Nat} {σ : CS} {tl : Int32} {t : TT} {lo : Nat → Int32} {o : Wd} (hσ : cOK σ)  : CT l yX6_digest (wsO yX6_digest cX6_digest 7 (some .long)) d 8 64 D ba [.ref (ad [i])] ad (PW i ad σ tl t lo o) (RP i ad σ o (some (.long (mxC σ)))) noX := by
  refine CT_of RX6 rfl (by decide +kernel) hl (Nat.le_of_ble_eq_true rfl) ?_
  intro p e s m args below meth c C hr hnm
  refine V_lvE (lv' := [(0, .ref (ad [i]))]) rfl ?_
  have hσ1 := hσ.1
  have hσ2 := hσ.2.1
  refine V_ldc2 C dX6_digest_0 tw_132 ?_
  refine V_lstore_n C [(1, .long 1871), (0, .ref (ad [i]))] dX6_digest_3 (by decide) rfl ?_
  refine V_lload_n C dX6_digest_4 0 rfl ?_
  refine V_aload_n C dX6_digest_5 1 rfl ?_
  refine V_get (ci := 5) (k := 2) C dX6_digest_6 RX6 RX6 TX6 8 fw_X6 rfl (by decide) tw_72 rfl rfl PW_b rfl ?_
  refine V_callS C [.long 1871, .int (nI (cN σ))] dX6_digest_9 m_X6_mix k_X6_mix tw_133 rfl rfl (Nat.le_of_ble_eq_true rfl) ⟨by omega, by omega, by omega, by omega⟩ (c_mix hl (by omega) 1871 (nI (cN σ))) (kr_some (x := .long (mx 1871 (nI (cN σ)))) ?_) kx_no
  refine V_lstore_n C [(1, .long (mx 1871 (nI (cN σ)))), (0, .ref (ad [i]))] dX6_digest_12 (by decide) rfl ?_
  refine V_lload_n C dX6_digest_13 0 rfl ?_
  refine V_aload_n C dX6_digest_14 1 rfl ?_
  refine V_get (ci := 5) (k := 3) C dX6_digest_15 RX6 RX6 TX6 8 fw_X6 rfl (by decide) tw_73 rfl rfl PW_b rfl ?_
  refine V_callS C [.long (mx 1871 (nI (cN σ))), .int (nI (cK σ))] dX6_digest_18 m_X6_mix k_X6_mix tw_133 rfl rfl (Nat.le_of_ble_eq_true rfl) ⟨by omega, by omega, by omega, by omega⟩ (c_mix hl (by omega) (mx 1871 (nI (cN σ))) (nI (cK σ))) (kr_some (x := .long (mx (mx 1871 (nI (cN σ))) (nI (cK σ)))) ?_) kx_no
  refine V_lstore_n C [(1, .long (mx (mx 1871 (nI (cN σ))) (nI (cK σ)))), (0, .ref (ad [i]))] dX6_digest_21 (by decide) rfl ?_
  refine V_lload_n C dX6_digest_22 0 rfl ?_
  refine V_aload_n C dX6_digest_23 1 rfl ?_
  refine V_get (ci := 5) (k := 4) C dX6_digest_24 RX6 RX6 TX6 8 fw_X6 rfl (by decide) tw_74 rfl rfl PW_b rfl ?_
  refine V_callS C [.long (mx (mx 1871 (nI (cN σ))) (nI (cK σ))), .int (cDay σ)] dX6_digest_27 m_X6_mix k_X6_mix tw_133 rfl rfl (Nat.le_of_ble_eq_true rfl) ⟨by omega, by omega, by omega, by omega⟩ (c_mix hl (by omega) (mx (mx 1871 (nI (cN σ))) (nI (cK σ))) (cDay σ)) (kr_some (x := .long (mx (mx (mx 1871 (nI (cN σ))) (nI (cK σ))) (cDay σ))) ?_) kx_no
  refine V_lstore_n C [(1, .long (mx (mx (mx 1871 (nI (cN σ))) (nI (cK σ))) (cDay σ))), (0, .ref (ad [i]))] dX6_digest_30 (by decide) rfl ?_
  refine V_lload_n C dX6_digest_31 0 rfl ?_
  refine V_aload_n C dX6_digest_32 1 rfl ?_
  refine V_get (ci := 5) (k := 5) C dX6_digest_33 RX6 RX6 TX6 8 fw_X6 rfl (by decide) tw_75 rfl rfl PW_b rfl ?_
  refine V_callS C [.long (mx (mx (mx 1871 (nI (cN σ))) (nI (cK σ))) (cDay σ)), .int (cIns σ)] dX6_digest_36 m_X6_mix k_X6_mix tw_133 rfl rfl (Nat.le_of_ble_eq_true rfl) ⟨by omega, by omega, by omega, by omega⟩ (c_mix hl (by omega) (mx (mx (mx 1871 (nI (cN σ))) (nI (cK σ))) (cDay σ)) (cIns σ)) (kr_some (x := .long (mx (mx (mx (mx 1871 (nI (cN σ))) (nI (cK σ))) (cDay σ)) (cIns σ))) ?_) kx_no
  refine V_lstore_n C [(1, .long (mx (mx (mx (mx 1871 (nI (cN σ))) (nI (cK σ))) (cDay σ)) (cIns σ))), (0, .ref (ad [i]))] dX6_digest_39 (by decide) rfl ?_
  refine V_lload_n C dX6_digest_40 0 rfl ?_
  refine V_aload_n C dX6_digest_41 1 rfl ?_
  refine V_callV (r := (RX6, TX6, 8)) C [] dX6_digest_42 m_X6_countCertified k_X6_countCertified tw_115 rfl rfl rfl PW_b rfl rfl (Nat.le_of_ble_eq_true rfl) ⟨by omega, by omega, by omega, by omega⟩ (c_count hl (by omega) hσ) (kr_some (x := .int (nI (certs (cH σ) (cN σ)))) ?_) kx_no
  refine V_callS C [.long (mx (mx (mx (mx 1871 (nI (cN σ))) (nI (cK σ))) (cDay σ)) (cIns σ)), .int (nI (certs (cH σ) (cN σ)))] dX6_digest_45 m_X6_mix k_X6_mix tw_133 rfl rfl (Nat.le_of_ble_eq_true rfl) ⟨by omega, by omega, by omega, by omega⟩ (c_mix hl (by omega) (mx (mx (mx (mx 1871 (nI (cN σ))) (nI (cK σ))) (cDay σ)) (cIns σ)) (nI (certs (cH σ) (cN σ)))) (kr_some (x := .long (mx (mx (mx (mx (mx 1871 (nI (cN σ))) (nI (cK σ))) (cDay σ)) (cIns σ)) (nI (certs (cH σ) (cN σ))))) ?_) kx_no
  refine V_lstore_n C [(1, .long (mx (mx (mx (mx (mx 1871 (nI (cN σ))) (nI (cK σ))) (cDay σ)) (cIns σ)) (nI (certs (cH σ) (cN σ))))), (0, .ref (ad [i]))] dX6_digest_48 (by decide) rfl ?_
  refine V_aload_n C dX6_digest_49 1 rfl ?_
  refine V_get (ci := 5) (k := 0) C dX6_digest_50 RX6 RX6 TX6 8 fw_X6 rfl (by decide) tw_70 rfl rfl PW_b rfl ?_
  refine V_astore_n C [(3, .ref (ad [i, 1])), (1, .long (mx (mx (mx (mx (mx 1871 (nI (cN σ))) (nI (cK σ))) (cDay σ)) (cIns σ)) (nI (certs (cH σ) (cN σ))))), (0, .ref (ad [i]))] dX6_digest_53 (by decide) rfl ?_
  refine V_aload_n C dX6_digest_54 0 rfl ?_
  refine V_alen (v := nI 8) C dX6_digest_55 rfl PW_hr rfl ?_
  refine V_istore C [(4, .int (nI 8)), (3, .ref (ad [i, 1])), (1, .long (mx (mx (mx (mx (mx 1871 (nI (cN σ))) (nI (cK σ))) (cDay σ)) (cIns σ)) (nI (certs (cH σ) (cN σ))))), (0, .ref (ad [i]))] dX6_digest_56 (by decide) rfl ?_
  refine V_iconst (v := nI 0) C dX6_digest_58 (by decide) ?_
  refine V_istore C [(5, .int (nI 0)), (4, .int (nI 8)), (3, .ref (ad [i, 1])), (1, .long (mx (mx (mx (mx (mx 1871 (nI (cN σ))) (nI (cK σ))) (cDay σ)) (cIns σ)) (nI (certs (cH σ) (cN σ))))), (0, .ref (ad [i]))] dX6_digest_59 (by decide) rfl ?_
  rw [show mx (mx (mx (mx (mx 1871 (nI (cN σ))) (nI (cK σ))) (cDay σ)) (cIns σ)) (nI (certs (cH σ) (cN σ))) = mxC0 σ from rfl]
  refine V_lv [0, 1, 2, 3, 4] rfl ?_
  have K := lp_dig1 (QR := (RP i ad σ o (some (.long (mxC σ))))) (QX := noX) (mc := 8) (ms := 64) (e := e) (below := below) C hl hr (by omega) hσ (tl := tl) (t := t) (lo := lo) (fun _ _ _ => ⟨rfl, rfl, _, _, _, rfl⟩) 8 0 (by omega)
  rw [Nat.zero_min] at K
  exact K
