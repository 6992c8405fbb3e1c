theorem lim6 {L i0 : Nat} (hL : L ≤ 3072) (h : ¬ nI L - nI 6 < nI i0) (hi : i0 ≤ 6000) : i0 + 6 ≤ L := by
  have h1 : (nI L - nI 6).toInt = (L : Int) - (6 : Nat) := pk_sub_toInt (by omega) (by decide)
  have h2 : (nI i0).toInt = (i0 : Int) := nI_toInt (by omega)
  have h3 : ¬ (nI L - nI 6).toInt < (nI i0).toInt := fun z => h (Int32.lt_iff_toInt_lt.mpr z)
  rw [h1, h2] at h3
  omega
set_option maxHeartbeats 8000000 in
theorem law_loop {p : Program} {l : Launch} {e : Env} {s : State} {m : MethodId} {args : Array Value} {below : List Frame} {meth : Method} {c : Code} {D : va_G} {ba d mc ms cells slots : Nat} {Q : State → Prop} {ad : Adr} {tb : List ExceptionTableEntry} (C : Cx p l s m args meth c D ba RL cL_law 9 tb d) (hl : l.stackTraces = false) (hd : 12 ≤ d) {b9 L : Nat} {xs : Nat → Int32} (hX : va_X b9 L xs s s.heap) (hb : b9 < ba) (hL : L ≤ 3072) (KE : ∀ (ad : Adr) (w : Wd) (lv : List (Nat × Value)) (cells slots : Nat), cells ≤ mc → slots ≤ ms → V p l e s m args below meth c D ba d mc ms Q 9 ad w 2279 lv [.int (nI 1)] cells slots) : ∀ (n i0 : Nat) (ad : Adr) (σ : CS) (tl : Int32) (t : TT) (lo : Nat → Int32) (th ro : Int32) (lo2 ma ap : Nat → Int32) (f : Nat → Int64) (cells slots : Nat), cOK σ → L ≤ i0 + 6 * n + 5 → i0 ≤ 6 * (514 - n) → n ≤ 513 → cells + 60 * n + 60 ≤ mc → slots + 300 * n + 300 ≤ ms → V p l e s m args below meth c D ba d mc ms Q 9 ad (LW ad σ tl t lo th ro lo2 ma ap f) 23 [(4, .int (nI i0)), (3, .ref (ad [2])), (2, .ref (ad [1])), (1, .ref (ad [0])), (0, .ref b9)] [] cells slots := by
  intro n
  induction n with
  | zero =>
    intro i0 ad σ tl t lo th ro lo2 ma ap f cells slots hσ hn hi6 hn5 hcs hss
    refine V_iload C dL_law_23 0 rfl ?_
    refine V_aload_n C dL_law_25 4 rfl ?_
    refine V_slen C hX hb dL_law_26 ?_
    refine V_bipush (v := nI 6) C dL_law_27 (by decide) ?_
    refine V_isub C dL_law_29 ?_
    refine V_icmp_gt (tgt := 2278) C dL_law_30 (by decide) (fun h => ?_) (fun h => ?_)
    · refine V_iconst (v := nI 1) C dL_law_2278 (by decide) ?_
      exact KE _ _ _ _ _ (by omega) (by omega)
    · have := lim6 hL h (by omega)
      omega
  | succ n ih =>
    intro i0 ad σ tl t lo th ro lo2 ma ap f cells slots hσ hn hi6 hn5 hcs hss
    refine V_iload C dL_law_23 0 rfl ?_
    refine V_aload_n C dL_law_25 4 rfl ?_
    refine V_slen C hX hb dL_law_26 ?_
    refine V_bipush (v := nI 6) C dL_law_27 (by decide) ?_
    refine V_isub C dL_law_29 ?_
    refine V_icmp_gt (tgt := 2278) C dL_law_30 (by decide) (fun h => ?_) (fun h => ?_)
    · refine V_iconst (v := nI 1) C dL_law_2278 (by decide) ?_
      exact KE _ _ _ _ _ (by omega) (by omega)
    have hi := lim6 hL h (by omega)
    have K : ∀ ad2 σ2 tl t lo th ro lo2 ma ap f cells2 slots2, cOK σ2 → cells2 ≤ cells + 60 → slots2 ≤ slots + 300 → V p l e s m args below meth c D ba d mc ms Q 9 ad2 (LW ad2 σ2 tl t lo th ro lo2 ma ap f) 2272 [(4, .int (nI i0)), (3, .ref (ad2 [2])), (2, .ref (ad2 [1])), (1, .ref (ad2 [0])), (0, .ref b9)] [] cells2 slots2 := by
      intro ad2 σ2 tl t lo th ro lo2 ma ap f cells2 slots2 hσ2 h1 h2
      refine V_iinc (v := nI (i0 + 6)) C [(4, .int (nI (i0 + 6))), (3, .ref (ad2 [2])), (2, .ref (ad2 [1])), (1, .ref (ad2 [0])), (0, .ref b9)] dL_law_2272 0 rfl (nI_add i0 6) (by decide) rfl ?_
      refine V_goto (tgt := 23) C dL_law_2275 (by decide) ?_
      exact ih (i0 + 6) ad2 σ2 tl t lo th ro lo2 ma ap f cells2 slots2 hσ2 (by omega) (by omega) (by omega) (by omega) (by omega)
    refine V_aload_n C dL_law_33 4 rfl ?_
    refine V_iload C dL_law_34 0 rfl ?_
    refine V_sldn C hX hb (i := i0) (by omega) (by omega) dL_law_36 ?_
    refine V_bipush (v := nI 63) C dL_law_37 (by decide) ?_
    refine V_iand C dL_law_39 ?_
    obtain ⟨j, hj, hjj⟩ := pk_andE (xs i0) (m := nI 63) 6 (by decide)
    rw [hjj]
    rcases (show j = 0 ∨ j = 1 ∨ j = 2 ∨ j = 3 ∨ j = 4 ∨ j = 5 ∨ j = 6 ∨ j = 7 ∨ j = 8 ∨ j = 9 ∨ j = 10 ∨ j = 11 ∨ j = 12 ∨ j = 13 ∨ j = 14 ∨ j = 15 ∨ j = 16 ∨ j = 17 ∨ j = 18 ∨ j = 19 ∨ j = 20 ∨ j = 21 ∨ j = 22 ∨ j = 23 ∨ j = 24 ∨ j = 25 ∨ j = 26 ∨ j = 27 ∨ j = 28 ∨ j = 29 ∨ j = 30 ∨ j = 31 ∨ j = 32 ∨ j = 33 ∨ j = 34 ∨ j = 35 ∨ 36 ≤ j by omega) with rfl | rfl | rfl | rfl | rfl | rfl | rfl | rfl | rfl | rfl | rfl | rfl | rfl | rfl | rfl | rfl | rfl | rfl | rfl | rfl | rfl | rfl | rfl | rfl | rfl | rfl | rfl | rfl | rfl | rfl | rfl | rfl | rfl | rfl | rfl | rfl | hj36
    · exact V_tableIn (off := 160) (tgt := 200) C dL_law_40 (by decide) (by decide) (by decide) (by decide) (law_0 C hl hd hX hb hi hL hσ (by omega) (by omega) K)
    · exact V_tableIn (off := 216) (tgt := 256) C dL_law_40 (by decide) (by decide) (by decide) (by decide) (law_1 C hl hd hX hb hi hL hσ (by omega) (by omega) K)
    · exact V_tableIn (off := 296) (tgt := 336) C dL_law_40 (by decide) (by decide) (by decide) (by decide) (law_2 C hl hd hX hb hi hL hσ (by omega) (by omega) K)
    · exact V_tableIn (off := 376) (tgt := 416) C dL_law_40 (by decide) (by decide) (by decide) (by decide) (law_3 C hl hd hX hb hi hL hσ (by omega) (by omega) K)
    · exact V_tableIn (off := 444) (tgt := 484) C dL_law_40 (by decide) (by decide) (by decide) (by decide) (law_4 C hl hd hX hb hi hL hσ (by omega) (by omega) K)
    · exact V_tableIn (off := 500) (tgt := 540) C dL_law_40 (by decide) (by decide) (by decide) (by decide) (law_5 C hl hd hX hb hi hL hσ (by omega) (by omega) K)
    · exact V_tableIn (off := 604) (tgt := 644) C dL_law_40 (by decide) (by decide) (by decide) (by decide) (law_6 C hl hd hX hb hi hL hσ (by omega) (by omega) K)
    · exact V_tableIn (off := 679) (tgt := 719) C dL_law_40 (by decide) (by decide) (by decide) (by decide) (law_7 C hl hd hX hb hi hL hσ (by omega) (by omega) K)
    · exact V_tableIn (off := 735) (tgt := 775) C dL_law_40 (by decide) (by decide) (by decide) (by decide) (law_8 C hl hd hX hb hi hL hσ (by omega) (by omega) K)
    · exact V_tableIn (off := 791) (tgt := 831) C dL_law_40 (by decide) (by decide) (by decide) (by decide) (law_9 C hl hd hX hb hi hL hσ (by omega) (by omega) K)
    · exact V_tableIn (off := 847) (tgt := 887) C dL_law_40 (by decide) (by decide) (by decide) (by decide) (law_10 C hl hd hX hb hi hL hσ (by omega) (by omega) K)
    · exact V_tableIn (off := 915) (tgt := 955) C dL_law_40 (by decide) (by decide) (by decide) (by decide) (law_11 C hl hd hX hb hi hL hσ (by omega) (by omega) K)
    · exact V_tableIn (off := 983) (tgt := 1023) C dL_law_40 (by decide) (by decide) (by decide) (by decide) (law_12 C hl hd hX hb hi hL hσ (by omega) (by omega) K)
    · exact V_tableIn (off := 1039) (tgt := 1079) C dL_law_40 (by decide) (by decide) (by decide) (by decide) (law_13 C hl hd hX hb hi hL hσ (by omega) (by omega) K)
    · exact V_tableIn (off := 1095) (tgt := 1135) C dL_law_40 (by decide) (by decide) (by decide) (by decide) (law_14 C hl hd hX hb hi hL hσ (by omega) (by omega) K)
    · exact V_tableIn (off := 1163) (tgt := 1203) C dL_law_40 (by decide) (by decide) (by decide) (by decide) (law_15 C hl hd hX hb hi hL hσ (by omega) (by omega) K)
    · exact V_tableIn (off := 1243) (tgt := 1283) C dL_law_40 (by decide) (by decide) (by decide) (by decide) (law_16 C hl hd hX hb hi hL hσ (by omega) (by omega) K)
    · exact V_tableIn (off := 1311) (tgt := 1351) C dL_law_40 (by decide) (by decide) (by decide) (by decide) (law_17 C hl hd hX hb hi hL hσ (by omega) (by omega) K)
    · exact V_tableIn (off := 1379) (tgt := 1419) C dL_law_40 (by decide) (by decide) (by decide) (by decide) (law_18 C hl hd hX hb hi hL hσ (by omega) (by omega) K)
    · exact V_tableIn (off := 1459) (tgt := 1499) C dL_law_40 (by decide) (by decide) (by decide) (by decide) (law_19 C hl hd hX hb hi hL hσ (by omega) (by omega) K)
    · exact V_tableIn (off := 1527) (tgt := 1567) C dL_law_40 (by decide) (by decide) (by decide) (by decide) (law_20 C hl hd hX hb hi hL hσ (by omega) (by omega) K)
    · exact V_tableIn (off := 1602) (tgt := 1642) C dL_law_40 (by decide) (by decide) (by decide) (by decide) (law_21 C hl hd hX hb hi hL hσ (by omega) (by omega) K)
    · exact V_tableIn (off := 1658) (tgt := 1698) C dL_law_40 (by decide) (by decide) (by decide) (by decide) (law_22 C hl hd hX hb hi hL hσ (by omega) (by omega) K)
    · exact V_tableIn (off := 1721) (tgt := 1761) C dL_law_40 (by decide) (by decide) (by decide) (by decide) (law_23 C hl hd hX hb hi hL hσ (by omega) (by omega) K)
    · exact V_tableIn (off := 1777) (tgt := 1817) C dL_law_40 (by decide) (by decide) (by decide) (by decide) (law_24 C hl hd hX hb hi hL hσ (by omega) (by omega) K)
    · exact V_tableIn (off := 1833) (tgt := 1873) C dL_law_40 (by decide) (by decide) (by decide) (by decide) (law_25 C hl hd hX hb hi hL hσ (by omega) (by omega) K)
    · exact V_tableIn (off := 1846) (tgt := 1886) C dL_law_40 (by decide) (by decide) (by decide) (by decide) (law_26 C hl hd hX hb hi hL hσ (by omega) (by omega) K)
    · exact V_tableIn (off := 1859) (tgt := 1899) C dL_law_40 (by decide) (by decide) (by decide) (by decide) (law_27 C hl hd hX hb hi hL hσ (by omega) (by omega) K)
    · exact V_tableIn (off := 1872) (tgt := 1912) C dL_law_40 (by decide) (by decide) (by decide) (by decide) (law_28 C hl hd hX hb hi hL hσ (by omega) (by omega) K)
    · exact V_tableIn (off := 1885) (tgt := 1925) C dL_law_40 (by decide) (by decide) (by decide) (by decide) (law_29 C hl hd hX hb hi hL hσ (by omega) (by omega) K)
    · exact V_tableIn (off := 1898) (tgt := 1938) C dL_law_40 (by decide) (by decide) (by decide) (by decide) (law_30 C hl hd hX hb hi hL hσ (by omega) (by omega) K)
    · exact V_tableIn (off := 1985) (tgt := 2025) C dL_law_40 (by decide) (by decide) (by decide) (by decide) (law_31 C hl hd hX hb hi hL hσ (by omega) (by omega) K)
    · exact V_tableIn (off := 2053) (tgt := 2093) C dL_law_40 (by decide) (by decide) (by decide) (by decide) (law_32 C hl hd hX hb hi hL hσ (by omega) (by omega) K)
    · exact V_tableIn (off := 2121) (tgt := 2161) C dL_law_40 (by decide) (by decide) (by decide) (by decide) (law_33 C hl hd hX hb hi hL hσ (by omega) (by omega) K)
    · exact V_tableIn (off := 2177) (tgt := 2217) C dL_law_40 (by decide) (by decide) (by decide) (by decide) (law_34 C hl hd hX hb hi hL hσ (by omega) (by omega) K)
    · exact V_tableIn (off := 2218) (tgt := 2258) C dL_law_40 (by decide) (by decide) (by decide) (by decide) (law_35 C hl hd hX hb hi hL hσ (by omega) (by omega) K)
    · exact V_tableOut (tgt := 2272) C dL_law_40 (Or.inr (by rw [nI_toInt (by omega)]; omega)) (by decide) (K ad σ tl t lo th ro lo2 ma ap f cells slots hσ (by omega) (by omega))
