/-- the echoes of a hall's u-th surface -/
def rowQ (h : HallS) (dm du cl u : Nat) : List (Nat × Nat) := rowE ((hSu h u).1 - du / 5) dm (hSu h u).2 500 1 cl
/-- a row's loudnesses laid into f from place x on -/
def wr (f : Nat → Int32) (x : Nat) (R : List (Nat × Nat)) : Nat → Int32 := fun y => if x ≤ y ∧ y < x + R.length then nI (R.getD (y - x) (0, 0)).2 else f y
theorem wr_nil {f : Nat → Int32} {x : Nat} : wr f x [] = f := by
  funext y
  unfold wr
  rw [if_neg (by simp only [List.length_nil]; omega)]
theorem wr_cons {f : Nat → Int32} {x : Nat} {q : Nat × Nat} {R : List (Nat × Nat)} : wr f x (q :: R) = wr (upd f x (nI q.2)) (x + 1) R := by
  funext y
  unfold wr
  by_cases h : y = x
  · subst h
    rw [if_pos (by simp only [List.length_cons]; omega), if_neg (by omega)]
    simp [upd]
  · by_cases h2 : x ≤ y ∧ y < x + (q :: R).length
    · have h3 : x + 1 ≤ y ∧ y < x + 1 + R.length := by simp only [List.length_cons] at h2; omega
      rw [if_pos h2, if_pos h3, show y - x = (y - (x + 1)) + 1 by omega, List.getD_cons_succ]
    · have h3 : ¬ (x + 1 ≤ y ∧ y < x + 1 + R.length) := by simp only [List.length_cons] at h2; omega
      rw [if_neg h2, if_neg h3]
      simp [upd, h]
theorem lim_iff {k ds : Nat} (h : 1 ≤ ds) : k < 3000 / (6 * ds) ↔ (k + 1) * 6 * ds ≤ 3000 := by
  rw [Nat.mul_assoc]
  exact Nat.le_div_iff_mul_le (by omega)
theorem lim_500 {ds : Nat} (h : 1 ≤ ds) : 3000 / (6 * ds) ≤ 500 := by
  have : 3000 / (6 * ds) ≤ 3000 / 6 := Nat.div_le_div_left (by omega) (by omega)
  exact this
theorem rowE_end {hd dm ds n k l1 : Nat} (h : ¬ k * 6 * ds ≤ 3000) : rowE hd dm ds (n + 1) k l1 = [] := by
  simp [rowE, h]
theorem nx_0 {hd dm : Nat} : nx hd dm 0 = 0 := by simp [nx]
abbrev clLo (h : HallS) (dm du cl : Nat) (m : Nat) (lo : Nat → Int32) : Nat → Int32 := upF (fun u f => wr f (500 * u) (rowQ h dm du cl u)) m lo
abbrev clMa (h : HallS) (dm du cl : Nat) (m : Nat) (ma : Nat → Int32) : Nat → Int32 := upF (fun u f => upd f u (nI (rowQ h dm du cl u).length)) m ma
abbrev clAp (h : HallS) (m : Nat) (ap : Nat → Int32) : Nat → Int32 := upF (fun u f => upd f u (nI (6 * (hSu h u).2))) m ap
set_option maxHeartbeats 4000000 in
theorem lp_in {p : Program} {l : Launch} {e : Env} {s : State} {m : MethodId} {args : Array Value} {below : List Frame} {meth : Method} {c : Code} {D : va_G} {ba d mc ms : Nat} {ad : Adr} {QR : Option Value → Adr → Wd → Prop} {QX : String → Adr → Wd → Prop} (C : Cx p l s m args meth c D ba RX7 cX7_click 10 [] d) (hl : l.stackTraces = false) (hr : meth.sig.returnType = none) (hd : 3 ≤ d) {i : Nat} {σ : CS} {th ro : Int32} {ma ap : Nat → Int32} {o : Wd} {j u hd0 dm ds du cl : Nat} (hu : u < 6) (hd9 : hd0 ≤ 99) (hds1 : 1 ≤ ds) (hdm : dm ≤ 90)  : ∀ (n : Nat) (k l1 : Nat) (lo : Nat → Int32), k + n = 500 → l1 ≤ 1000 → (∀ q, q = k + (rowE hd0 dm ds n (k + 1) l1).length → ∀ f, f = wr lo (500 * u + k) (rowE hd0 dm ds n (k + 1) l1) → V p l e s m args below meth c D ba d mc ms (MO D ba QR QX below args s mc ms) 10 ad (QW i ad σ th ro f ma ap o) 134 [(9, .int (nI q)), (5, .int (nI u)), (0, .ref (ad [i])), (1, .int (nI j)), (2, .int (nI cl)), (3, .int (nI dm)), (4, .int (nI du))] [] 0 0) → V p l e s m args below meth c D ba d mc ms (MO D ba QR QX below args s mc ms) 10 ad (QW i ad σ th ro lo ma ap o) 74 [(9, .int (nI k)), (8, .int (nI (3000 / (6 * ds)))), (7, .int (nI l1)), (6, .int (nI hd0)), (5, .int (nI u)), (0, .ref (ad [i])), (1, .int (nI j)), (2, .int (nI cl)), (3, .int (nI dm)), (4, .int (nI du))] [] 0 0 := by
  intro n
  induction n with
  | zero =>
    intro k l1 lo hk hl1 K
    have h500 := lim_500 hds1
    refine V_iload C dX7_click_74 0 rfl ?_
    refine V_iload C dX7_click_76 1 rfl ?_
    refine V_icmpn_ge (tgt := 134) C dX7_click_78 (by decide) (by omega) (by omega) (fun hb1 => ?_) (fun hb1 => by exfalso; omega)
    refine V_lv [0, 4, 5, 6, 7, 8, 9] rfl ?_
    exact K k (by rw [show rowE hd0 dm ds 0 (k + 1) l1 = [] from rfl]; rfl) lo (by rw [show rowE hd0 dm ds 0 (k + 1) l1 = [] from rfl, wr_nil])
  | succ n ih =>
    intro k l1 lo hk hl1 K
    have h500 := lim_500 hds1
    have hnx := nx_b (dm := dm) hd9 hl1
    refine V_iload C dX7_click_74 0 rfl ?_
    refine V_iload C dX7_click_76 1 rfl ?_
    refine V_icmpn_ge (tgt := 134) C dX7_click_78 (by decide) (by omega) (by omega) (fun hb1 => ?_) (fun hb1 => ?_)
    · skip
      refine V_lv [0, 4, 5, 6, 7, 8, 9] rfl ?_
      exact K k (by rw [show rowE hd0 dm ds (n + 1) (k + 1) l1 = [] from rowE_end (fun z => absurd ((lim_iff hds1).mpr z) (by omega))]; rfl) lo (by rw [show rowE hd0 dm ds (n + 1) (k + 1) l1 = [] from rowE_end (fun z => absurd ((lim_iff hds1).mpr z) (by omega)), wr_nil])
    · skip
      refine V_iload C dX7_click_81 2 rfl ?_
      refine V_ifn_le (tgt := 134) C dX7_click_83 (by decide) (by omega) (fun hb2 => ?_) (fun hb2 => ?_)
      · skip
        refine V_lv [0, 4, 5, 6, 7, 8, 9] rfl ?_
        exact K k (by rw [show rowE hd0 dm ds (n + 1) (k + 1) l1 = [] from by rw [rowE, if_pos (by rw [hb2]; exact nx_0)]]; rfl) lo (by rw [show rowE hd0 dm ds (n + 1) (k + 1) l1 = [] from by rw [rowE, if_pos (by rw [hb2]; exact nx_0)], wr_nil])
      · skip
        refine V_iload C dX7_click_86 2 rfl ?_
        refine V_iload C dX7_click_88 3 rfl ?_
        refine V_imuln C dX7_click_90 ?_
        refine V_bipush (v := nI 100) C dX7_click_91 (by decide) ?_
        refine V_idivn C dX7_click_93 (by have := nx_b (dm := dm) hd9 hl1; omega) (by decide) (by decide) ?_
        refine V_bipush (v := nI 100) C dX7_click_94 (by decide) ?_
        refine V_iload_n C dX7_click_96 8 rfl ?_
        refine V_isubn C dX7_click_97 (by omega) ?_
        refine V_imuln C dX7_click_98 ?_
        refine V_bipush (v := nI 100) C dX7_click_99 (by decide) ?_
        refine V_idivn C dX7_click_101 (by have := nx_b (dm := dm) hd9 hl1; omega) (by decide) (by decide) ?_
        rw [show l1 * hd0 / 100 * (100 - dm) / 100 = nx hd0 dm l1 from rfl]
        refine V_istore C [(7, .int (nI (nx hd0 dm l1))), (9, .int (nI k)), (8, .int (nI (3000 / (6 * ds)))), (6, .int (nI hd0)), (5, .int (nI u)), (0, .ref (ad [i])), (1, .int (nI j)), (2, .int (nI cl)), (3, .int (nI dm)), (4, .int (nI du))] dX7_click_102 (by decide) rfl ?_
        refine V_iload C dX7_click_104 0 rfl ?_
        refine V_ifn_ne (tgt := 112) C dX7_click_106 (by decide) (by omega) (fun hb3 => ?_) (fun hb3 => ?_)
        · skip
          refine V_aload_n C dX7_click_112 5 rfl ?_
          refine V_get (ci := 6) (k := 13) C dX7_click_113 RX7 RX7 TX7 17 fw_X7 rfl (by decide) tw_681 rfl rfl QW_o rfl ?_
          refine V_sipush (v := nI 500) C dX7_click_116 (by decide) ?_
          refine V_iload C dX7_click_119 4 rfl ?_
          refine V_imuln C dX7_click_121 ?_
          refine V_iload C dX7_click_122 1 rfl ?_
          refine V_iaddn C dX7_click_124 ?_
          refine V_iload C dX7_click_125 0 rfl ?_
          refine V_iastn C dX7_click_127 rfl QW_9 (by omega) (by decide) ?_
          refine V_wd (w' := wset (QW i ad σ th ro lo ma ap o) ([i, 9]) (eI 3000 (upd lo ((500 * u) + k) (nI (nx hd0 dm l1))))) rfl ?_
          refine V_wd (w' := QW i ad σ th ro (upd lo (500 * u + k) (nI (nx hd0 dm l1))) ma ap o) QW_lo ?_
          refine V_iincn C [(9, .int (nI (k + 1))), (7, .int (nI (nx hd0 dm l1))), (8, .int (nI (3000 / (6 * ds)))), (6, .int (nI hd0)), (5, .int (nI u)), (0, .ref (ad [i])), (1, .int (nI j)), (2, .int (nI cl)), (3, .int (nI dm)), (4, .int (nI du))] dX7_click_128 1 rfl (by decide) rfl ?_
          refine V_goto (tgt := 74) C dX7_click_131 (by decide) ?_
          refine V_lv [0, 2, 1, 3, 4, 5, 6, 7, 8, 9] rfl ?_
          refine ih (k + 1) (nx hd0 dm l1) (upd lo (500 * u + k) (nI (nx hd0 dm l1))) (by omega) (by omega) (fun q hq f hf => K q ?_ f ?_)
          · rw [rowE, if_neg hb3, if_pos ((lim_iff hds1).mp (by omega)), List.length_cons, hq]; omega
          · rw [rowE, if_neg hb3, if_pos ((lim_iff hds1).mp (by omega)), wr_cons, hf]; rfl
        · skip
          refine V_goto (tgt := 74) C dX7_click_109 (by decide) ?_
          refine V_iload C dX7_click_74 1 rfl ?_
          refine V_iload C dX7_click_76 2 rfl ?_
          refine V_icmpn_ge (tgt := 134) C dX7_click_78 (by decide) (by omega) (by omega) (fun hb4 => by exfalso; omega) (fun hb4 => ?_)
          refine V_iload C dX7_click_81 0 rfl ?_
          refine V_ifn_le (tgt := 134) C dX7_click_83 (by decide) (by omega) (fun hb5 => ?_) (fun hb5 => by exfalso; omega)
          refine V_lv [1, 4, 5, 6, 7, 8, 9] rfl ?_
          exact K k (by rw [show rowE hd0 dm ds (n + 1) (k + 1) l1 = [] from by rw [rowE, if_pos hb3]]; rfl) lo (by rw [show rowE hd0 dm ds (n + 1) (k + 1) l1 = [] from by rw [rowE, if_pos hb3], wr_nil])
set_option maxHeartbeats 4000000 in
theorem lp_click {p : Program} {l : Launch} {e : Env} {s : State} {m : MethodId} {args : Array Value} {below : List Frame} {meth : Method} {c : Code} {D : va_G} {ba d mc ms : Nat} {ad : Adr} {QR : Option Value → Adr → Wd → Prop} {QX : String → Adr → Wd → Prop} (C : Cx p l s m args meth c D ba RX7 cX7_click 10 [] d) (hl : l.stackTraces = false) (hr : meth.sig.returnType = none) (hd : 4 ≤ d) {i : Nat} {σ : CS} {th ro : Int32} {lo ma ap : Nat → Int32} {o : Wd} (hσ : cOK σ) {j dm du cl : Nat} (hj : j < cN σ) (hdm : dm ≤ 90) (hdu : du ≤ 100) (hcl : cl ≤ 1000) (hq : QR none ad (QW i ad σ th (nI (hSc (cH σ j))) (clLo (cH σ j) dm du cl (hSc (cH σ j)) lo) (clMa (cH σ j) dm du cl (hSc (cH σ j)) ma) (clAp (cH σ j) (hSc (cH σ j)) ap) o))  : ∀ (n : Nat) (k : Nat), k + n = hSc (cH σ j) → V p l e s m args below meth c D ba d mc ms (MO D ba QR QX below args s mc ms) 10 ad (QW i ad σ th (nI (hSc (cH σ j))) (clLo (cH σ j) dm du cl k lo) (clMa (cH σ j) dm du cl k ma) (clAp (cH σ j) k ap) o) 13 [(5, .int (nI k)), (0, .ref (ad [i])), (1, .int (nI j)), (2, .int (nI cl)), (3, .int (nI dm)), (4, .int (nI du))] [] 0 0 := by
  intro n
  induction n with
  | zero =>
    intro k hk
    have hσ1 := hσ.1
    have hu := hσ.2.2.1 j hj
    have hu1 := hu.1
    have hu2 := hu.2.1
    have hu3 := hu.2.2.1
    have hu4 := hu.2.2.2.1
    refine V_iload C dX7_click_13 0 rfl ?_
    refine V_aload_n C dX7_click_15 1 rfl ?_
    refine V_get (ci := 6) (k := 16) C dX7_click_16 RX7 RX7 TX7 17 fw_X7 rfl (by decide) tw_684 rfl rfl QW_o rfl ?_
    refine V_icmpn_ge (tgt := 149) C dX7_click_19 (by decide) (by omega) (by omega) (fun hb1 => ?_) (fun hb1 => by exfalso; omega)
    exact V_vret C dX7_click_149 hr (by rw [show k = hSc (cH σ j) by omega]; exact hq) (by omega) (by omega)
  | succ n ih =>
    intro k hk
    have hσ1 := hσ.1
    have hu := hσ.2.2.1 j hj
    have hu1 := hu.1
    have hu2 := hu.2.1
    have hu3 := hu.2.2.1
    have hu4 := hu.2.2.2.1
    have hks : k < hSc (cH σ j) := by omega
    have hk9 := hu.2.2.2.2 k hks
    refine V_iload C dX7_click_13 0 rfl ?_
    refine V_aload_n C dX7_click_15 1 rfl ?_
    refine V_get (ci := 6) (k := 16) C dX7_click_16 RX7 RX7 TX7 17 fw_X7 rfl (by decide) tw_684 rfl rfl QW_o rfl ?_
    refine V_icmpn_ge (tgt := 149) C dX7_click_19 (by decide) (by omega) (by omega) (fun hb1 => by exfalso; omega) (fun hb1 => ?_)
    refine V_aload_n C dX7_click_22 1 rfl ?_
    refine V_iload_n C dX7_click_23 2 rfl ?_
    refine V_iload C dX7_click_24 0 rfl ?_
    refine V_iload C dX7_click_26 5 rfl ?_
    refine V_callV (r := (RX7, TX7, 17)) C [.int (nI j), .int (nI k), .int (nI du)] dX7_click_28 m_X7_hard k_X7_hard tw_794 rfl rfl rfl QW_o rfl rfl (Nat.le_of_ble_eq_true rfl) ⟨by omega, by omega, by omega, by omega⟩ (m_hard hl (by omega) hσ hj hks hdu) (kr_some (x := .int (nI ((hSu (cH σ j) k).1 - du / 5))) ?_) kx_no
    refine V_istore C [(6, .int (nI ((hSu (cH σ j) k).1 - du / 5))), (5, .int (nI k)), (0, .ref (ad [i])), (1, .int (nI j)), (2, .int (nI cl)), (3, .int (nI dm)), (4, .int (nI du))] dX7_click_31 (by decide) rfl ?_
    refine V_iload_n C dX7_click_33 4 rfl ?_
    refine V_istore C [(7, .int (nI cl)), (6, .int (nI ((hSu (cH σ j) k).1 - du / 5))), (5, .int (nI k)), (0, .ref (ad [i])), (1, .int (nI j)), (2, .int (nI cl)), (3, .int (nI dm)), (4, .int (nI du))] dX7_click_34 (by decide) rfl ?_
    refine V_aload_n C dX7_click_36 3 rfl ?_
    refine V_get (ci := 6) (k := 15) C dX7_click_37 RX7 RX7 TX7 17 fw_X7 rfl (by decide) tw_683 rfl rfl QW_o rfl ?_
    refine V_iload C dX7_click_40 2 rfl ?_
    refine V_bipush (v := nI 6) C dX7_click_42 (by decide) ?_
    refine V_aload_n C dX7_click_44 3 rfl ?_
    refine V_get (ci := 6) (k := 10) C dX7_click_45 RX7 RX7 TX7 17 fw_X7 rfl (by decide) tw_678 rfl rfl QW_o rfl ?_
    refine V_bipush (v := nI 6) C dX7_click_48 (by decide) ?_
    refine V_iload_n C dX7_click_50 4 rfl ?_
    refine V_imuln C dX7_click_51 ?_
    refine V_iload C dX7_click_52 2 rfl ?_
    refine V_iaddn C dX7_click_54 ?_
    refine V_ialdn (v := (nI ((hSu (cH σ j) k).2))) C dX7_click_55 rfl QW_6 (by omega) (by decide) (aDs_at hj hks (by omega)) ?_
    refine V_imuln C dX7_click_56 ?_
    refine V_iastn C dX7_click_57 rfl QW_11 (by omega) (by decide) ?_
    refine V_wd (w' := wset (QW i ad σ th (nI (hSc (cH σ j))) (clLo (cH σ j) dm du cl k lo) (clMa (cH σ j) dm du cl k ma) (clAp (cH σ j) k ap) o) ([i, 11]) (eI 6 (upd (clAp (cH σ j) k ap) k (nI (6 * ((hSu (cH σ j) k).2)))))) rfl ?_
    refine V_wd (w' := QW i ad σ th (nI (hSc (cH σ j))) (clLo (cH σ j) dm du cl k lo) (clMa (cH σ j) dm du cl k ma) (clAp (cH σ j) (k + 1) ap) o) QW_ap ?_
    refine V_sipush (v := nI 3000) C dX7_click_58 (by decide) ?_
    refine V_aload_n C dX7_click_61 3 rfl ?_
    refine V_get (ci := 6) (k := 15) C dX7_click_62 RX7 RX7 TX7 17 fw_X7 rfl (by decide) tw_683 rfl rfl QW_o rfl ?_
    refine V_iload C dX7_click_65 2 rfl ?_
    refine V_ialdn (v := (nI (6 * (hSu (cH σ j) k).2))) C dX7_click_67 rfl QW_11 (by omega) (by decide) (if_pos rfl) ?_
    refine V_idivn C dX7_click_68 (by decide) (by omega) (by omega) ?_
    refine V_istore C [(8, .int (nI (3000 / (6 * (hSu (cH σ j) k).2)))), (7, .int (nI cl)), (6, .int (nI ((hSu (cH σ j) k).1 - du / 5))), (5, .int (nI k)), (0, .ref (ad [i])), (1, .int (nI j)), (2, .int (nI cl)), (3, .int (nI dm)), (4, .int (nI du))] dX7_click_69 (by decide) rfl ?_
    refine V_iconst (v := nI 0) C dX7_click_71 (by decide) ?_
    refine V_istore C [(9, .int (nI 0)), (8, .int (nI (3000 / (6 * (hSu (cH σ j) k).2)))), (7, .int (nI cl)), (6, .int (nI ((hSu (cH σ j) k).1 - du / 5))), (5, .int (nI k)), (0, .ref (ad [i])), (1, .int (nI j)), (2, .int (nI cl)), (3, .int (nI dm)), (4, .int (nI du))] dX7_click_72 (by decide) rfl ?_
    refine V_lv [0, 1, 2, 3, 4, 5, 6, 7, 8, 9] rfl ?_
    refine lp_in C hl hr (by omega) (hd0 := (hSu (cH σ j) k).1 - du / 5) (ds := (hSu (cH σ j) k).2) (by omega) (by omega) hk9.2.1 hdm 500 0 cl _ (by omega) hcl (fun q hq f hf => ?_)
    rw [Nat.zero_add] at hq
    subst hq; subst hf
    refine V_lvE (lv' := [(9, .int (nI ((rowQ (cH σ j) dm du cl k).length))), (5, .int (nI k)), (0, .ref (ad [i])), (1, .int (nI j)), (2, .int (nI cl)), (3, .int (nI dm)), (4, .int (nI du))]) rfl ?_
    refine V_wd (w' := QW i ad σ th (nI (hSc (cH σ j))) (clLo (cH σ j) dm du cl (k + 1) lo) (clMa (cH σ j) dm du cl k ma) (clAp (cH σ j) (k + 1) ap) o) rfl ?_
    refine V_aload_n C dX7_click_134 2 rfl ?_
    refine V_get (ci := 6) (k := 14) C dX7_click_135 RX7 RX7 TX7 17 fw_X7 rfl (by decide) tw_682 rfl rfl QW_o rfl ?_
    refine V_iload C dX7_click_138 1 rfl ?_
    refine V_iload C dX7_click_140 0 rfl ?_
    refine V_iastn C dX7_click_142 rfl QW_10 (by omega) (by decide) ?_
    refine V_wd (w' := wset (QW i ad σ th (nI (hSc (cH σ j))) (clLo (cH σ j) dm du cl (k + 1) lo) (clMa (cH σ j) dm du cl k ma) (clAp (cH σ j) (k + 1) ap) o) ([i, 10]) (eI 6 (upd (clMa (cH σ j) dm du cl k ma) k (nI ((rowQ (cH σ j) dm du cl k).length))))) rfl ?_
    refine V_wd (w' := QW i ad σ th (nI (hSc (cH σ j))) (clLo (cH σ j) dm du cl (k + 1) lo) (clMa (cH σ j) dm du cl (k + 1) ma) (clAp (cH σ j) (k + 1) ap) o) QW_ma ?_
    refine V_iincn C [(5, .int (nI (k + 1))), (9, .int (nI ((rowQ (cH σ j) dm du cl k).length))), (0, .ref (ad [i])), (1, .int (nI j)), (2, .int (nI cl)), (3, .int (nI dm)), (4, .int (nI du))] dX7_click_143 1 rfl (by decide) rfl ?_
    refine V_goto (tgt := 13) C dX7_click_146 (by decide) ?_
    refine V_lv [0, 2, 3, 4, 5, 6] rfl ?_
    exact ih (k + 1) (by omega)
set_option maxHeartbeats 4000000 in
theorem m_click {l : Launch} {D : va_G} {ba d : Nat} {ad : Adr} (hl : l.stackTraces = false) (hd : 4 ≤ d) {i : Nat} {σ : CS} {th ro : Int32} {lo ma ap : Nat → Int32} {o : Wd} (hσ : cOK σ) {j cl dm du : Nat} (hj : j < cN σ) (hdm : dm ≤ 90) (hdu : du ≤ 100) (hcl : cl ≤ 1000)  : CT l yX7_click (wsO yX7_click cX7_click 10 none) d 0 0 D ba [.ref (ad [i]), .int (nI j), .int (nI cl), .int (nI dm), .int (nI du)] ad (QW i ad σ th ro lo ma ap o) (isR none ad (QW i ad σ th (nI (hSc (cH σ j))) (clLo (cH σ j) dm du cl (hSc (cH σ j)) lo) (clMa (cH σ j) dm du cl (hSc (cH σ j)) ma) (clAp (cH σ j) (hSc (cH σ j)) ap) o)) noX := by
  refine CT_of RX7 rfl (by decide +kernel) hl (Nat.le_of_ble_eq_true rfl) ?_
  intro p e s m args below meth c C hr hnm
  refine V_lvE (lv' := [(0, .ref (ad [i])), (1, .int (nI j)), (2, .int (nI cl)), (3, .int (nI dm)), (4, .int (nI du))]) rfl ?_
  have hσ1 := hσ.1
  have hσ2 := hσ.2.1
  have hu := hσ.2.2.1 j hj
  have hu1 := hu.1
  have hu2 := hu.2.1
  have hu3 := hu.2.2.1
  have hu4 := hu.2.2.2.1
  refine V_aload_n C dX7_click_0 0 rfl ?_
  refine V_aload_n C dX7_click_1 0 rfl ?_
  refine V_get (ci := 6) (k := 5) C dX7_click_2 RX7 RX7 TX7 17 fw_X7 rfl (by decide) tw_673 rfl rfl QW_o rfl ?_
  refine V_iload_n C dX7_click_5 1 rfl ?_
  refine V_ialdn (v := (nI (hSc (cH σ j)))) C dX7_click_6 rfl QW_1 (by omega) (by decide) (row0_in hj) ?_
  refine V_put (ci := 6) (k := 16) C dX7_click_7 RX7 RX7 TX7 17 tyX7 tyX7_ok nmX7 fw_X7 rfl (by decide) tw_684 rfl (Or.inl rfl) rfl rfl rfl QW_o (Nat.le_of_ble_eq_true rfl) ?_
  refine V_wd (w' := wset (QW i ad σ th ro lo ma ap o) ([i]) (.inr (6, [.int th, .int (nI (cN σ)), .int (nI (cK σ)), .int (cDay σ), .int (cIns σ), .ref (ad [i, 1]), .ref (ad [i, 2]), .ref (ad [i, 3]), .ref (ad [i, 4]), .ref (ad [i, 5]), .ref (ad [i, 6]), .ref (ad [i, 7]), .ref (ad [i, 8]), .ref (ad [i, 9]), .ref (ad [i, 10]), .ref (ad [i, 11]), .int (nI (hSc (cH σ j)))]))) rfl ?_
  refine V_wd (w' := QW i ad σ th (nI (hSc (cH σ j))) lo ma ap o) QW_ro ?_
  refine V_iconst (v := nI 0) C dX7_click_10 (by decide) ?_
  refine V_istore C [(5, .int (nI 0)), (0, .ref (ad [i])), (1, .int (nI j)), (2, .int (nI cl)), (3, .int (nI dm)), (4, .int (nI du))] dX7_click_11 (by decide) rfl ?_
  refine V_lv [0, 1, 2, 3, 4, 5] rfl ?_
  exact lp_click (ro := ro) C hl hr (by omega) hσ hj hdm hdu hcl ⟨rfl, rfl, rfl⟩ (hSc (cH σ j)) 0 (by omega)
set_option maxHeartbeats 4000000 in
theorem m_clickNow {l : Launch} {D : va_G} {ba d : Nat} {ad : Adr} (hl : l.stackTraces = false) (hd : 5 ≤ d) {i : Nat} {σ : CS} {th ro : Int32} {lo ma ap : Nat → Int32} {o : Wd} (hσ : cOK σ) {j cl : Nat} (hj : j < cN σ) (hcl : cl ≤ 1000)  : CT l yX7_clickNow (wsO yX7_clickNow cX7_clickNow 3 none) d 0 0 D ba [.ref (ad [i]), .int (nI j), .int (nI cl)] ad (QW i ad σ th ro lo ma ap o) (isR none ad (QW i ad σ th (nI (hSc (cH σ j))) (clLo (cH σ j) (hDm (cH σ j)) (hDu (cH σ j)) cl (hSc (cH σ j)) lo) (clMa (cH σ j) (hDm (cH σ j)) (hDu (cH σ j)) cl (hSc (cH σ j)) ma) (clAp (cH σ j) (hSc (cH σ j)) ap) o)) noX := by
  refine CT_of RX7 rfl (by decide +kernel) hl (Nat.le_of_ble_eq_true rfl) ?_
  intro p e s m args below meth c C hr hnm
  refine V_lvE (lv' := [(0, .ref (ad [i])), (1, .int (nI j)), (2, .int (nI cl))]) rfl ?_
  have hσ1 := hσ.1
  have hσ2 := hσ.2.1
  have hu := hσ.2.2.1 j hj
  have hu1 := hu.1
  have hu2 := hu.2.1
  have hu3 := hu.2.2.1
  have hu4 := hu.2.2.2.1
  refine V_aload_n C dX7_clickNow_0 0 rfl ?_
  refine V_iload_n C dX7_clickNow_1 1 rfl ?_
  refine V_iload_n C dX7_clickNow_2 2 rfl ?_
  refine V_aload_n C dX7_clickNow_3 0 rfl ?_
  refine V_get (ci := 6) (k := 6) C dX7_clickNow_4 RX7 RX7 TX7 17 fw_X7 rfl (by decide) tw_674 rfl rfl QW_o rfl ?_
  refine V_iload_n C dX7_clickNow_7 1 rfl ?_
  refine V_ialdn (v := (nI (hDm (cH σ j)))) C dX7_clickNow_8 rfl QW_2 (by omega) (by decide) (row0_in hj) ?_
  refine V_aload_n C dX7_clickNow_9 0 rfl ?_
  refine V_get (ci := 6) (k := 7) C dX7_clickNow_10 RX7 RX7 TX7 17 fw_X7 rfl (by decide) tw_675 rfl rfl QW_o rfl ?_
  refine V_iload_n C dX7_clickNow_13 1 rfl ?_
  refine V_ialdn (v := (nI (hDu (cH σ j)))) C dX7_clickNow_14 rfl QW_3 (by omega) (by decide) (row0_in hj) ?_
  refine V_callV (r := (RX7, TX7, 17)) C [.int (nI j), .int (nI cl), .int (nI (hDm (cH σ j))), .int (nI (hDu (cH σ j)))] dX7_clickNow_15 m_X7_click k_X7_click tw_790 rfl rfl rfl QW_o rfl rfl (Nat.le_of_ble_eq_true rfl) ⟨by omega, by omega, by omega, by omega⟩ (m_click hl (by omega) hσ hj hu2 hu3 hcl) (kr_none ?_) kx_no
  exact V_vret C dX7_clickNow_18 hr ⟨rfl, rfl, rfl⟩ (by omega) (by omega)
