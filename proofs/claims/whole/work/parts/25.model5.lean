/-- rows of echoes, as the reference lays them out: R u the u-th, Ds u its distance -/
def Laid (R : Nat → List (Nat × Nat)) (Ds : Nat → Nat) (N : Nat) (lo ma ap : Nat → Int32) : Prop := N ≤ 6 ∧ ∀ u, u < N → (ma u = nI (R u).length ∧ ap u = nI (6 * Ds u) ∧ ∀ k, k < (R u).length → lo (500 * u + k) = nI ((R u).getD k (0, 0)).2) ∧ ((R u).length ≤ 500 ∧ 1 ≤ Ds u ∧ Ds u ≤ 60 ∧ 6 * Ds u * (R u).length ≤ 3000) ∧ ∀ k, k < (R u).length → ((R u).getD k (0, 0)).2 ≤ 1000
def sumR (R : Nat → List (Nat × Nat)) : Nat → Nat := fun N => upF (fun u x => x + (R u).length) N 0
def fiR (R : Nat → List (Nat × Nat)) (Ds : Nat → Nat) : Nat → Int32 := fun N => upF (fun u b => if (R u).length = 0 then b else tFi (nI (6 * Ds u)) b) N (-1)
theorem fiR_s {R : Nat → List (Nat × Nat)} {Ds : Nat → Nat} {k : Nat} : fiR R Ds (k + 1) = if (R k).length = 0 then fiR R Ds k else tFi (nI (6 * Ds k)) (fiR R Ds k) := rfl
def laR (R : Nat → List (Nat × Nat)) (Ds : Nat → Nat) : Nat → Int32 := fun N => upF (fun u b => if (R u).length = 0 then b else tLa (nI (6 * Ds u * (R u).length)) b) N (-1)
theorem laR_s {R : Nat → List (Nat × Nat)} {Ds : Nat → Nat} {k : Nat} : laR R Ds (k + 1) = if (R k).length = 0 then laR R Ds k else tLa (nI (6 * Ds k * (R k).length)) (laR R Ds k) := rfl
/-- how many of the first echoes of a row are as loud as t -/
def pre (t : Int32) : List (Nat × Nat) → Nat
  | [] => 0
  | q :: R => if nI q.2 < t then 0 else pre t R + 1
def louR (t : Int32) (R : Nat → List (Nat × Nat)) : Nat → Nat := fun N => upF (fun u x => x + pre t (R u)) N 0
/-- what a row has at the moment mo -/
def ctr (R : List (Nat × Nat)) (D mo : Nat) : Nat := if mo % (6 * D) = 0 ∧ 0 < mo / (6 * D) ∧ mo / (6 * D) ≤ R.length then (R.getD (mo / (6 * D) - 1) (0, 0)).2 else 0
def atR (R : Nat → List (Nat × Nat)) (Ds : Nat → Nat) (mo : Nat) : Nat → Nat := fun N => upF (fun u x => x + ctr (R u) (Ds u) mo) N 0
/-- the loudest moment so far: when (-1: never), how loud -/
def stp (a mo : Nat) (p : Int32 × Nat) : Int32 × Nat := if a < p.2 then p else if a = p.2 ∧ p.1 ≤ nI mo then p else (nI mo, a)
def ldF (R : Nat → List (Nat × Nat)) (Ds : Nat → Nat) (N u : Nat) : Nat → Nat → Int32 × Nat → Int32 × Nat
  | 0, _, p => p
  | n + 1, k, p => ldF R Ds N u n (k + 1) (stp (atR R Ds (6 * Ds u * k) N) (6 * Ds u * k) p)
def ldR (R : Nat → List (Nat × Nat)) (Ds : Nat → Nat) (N : Nat) : Nat → Int32 × Nat := fun M => upF (fun u p => ldF R Ds N u (R u).length 1 p) M (-1, 0)
theorem pre_drop {t : Int32} {R : List (Nat × Nat)} {k : Nat} (h : k < R.length) : pre t (R.drop k) = if nI (R.getD k (0, 0)).2 < t then 0 else pre t (R.drop (k + 1)) + 1 := by
  rw [List.drop_eq_getElem_cons h, pre, List.getD_eq_getElem?_getD, List.getElem?_eq_getElem h]
  rfl
theorem pre_end {t : Int32} {R : List (Nat × Nat)} {k : Nat} (h : R.length ≤ k) : pre t (R.drop k) = 0 := by
  rw [List.drop_eq_nil_of_le h]; rfl
theorem pre_le {t : Int32} : ∀ R : List (Nat × Nat), pre t R ≤ R.length
  | [] => Nat.le_refl 0
  | q :: R => by
    have := pre_le (t := t) R
    rw [pre]
    split
    · exact Nat.zero_le _
    · simp only [List.length_cons]; omega
section L25
variable {R : Nat → List (Nat × Nat)} {Ds : Nat → Nat} {N : Nat} {lo ma ap : Nat → Int32}
theorem ctr_le (hL : Laid R Ds N lo ma ap) {u mo : Nat} (hu : u < N) : ctr (R u) (Ds u) mo ≤ 1000 := by
  unfold ctr
  split
  · rename_i h
    exact (hL.2 u hu).2.2 _ (by omega)
  · omega
theorem atR_le (hL : Laid R Ds N lo ma ap) {mo : Nat} : ∀ M, M ≤ N → atR R Ds mo M ≤ 1000 * M
  | 0, _ => Nat.le_refl 0
  | M + 1, h => by
    have h1 := atR_le hL (mo := mo) M (by omega)
    have h2 := ctr_le hL (mo := mo) (u := M) (by omega)
    show atR R Ds mo M + ctr (R M) (Ds M) mo ≤ 1000 * (M + 1)
    omega
theorem sumR_le (hL : Laid R Ds N lo ma ap) : ∀ M, M ≤ N → sumR R M ≤ 500 * M
  | 0, _ => Nat.le_refl 0
  | M + 1, h => by
    have h1 := sumR_le hL M (by omega)
    have h2 := (hL.2 M (by omega)).2.1.1
    show sumR R M + (R M).length ≤ 500 * (M + 1)
    omega
theorem louR_le (hL : Laid R Ds N lo ma ap) {t : Int32} : ∀ M, M ≤ N → louR t R M ≤ 500 * M
  | 0, _ => Nat.le_refl 0
  | M + 1, h => by
    have h1 := louR_le hL (t := t) M (by omega)
    have h2 := (hL.2 M (by omega)).2.1.1
    have h3 := pre_le (t := t) (R M)
    show louR t R M + pre t (R M) ≤ 500 * (M + 1)
    omega
end L25
set_option maxHeartbeats 4000000 in
theorem lp_all {p : Program} {l : Launch} {e : Env} {s : State} {m : MethodId} {args : Array Value} {below : List Frame} {meth : Method} {c : Code} {D : va_G} {ba d mc ms : Nat} {ad : Adr} {QR : Option Value → Adr → Wd → Prop} {QX : String → Adr → Wd → Prop} (C : Cx p l s m args meth c D ba RX7 cX7_all 3 [] d) (hl : l.stackTraces = false) (hr : meth.sig.returnType = (some .int)) (hd : 1 ≤ d) {i : Nat} {σ : CS} {th : Int32} {lo ma ap : Nat → Int32} {o : Wd} {R : Nat → List (Nat × Nat)} {Ds : Nat → Nat} {N : Nat} (hL : Laid R Ds N lo ma ap) (hq : QR (some (.int (nI (sumR R N)))) ad (QW i ad σ th (nI N) lo ma ap o))  : ∀ (n : Nat) (k : Nat), k + n = N → V p l e s m args below meth c D ba d mc ms (MO D ba QR QX below args s mc ms) 3 ad (QW i ad σ th (nI N) lo ma ap o) 4 [(2, .int (nI k)), (1, .int (nI (sumR R k))), (0, .ref (ad [i]))] [] 0 0 := by
  intro n
  induction n with
  | zero =>
    intro k hk
    have hL1 := hL.1
    refine V_iload_n C dX7_all_4 0 rfl ?_
    refine V_aload_n C dX7_all_5 2 rfl ?_
    refine V_get (ci := 6) (k := 16) C dX7_all_6 RX7 RX7 TX7 17 fw_X7 rfl (by decide) tw_684 rfl rfl QW_o rfl ?_
    refine V_icmpn_ge (tgt := 27) C dX7_all_9 (by decide) (by omega) (by omega) (fun hb1 => ?_) (fun hb1 => by exfalso; omega)
    refine V_iload_n C dX7_all_27 1 rfl ?_
    exact V_iret C .int dX7_all_28 hr rfl (by rw [show k = N by omega]; exact hq) (by omega) (by omega)
  | succ n ih =>
    intro k hk
    have hL1 := hL.1
    have hkN : k < N := by omega
    have hLk := hL.2 k hkN
    have hLl := hLk.2.1.1
    refine V_iload_n C dX7_all_4 0 rfl ?_
    refine V_aload_n C dX7_all_5 2 rfl ?_
    refine V_get (ci := 6) (k := 16) C dX7_all_6 RX7 RX7 TX7 17 fw_X7 rfl (by decide) tw_684 rfl rfl QW_o rfl ?_
    refine V_icmpn_ge (tgt := 27) C dX7_all_9 (by decide) (by omega) (by omega) (fun hb1 => by exfalso; omega) (fun hb1 => ?_)
    refine V_iload_n C dX7_all_12 1 rfl ?_
    refine V_aload_n C dX7_all_13 2 rfl ?_
    refine V_get (ci := 6) (k := 14) C dX7_all_14 RX7 RX7 TX7 17 fw_X7 rfl (by decide) tw_682 rfl rfl QW_o rfl ?_
    refine V_iload_n C dX7_all_17 0 rfl ?_
    refine V_ialdn (v := (nI ((R k).length))) C dX7_all_18 rfl QW_10 (by omega) (by decide) hLk.1.1 ?_
    refine V_iaddn C dX7_all_19 ?_
    refine V_istore_n C [(1, .int (nI ((sumR R k) + ((R k).length)))), (2, .int (nI k)), (0, .ref (ad [i]))] dX7_all_20 (by decide) rfl ?_
    refine V_iincn C [(2, .int (nI (k + 1))), (1, .int (nI ((sumR R k) + ((R k).length)))), (0, .ref (ad [i]))] dX7_all_21 1 rfl (by decide) rfl ?_
    refine V_goto (tgt := 4) C dX7_all_24 (by decide) ?_
    rw [show (sumR R k) + ((R k).length) = sumR R (k + 1) from rfl]
    refine V_lv [0, 1, 2] rfl ?_
    exact ih (k + 1) (by omega)
set_option maxHeartbeats 4000000 in
theorem m_all {l : Launch} {D : va_G} {ba d : Nat} {ad : Adr} (hl : l.stackTraces = false) (hd : 1 ≤ d) {i : Nat} {σ : CS} {th : Int32} {lo ma ap : Nat → Int32} {o : Wd} {R : Nat → List (Nat × Nat)} {Ds : Nat → Nat} {N : Nat} (hL : Laid R Ds N lo ma ap)  : CT l yX7_all (wsO yX7_all cX7_all 3 (some .int)) d 0 0 D ba [.ref (ad [i])] ad (QW i ad σ th (nI N) lo ma ap o) (isR (some (.int (nI (sumR R N)))) ad (QW i ad σ th (nI N) lo ma ap o)) noX := by
  refine CT_of RX7 rfl (by decide +kernel) hl (Nat.le_of_ble_eq_true rfl) ?_
  intro p e s m args below meth c C hr hnm
  refine V_lvE (lv' := [(0, .ref (ad [i]))]) rfl ?_
  have hL1 := hL.1
  refine V_iconst (v := nI 0) C dX7_all_0 (by decide) ?_
  refine V_istore_n C [(1, .int (nI 0)), (0, .ref (ad [i]))] dX7_all_1 (by decide) rfl ?_
  refine V_iconst (v := nI 0) C dX7_all_2 (by decide) ?_
  refine V_istore_n C [(2, .int (nI 0)), (1, .int (nI 0)), (0, .ref (ad [i]))] dX7_all_3 (by decide) rfl ?_
  refine V_lv [0, 1, 2] rfl ?_
  exact lp_all C hl hr (by omega) hL ⟨rfl, rfl, rfl⟩ N 0 (by omega)
set_option maxHeartbeats 4000000 in
theorem lp_first {p : Program} {l : Launch} {e : Env} {s : State} {m : MethodId} {args : Array Value} {below : List Frame} {meth : Method} {c : Code} {D : va_G} {ba d mc ms : Nat} {ad : Adr} {QR : Option Value → Adr → Wd → Prop} {QX : String → Adr → Wd → Prop} (C : Cx p l s m args meth c D ba RX7 cX7_first 3 [] d) (hl : l.stackTraces = false) (hr : meth.sig.returnType = (some .int)) (hd : 1 ≤ d) {i : Nat} {σ : CS} {th : Int32} {lo ma ap : Nat → Int32} {o : Wd} {R : Nat → List (Nat × Nat)} {Ds : Nat → Nat} {N : Nat} (hL : Laid R Ds N lo ma ap) (hq : QR (some (.int (fiR R Ds N))) ad (QW i ad σ th (nI N) lo ma ap o))  : ∀ (n : Nat) (k : Nat), k + n = N → V p l e s m args below meth c D ba d mc ms (MO D ba QR QX below args s mc ms) 3 ad (QW i ad σ th (nI N) lo ma ap o) 4 [(2, .int (nI k)), (1, .int (fiR R Ds k)), (0, .ref (ad [i]))] [] 0 0 := by
  intro n
  induction n with
  | zero =>
    intro k hk
    have hL1 := hL.1
    refine V_iload_n C dX7_first_4 0 rfl ?_
    refine V_aload_n C dX7_first_5 2 rfl ?_
    refine V_get (ci := 6) (k := 16) C dX7_first_6 RX7 RX7 TX7 17 fw_X7 rfl (by decide) tw_684 rfl rfl QW_o rfl ?_
    refine V_icmpn_ge (tgt := 49) C dX7_first_9 (by decide) (by omega) (by omega) (fun hb1 => ?_) (fun hb1 => by exfalso; omega)
    refine V_iload_n C dX7_first_49 1 rfl ?_
    exact V_iret C .int dX7_first_50 hr rfl (by rw [show k = N by omega]; exact hq) (by omega) (by omega)
  | succ n ih =>
    intro k hk
    have hL1 := hL.1
    have hkN : k < N := by omega
    have hLk := hL.2 k hkN
    have hLl := hLk.2.1.1
    refine V_iload_n C dX7_first_4 0 rfl ?_
    refine V_aload_n C dX7_first_5 2 rfl ?_
    refine V_get (ci := 6) (k := 16) C dX7_first_6 RX7 RX7 TX7 17 fw_X7 rfl (by decide) tw_684 rfl rfl QW_o rfl ?_
    refine V_icmpn_ge (tgt := 49) C dX7_first_9 (by decide) (by omega) (by omega) (fun hb1 => by exfalso; omega) (fun hb1 => ?_)
    refine V_aload_n C dX7_first_12 2 rfl ?_
    refine V_get (ci := 6) (k := 14) C dX7_first_13 RX7 RX7 TX7 17 fw_X7 rfl (by decide) tw_682 rfl rfl QW_o rfl ?_
    refine V_iload_n C dX7_first_16 0 rfl ?_
    refine V_ialdn (v := (nI ((R k).length))) C dX7_first_17 rfl QW_10 (by omega) (by decide) hLk.1.1 ?_
    refine V_ifn_le (tgt := 43) C dX7_first_18 (by decide) (by omega) (fun hb2 => ?_) (fun hb2 => ?_)
    · skip
      refine V_iincn C [(2, .int (nI (k + 1))), (1, .int (fiR R Ds k)), (0, .ref (ad [i]))] dX7_first_43 0 rfl (by decide) rfl ?_
      refine V_goto (tgt := 4) C dX7_first_46 (by decide) ?_
      rw [show fiR R Ds k = fiR R Ds (k + 1) from by rw [fiR_s, if_pos hb2]]
      refine V_lv [0, 1, 2] rfl ?_
      exact ih (k + 1) (by omega)
    · skip
      refine V_iload_n C dX7_first_21 1 rfl ?_
      refine V_iconst (v := -1) C dX7_first_22 (by decide) ?_
      refine V_icmp_eq (tgt := 36) C dX7_first_23 (by decide) (fun hb3 => ?_) (fun hb3 => ?_)
      · skip
        refine V_aload_n C dX7_first_36 2 rfl ?_
        refine V_get (ci := 6) (k := 15) C dX7_first_37 RX7 RX7 TX7 17 fw_X7 rfl (by decide) tw_683 rfl rfl QW_o rfl ?_
        refine V_iload_n C dX7_first_40 0 rfl ?_
        refine V_ialdn (v := (nI (6 * Ds k))) C dX7_first_41 rfl QW_11 (by omega) (by decide) hLk.1.2.1 ?_
        refine V_istore_n C [(1, .int (nI (6 * Ds k))), (2, .int (nI k)), (0, .ref (ad [i]))] dX7_first_42 (by decide) rfl ?_
        refine V_iincn C [(2, .int (nI (k + 1))), (1, .int (nI (6 * Ds k))), (0, .ref (ad [i]))] dX7_first_43 1 rfl (by decide) rfl ?_
        refine V_goto (tgt := 4) C dX7_first_46 (by decide) ?_
        rw [show nI (6 * Ds k) = fiR R Ds (k + 1) from by rw [fiR_s, if_neg (by omega), tFi, if_pos hb3]]
        refine V_lv [0, 1, 2] rfl ?_
        exact ih (k + 1) (by omega)
      · skip
        refine V_aload_n C dX7_first_26 2 rfl ?_
        refine V_get (ci := 6) (k := 15) C dX7_first_27 RX7 RX7 TX7 17 fw_X7 rfl (by decide) tw_683 rfl rfl QW_o rfl ?_
        refine V_iload_n C dX7_first_30 0 rfl ?_
        refine V_ialdn (v := (nI (6 * Ds k))) C dX7_first_31 rfl QW_11 (by omega) (by decide) hLk.1.2.1 ?_
        refine V_iload_n C dX7_first_32 1 rfl ?_
        refine V_icmp_ge (tgt := 43) C dX7_first_33 (by decide) (fun hb4 => ?_) (fun hb4 => ?_)
        · skip
          refine V_iincn C [(2, .int (nI (k + 1))), (1, .int (fiR R Ds k)), (0, .ref (ad [i]))] dX7_first_43 0 rfl (by decide) rfl ?_
          refine V_goto (tgt := 4) C dX7_first_46 (by decide) ?_
          rw [show fiR R Ds k = fiR R Ds (k + 1) from by rw [fiR_s, if_neg (by omega), tFi, if_neg hb3, if_pos hb4]]
          refine V_lv [0, 1, 2] rfl ?_
          exact ih (k + 1) (by omega)
        · skip
          refine V_aload_n C dX7_first_36 2 rfl ?_
          refine V_get (ci := 6) (k := 15) C dX7_first_37 RX7 RX7 TX7 17 fw_X7 rfl (by decide) tw_683 rfl rfl QW_o rfl ?_
          refine V_iload_n C dX7_first_40 0 rfl ?_
          refine V_ialdn (v := (nI (6 * Ds k))) C dX7_first_41 rfl QW_11 (by omega) (by decide) hLk.1.2.1 ?_
          refine V_istore_n C [(1, .int (nI (6 * Ds k))), (2, .int (nI k)), (0, .ref (ad [i]))] dX7_first_42 (by decide) rfl ?_
          refine V_iincn C [(2, .int (nI (k + 1))), (1, .int (nI (6 * Ds k))), (0, .ref (ad [i]))] dX7_first_43 1 rfl (by decide) rfl ?_
          refine V_goto (tgt := 4) C dX7_first_46 (by decide) ?_
          rw [show nI (6 * Ds k) = fiR R Ds (k + 1) from by rw [fiR_s, if_neg (by omega), tFi, if_neg hb3, if_neg hb4]]
          refine V_lv [0, 1, 2] rfl ?_
          exact ih (k + 1) (by omega)
set_option maxHeartbeats 4000000 in
theorem m_first {l : Launch} {D : va_G} {ba d : Nat} {ad : Adr} (hl : l.stackTraces = false) (hd : 1 ≤ d) {i : Nat} {σ : CS} {th : Int32} {lo ma ap : Nat → Int32} {o : Wd} {R : Nat → List (Nat × Nat)} {Ds : Nat → Nat} {N : Nat} (hL : Laid R Ds N lo ma ap)  : CT l yX7_first (wsO yX7_first cX7_first 3 (some .int)) d 0 0 D ba [.ref (ad [i])] ad (QW i ad σ th (nI N) lo ma ap o) (isR (some (.int (fiR R Ds N))) ad (QW i ad σ th (nI N) lo ma ap o)) noX := by
  refine CT_of RX7 rfl (by decide +kernel) hl (Nat.le_of_ble_eq_true rfl) ?_
  intro p e s m args below meth c C hr hnm
  refine V_lvE (lv' := [(0, .ref (ad [i]))]) rfl ?_
  have hL1 := hL.1
  refine V_iconst (v := -1) C dX7_first_0 (by decide) ?_
  refine V_istore_n C [(1, .int (-1)), (0, .ref (ad [i]))] dX7_first_1 (by decide) rfl ?_
  refine V_iconst (v := nI 0) C dX7_first_2 (by decide) ?_
  refine V_istore_n C [(2, .int (nI 0)), (1, .int (-1)), (0, .ref (ad [i]))] dX7_first_3 (by decide) rfl ?_
  refine V_lv [0, 1, 2] rfl ?_
  exact lp_first C hl hr (by omega) hL ⟨rfl, rfl, rfl⟩ N 0 (by omega)
theorem tLa_max {m la : Int32} : (if la < m then m else la) = tLa m la := by
  unfold tLa
  by_cases h : m ≤ la
  · rw [if_pos h, if_neg (Int32.not_lt.mpr h)]
  · rw [if_neg h, if_pos (Int32.not_le.mp h)]
set_option maxHeartbeats 4000000 in
theorem lp_last {p : Program} {l : Launch} {e : Env} {s : State} {m : MethodId} {args : Array Value} {below : List Frame} {meth : Method} {c : Code} {D : va_G} {ba d mc ms : Nat} {ad : Adr} {QR : Option Value → Adr → Wd → Prop} {QX : String → Adr → Wd → Prop} (C : Cx p l s m args meth c D ba RX7 cX7_last 3 [] d) (hl : l.stackTraces = false) (hr : meth.sig.returnType = (some .int)) (hd : 2 ≤ d) {i : Nat} {σ : CS} {th : Int32} {lo ma ap : Nat → Int32} {o : Wd} {R : Nat → List (Nat × Nat)} {Ds : Nat → Nat} {N : Nat} (hL : Laid R Ds N lo ma ap) (hq : QR (some (.int (laR R Ds N))) ad (QW i ad σ th (nI N) lo ma ap o))  : ∀ (n : Nat) (k : Nat), k + n = N → V p l e s m args below meth c D ba d mc ms (MO D ba QR QX below args s mc ms) 3 ad (QW i ad σ th (nI N) lo ma ap o) 4 [(2, .int (nI k)), (1, .int (laR R Ds k)), (0, .ref (ad [i]))] [] 0 0 := by
  intro n
  induction n with
  | zero =>
    intro k hk
    have hL1 := hL.1
    refine V_iload_n C dX7_last_4 0 rfl ?_
    refine V_aload_n C dX7_last_5 2 rfl ?_
    refine V_get (ci := 6) (k := 16) C dX7_last_6 RX7 RX7 TX7 17 fw_X7 rfl (by decide) tw_684 rfl rfl QW_o rfl ?_
    refine V_icmpn_ge (tgt := 45) C dX7_last_9 (by decide) (by omega) (by omega) (fun hb1 => ?_) (fun hb1 => by exfalso; omega)
    refine V_iload_n C dX7_last_45 1 rfl ?_
    exact V_iret C .int dX7_last_46 hr rfl (by rw [show k = N by omega]; exact hq) (by omega) (by omega)
  | succ n ih =>
    intro k hk
    have hL1 := hL.1
    have hkN : k < N := by omega
    have hLk := hL.2 k hkN
    have hLl := hLk.2.1.1
    refine V_iload_n C dX7_last_4 0 rfl ?_
    refine V_aload_n C dX7_last_5 2 rfl ?_
    refine V_get (ci := 6) (k := 16) C dX7_last_6 RX7 RX7 TX7 17 fw_X7 rfl (by decide) tw_684 rfl rfl QW_o rfl ?_
    refine V_icmpn_ge (tgt := 45) C dX7_last_9 (by decide) (by omega) (by omega) (fun hb1 => by exfalso; omega) (fun hb1 => ?_)
    refine V_aload_n C dX7_last_12 2 rfl ?_
    refine V_get (ci := 6) (k := 14) C dX7_last_13 RX7 RX7 TX7 17 fw_X7 rfl (by decide) tw_682 rfl rfl QW_o rfl ?_
    refine V_iload_n C dX7_last_16 0 rfl ?_
    refine V_ialdn (v := (nI ((R k).length))) C dX7_last_17 rfl QW_10 (by omega) (by decide) hLk.1.1 ?_
    refine V_ifn_le (tgt := 39) C dX7_last_18 (by decide) (by omega) (fun hb2 => ?_) (fun hb2 => ?_)
    · skip
      refine V_iincn C [(2, .int (nI (k + 1))), (1, .int (laR R Ds k)), (0, .ref (ad [i]))] dX7_last_39 0 rfl (by decide) rfl ?_
      refine V_goto (tgt := 4) C dX7_last_42 (by decide) ?_
      rw [show laR R Ds k = laR R Ds (k + 1) from by rw [laR_s, if_pos hb2]]
      refine V_lv [0, 1, 2] rfl ?_
      exact ih (k + 1) (by omega)
    · skip
      refine V_iload_n C dX7_last_21 1 rfl ?_
      refine V_aload_n C dX7_last_22 2 rfl ?_
      refine V_get (ci := 6) (k := 15) C dX7_last_23 RX7 RX7 TX7 17 fw_X7 rfl (by decide) tw_683 rfl rfl QW_o rfl ?_
      refine V_iload_n C dX7_last_26 0 rfl ?_
      refine V_ialdn (v := (nI (6 * Ds k))) C dX7_last_27 rfl QW_11 (by omega) (by decide) hLk.1.2.1 ?_
      refine V_aload_n C dX7_last_28 2 rfl ?_
      refine V_get (ci := 6) (k := 14) C dX7_last_29 RX7 RX7 TX7 17 fw_X7 rfl (by decide) tw_682 rfl rfl QW_o rfl ?_
      refine V_iload_n C dX7_last_32 0 rfl ?_
      refine V_ialdn (v := (nI ((R k).length))) C dX7_last_33 rfl QW_10 (by omega) (by decide) hLk.1.1 ?_
      refine V_imuln C dX7_last_34 ?_
      refine V_max C dX7_last_35 tw_798 tw_146 tw_15 tw_147 (by omega) (by simp [Value.category]; try omega) (by omega) (by omega) ?_
      refine V_istore_n C [(1, .int (if (laR R Ds k) < (nI ((6 * Ds k) * ((R k).length))) then (nI ((6 * Ds k) * ((R k).length))) else (laR R Ds k))), (2, .int (nI k)), (0, .ref (ad [i]))] dX7_last_38 (by decide) rfl ?_
      refine V_iincn C [(2, .int (nI (k + 1))), (1, .int (if (laR R Ds k) < (nI ((6 * Ds k) * ((R k).length))) then (nI ((6 * Ds k) * ((R k).length))) else (laR R Ds k))), (0, .ref (ad [i]))] dX7_last_39 1 rfl (by decide) rfl ?_
      refine V_goto (tgt := 4) C dX7_last_42 (by decide) ?_
      rw [show (if (laR R Ds k) < (nI ((6 * Ds k) * ((R k).length))) then (nI ((6 * Ds k) * ((R k).length))) else (laR R Ds k)) = laR R Ds (k + 1) from by rw [tLa_max, laR_s, if_neg (by omega)]]
      refine V_lv [0, 1, 2] rfl ?_
      exact ih (k + 1) (by omega)
set_option maxHeartbeats 4000000 in
theorem m_last {l : Launch} {D : va_G} {ba d : Nat} {ad : Adr} (hl : l.stackTraces = false) (hd : 2 ≤ d) {i : Nat} {σ : CS} {th : Int32} {lo ma ap : Nat → Int32} {o : Wd} {R : Nat → List (Nat × Nat)} {Ds : Nat → Nat} {N : Nat} (hL : Laid R Ds N lo ma ap)  : CT l yX7_last (wsO yX7_last cX7_last 3 (some .int)) d 0 0 D ba [.ref (ad [i])] ad (QW i ad σ th (nI N) lo ma ap o) (isR (some (.int (laR R Ds N))) ad (QW i ad σ th (nI N) lo ma ap o)) noX := by
  refine CT_of RX7 rfl (by decide +kernel) hl (Nat.le_of_ble_eq_true rfl) ?_
  intro p e s m args below meth c C hr hnm
  refine V_lvE (lv' := [(0, .ref (ad [i]))]) rfl ?_
  have hL1 := hL.1
  refine V_iconst (v := -1) C dX7_last_0 (by decide) ?_
  refine V_istore_n C [(1, .int (-1)), (0, .ref (ad [i]))] dX7_last_1 (by decide) rfl ?_
  refine V_iconst (v := nI 0) C dX7_last_2 (by decide) ?_
  refine V_istore_n C [(2, .int (nI 0)), (1, .int (-1)), (0, .ref (ad [i]))] dX7_last_3 (by decide) rfl ?_
  refine V_lv [0, 1, 2] rfl ?_
  exact lp_last C hl hr (by omega) hL ⟨rfl, rfl, rfl⟩ N 0 (by omega)
set_option maxHeartbeats 4000000 in
theorem lp_at {p : Program} {l : Launch} {e : Env} {s : State} {m : MethodId} {args : Array Value} {below : List Frame} {meth : Method} {c : Code} {D : va_G} {ba d mc ms : Nat} {ad : Adr} {QR : Option Value → Adr → Wd → Prop} {QX : String → Adr → Wd → Prop} (C : Cx p l s m args meth c D ba RX7 cX7_at 5 [] d) (hl : l.stackTraces = false) (hr : meth.sig.returnType = (some .int)) (hd : 1 ≤ d) {i : Nat} {σ : CS} {th : Int32} {lo ma ap : Nat → Int32} {o : Wd} {R : Nat → List (Nat × Nat)} {Ds : Nat → Nat} {N : Nat} (hL : Laid R Ds N lo ma ap) {mo : Nat} (hmo : mo ≤ 3000) (hq : QR (some (.int (nI (atR R Ds mo N)))) ad (QW i ad σ th (nI N) lo ma ap o))  : ∀ (n : Nat) (k : Nat), k + n = N → V p l e s m args below meth c D ba d mc ms (MO D ba QR QX below args s mc ms) 5 ad (QW i ad σ th (nI N) lo ma ap o) 4 [(3, .int (nI k)), (2, .int (nI (atR R Ds mo k))), (0, .ref (ad [i])), (1, .int (nI mo))] [] 0 0 := by
  intro n
  induction n with
  | zero =>
    intro k hk
    have hL1 := hL.1
    refine V_iload_n C dX7_at_4 0 rfl ?_
    refine V_aload_n C dX7_at_5 2 rfl ?_
    refine V_get (ci := 6) (k := 16) C dX7_at_6 RX7 RX7 TX7 17 fw_X7 rfl (by decide) tw_684 rfl rfl QW_o rfl ?_
    refine V_icmpn_ge (tgt := 73) C dX7_at_9 (by decide) (by omega) (by omega) (fun hb1 => ?_) (fun hb1 => by exfalso; omega)
    refine V_iload_n C dX7_at_73 1 rfl ?_
    exact V_iret C .int dX7_at_74 hr rfl (by rw [show k = N by omega]; exact hq) (by omega) (by omega)
  | succ n ih =>
    intro k hk
    have hL1 := hL.1
    have hkN : k < N := by omega
    have hLk := hL.2 k hkN
    have hLl := hLk.2.1.1
    refine V_iload_n C dX7_at_4 0 rfl ?_
    refine V_aload_n C dX7_at_5 2 rfl ?_
    refine V_get (ci := 6) (k := 16) C dX7_at_6 RX7 RX7 TX7 17 fw_X7 rfl (by decide) tw_684 rfl rfl QW_o rfl ?_
    refine V_icmpn_ge (tgt := 73) C dX7_at_9 (by decide) (by omega) (by omega) (fun hb1 => by exfalso; omega) (fun hb1 => ?_)
    refine V_iload_n C dX7_at_12 3 rfl ?_
    refine V_aload_n C dX7_at_13 2 rfl ?_
    refine V_get (ci := 6) (k := 15) C dX7_at_14 RX7 RX7 TX7 17 fw_X7 rfl (by decide) tw_683 rfl rfl QW_o rfl ?_
    refine V_iload_n C dX7_at_17 0 rfl ?_
    refine V_ialdn (v := (nI (6 * Ds k))) C dX7_at_18 rfl QW_11 (by omega) (by decide) hLk.1.2.1 ?_
    refine V_idivn C dX7_at_19 (by omega) (by omega) (by omega) ?_
    refine V_istore C [(4, .int (nI (mo / (6 * Ds k)))), (3, .int (nI k)), (2, .int (nI (atR R Ds mo k))), (0, .ref (ad [i])), (1, .int (nI mo))] dX7_at_20 (by decide) rfl ?_
    refine V_iload_n C dX7_at_22 4 rfl ?_
    refine V_aload_n C dX7_at_23 3 rfl ?_
    refine V_get (ci := 6) (k := 15) C dX7_at_24 RX7 RX7 TX7 17 fw_X7 rfl (by decide) tw_683 rfl rfl QW_o rfl ?_
    refine V_iload_n C dX7_at_27 1 rfl ?_
    refine V_ialdn (v := (nI (6 * Ds k))) C dX7_at_28 rfl QW_11 (by omega) (by decide) hLk.1.2.1 ?_
    refine V_iremn C dX7_at_29 (by omega) (by omega) (by omega) ?_
    have hrem : mo % (6 * Ds k) ≤ mo := Nat.mod_le _ _
    have hdiv : mo / (6 * Ds k) ≤ mo := Nat.div_le_self _ _
    refine V_ifn_ne (tgt := 67) C dX7_at_30 (by decide) (by omega) (fun hb2 => ?_) (fun hb2 => ?_)
    · skip
      refine V_iincn C [(3, .int (nI (k + 1))), (4, .int (nI (mo / (6 * Ds k)))), (2, .int (nI (atR R Ds mo k))), (0, .ref (ad [i])), (1, .int (nI mo))] dX7_at_67 1 rfl (by decide) rfl ?_
      refine V_goto (tgt := 4) C dX7_at_70 (by decide) ?_
      rw [show atR R Ds mo k = atR R Ds mo (k + 1) from by show _ = atR R Ds mo k + ctr (R k) (Ds k) mo; rw [ctr, if_neg (fun z => by omega), Nat.add_zero]]
      refine V_lv [0, 2, 3, 4] rfl ?_
      exact ih (k + 1) (by omega)
    · skip
      refine V_iload C dX7_at_33 0 rfl ?_
      refine V_ifn_le (tgt := 67) C dX7_at_35 (by decide) (by omega) (fun hb3 => ?_) (fun hb3 => ?_)
      · skip
        refine V_iincn C [(3, .int (nI (k + 1))), (4, .int (nI (mo / (6 * Ds k)))), (2, .int (nI (atR R Ds mo k))), (0, .ref (ad [i])), (1, .int (nI mo))] dX7_at_67 1 rfl (by decide) rfl ?_
        refine V_goto (tgt := 4) C dX7_at_70 (by decide) ?_
        rw [show atR R Ds mo k = atR R Ds mo (k + 1) from by show _ = atR R Ds mo k + ctr (R k) (Ds k) mo; rw [ctr, if_neg (fun z => by omega), Nat.add_zero]]
        refine V_lv [0, 2, 3, 4] rfl ?_
        exact ih (k + 1) (by omega)
      · skip
        refine V_iload C dX7_at_38 0 rfl ?_
        refine V_aload_n C dX7_at_40 3 rfl ?_
        refine V_get (ci := 6) (k := 14) C dX7_at_41 RX7 RX7 TX7 17 fw_X7 rfl (by decide) tw_682 rfl rfl QW_o rfl ?_
        refine V_iload_n C dX7_at_44 1 rfl ?_
        refine V_ialdn (v := (nI ((R k).length))) C dX7_at_45 rfl QW_10 (by omega) (by decide) hLk.1.1 ?_
        refine V_icmpn_gt (tgt := 67) C dX7_at_46 (by decide) (by omega) (by omega) (fun hb4 => ?_) (fun hb4 => ?_)
        · skip
          refine V_iincn C [(3, .int (nI (k + 1))), (4, .int (nI (mo / (6 * Ds k)))), (2, .int (nI (atR R Ds mo k))), (0, .ref (ad [i])), (1, .int (nI mo))] dX7_at_67 1 rfl (by decide) rfl ?_
          refine V_goto (tgt := 4) C dX7_at_70 (by decide) ?_
          rw [show atR R Ds mo k = atR R Ds mo (k + 1) from by show _ = atR R Ds mo k + ctr (R k) (Ds k) mo; rw [ctr, if_neg (fun z => by omega), Nat.add_zero]]
          refine V_lv [0, 2, 3, 4] rfl ?_
          exact ih (k + 1) (by omega)
        · skip
          refine V_iload_n C dX7_at_49 2 rfl ?_
          refine V_aload_n C dX7_at_50 3 rfl ?_
          refine V_get (ci := 6) (k := 13) C dX7_at_51 RX7 RX7 TX7 17 fw_X7 rfl (by decide) tw_681 rfl rfl QW_o rfl ?_
          refine V_sipush (v := nI 500) C dX7_at_54 (by decide) ?_
          refine V_iload_n C dX7_at_57 1 rfl ?_
          refine V_imuln C dX7_at_58 ?_
          refine V_iload C dX7_at_59 0 rfl ?_
          refine V_iaddn C dX7_at_61 ?_
          refine V_iconst (v := nI 1) C dX7_at_62 (by decide) ?_
          refine V_isubn C dX7_at_63 (by omega) ?_
          refine V_ialdn (v := (nI (((R k).getD (mo / (6 * Ds k) - 1) (0, 0)).2))) C dX7_at_64 rfl QW_9 (by omega) (by decide) (by rw [Nat.add_sub_assoc (by omega)]; exact hLk.1.2.2 _ (by omega)) ?_
          refine V_iaddn C dX7_at_65 ?_
          refine V_istore_n C [(2, .int (nI ((atR R Ds mo k) + (((R k).getD (mo / (6 * Ds k) - 1) (0, 0)).2)))), (4, .int (nI (mo / (6 * Ds k)))), (3, .int (nI k)), (0, .ref (ad [i])), (1, .int (nI mo))] dX7_at_66 (by decide) rfl ?_
          refine V_iincn C [(3, .int (nI (k + 1))), (2, .int (nI ((atR R Ds mo k) + (((R k).getD (mo / (6 * Ds k) - 1) (0, 0)).2)))), (4, .int (nI (mo / (6 * Ds k)))), (0, .ref (ad [i])), (1, .int (nI mo))] dX7_at_67 2 rfl (by decide) rfl ?_
          refine V_goto (tgt := 4) C dX7_at_70 (by decide) ?_
          rw [show (atR R Ds mo k) + (((R k).getD (mo / (6 * Ds k) - 1) (0, 0)).2) = atR R Ds mo (k + 1) from by show _ = atR R Ds mo k + ctr (R k) (Ds k) mo; rw [ctr, if_pos ⟨by omega, by omega, by omega⟩]]
          refine V_lv [0, 1, 3, 4] rfl ?_
          exact ih (k + 1) (by omega)
set_option maxHeartbeats 4000000 in
theorem m_at {l : Launch} {D : va_G} {ba d : Nat} {ad : Adr} (hl : l.stackTraces = false) (hd : 1 ≤ d) {i : Nat} {σ : CS} {th : Int32} {lo ma ap : Nat → Int32} {o : Wd} {R : Nat → List (Nat × Nat)} {Ds : Nat → Nat} {N : Nat} (hL : Laid R Ds N lo ma ap) {mo : Nat} (hmo : mo ≤ 3000)  : CT l yX7_at (wsO yX7_at cX7_at 5 (some .int)) d 0 0 D ba [.ref (ad [i]), .int (nI mo)] ad (QW i ad σ th (nI N) lo ma ap o) (isR (some (.int (nI (atR R Ds mo N)))) ad (QW i ad σ th (nI N) lo ma ap o)) noX := by
  refine CT_of RX7 rfl (by decide +kernel) hl (Nat.le_of_ble_eq_true rfl) ?_
  intro p e s m args below meth c C hr hnm
  refine V_lvE (lv' := [(0, .ref (ad [i])), (1, .int (nI mo))]) rfl ?_
  have hL1 := hL.1
  refine V_iconst (v := nI 0) C dX7_at_0 (by decide) ?_
  refine V_istore_n C [(2, .int (nI 0)), (0, .ref (ad [i])), (1, .int (nI mo))] dX7_at_1 (by decide) rfl ?_
  refine V_iconst (v := nI 0) C dX7_at_2 (by decide) ?_
  refine V_istore_n C [(3, .int (nI 0)), (2, .int (nI 0)), (0, .ref (ad [i])), (1, .int (nI mo))] dX7_at_3 (by decide) rfl ?_
  refine V_lv [0, 1, 2, 3] rfl ?_
  exact lp_at C hl hr (by omega) hL hmo ⟨rfl, rfl, rfl⟩ N 0 (by omega)
set_option maxHeartbeats 4000000 in
theorem lp_lin {p : Program} {l : Launch} {e : Env} {s : State} {m : MethodId} {args : Array Value} {below : List Frame} {meth : Method} {c : Code} {D : va_G} {ba d mc ms : Nat} {ad : Adr} {QR : Option Value → Adr → Wd → Prop} {QX : String → Adr → Wd → Prop} (C : Cx p l s m args meth c D ba RX7 cX7_louder 5 [] d) (hl : l.stackTraces = false) (hr : meth.sig.returnType = (some .int)) (hd : 1 ≤ d) {i : Nat} {σ : CS} {th : Int32} {lo ma ap : Nat → Int32} {o : Wd} {R : Nat → List (Nat × Nat)} {Ds : Nat → Nat} {N : Nat} (hL : Laid R Ds N lo ma ap) {u x : Nat} {t : Int32} (hu : u < N)  : ∀ (n : Nat) (k : Nat), k + n = (R u).length → (∀ q, q = k + pre t ((R u).drop k) → V p l e s m args below meth c D ba d mc ms (MO D ba QR QX below args s mc ms) 5 ad (QW i ad σ th (nI N) lo ma ap o) 49 [(4, .int (nI q)), (3, .int (nI u)), (2, .int (nI x)), (0, .ref (ad [i])), (1, .int t)] [] 0 0) → V p l e s m args below meth c D ba d mc ms (MO D ba QR QX below args s mc ms) 5 ad (QW i ad σ th (nI N) lo ma ap o) 15 [(4, .int (nI k)), (3, .int (nI u)), (2, .int (nI x)), (0, .ref (ad [i])), (1, .int t)] [] 0 0 := by
  intro n
  induction n with
  | zero =>
    intro k hk K
    have hL1 := hL.1
    have hLu := hL.2 u hu
    have hLl := hLu.2.1.1
    refine V_iload C dX7_louder_15 0 rfl ?_
    refine V_aload_n C dX7_louder_17 3 rfl ?_
    refine V_get (ci := 6) (k := 14) C dX7_louder_18 RX7 RX7 TX7 17 fw_X7 rfl (by decide) tw_682 rfl rfl QW_o rfl ?_
    refine V_iload_n C dX7_louder_21 1 rfl ?_
    refine V_ialdn (v := (nI ((R u).length))) C dX7_louder_22 rfl QW_10 (by omega) (by decide) hLu.1.1 ?_
    refine V_icmpn_ge (tgt := 49) C dX7_louder_23 (by decide) (by omega) (by omega) (fun hb1 => ?_) (fun hb1 => by exfalso; omega)
    refine V_lv [0, 1, 2, 3, 4] rfl ?_
    exact K k (by rw [pre_end (by omega)]; rfl)
  | succ n ih =>
    intro k hk K
    have hL1 := hL.1
    have hLu := hL.2 u hu
    have hLl := hLu.2.1.1
    have hkl : k < (R u).length := by omega
    refine V_iload C dX7_louder_15 0 rfl ?_
    refine V_aload_n C dX7_louder_17 3 rfl ?_
    refine V_get (ci := 6) (k := 14) C dX7_louder_18 RX7 RX7 TX7 17 fw_X7 rfl (by decide) tw_682 rfl rfl QW_o rfl ?_
    refine V_iload_n C dX7_louder_21 1 rfl ?_
    refine V_ialdn (v := (nI ((R u).length))) C dX7_louder_22 rfl QW_10 (by omega) (by decide) hLu.1.1 ?_
    refine V_icmpn_ge (tgt := 49) C dX7_louder_23 (by decide) (by omega) (by omega) (fun hb1 => by exfalso; omega) (fun hb1 => ?_)
    refine V_aload_n C dX7_louder_26 3 rfl ?_
    refine V_get (ci := 6) (k := 13) C dX7_louder_27 RX7 RX7 TX7 17 fw_X7 rfl (by decide) tw_681 rfl rfl QW_o rfl ?_
    refine V_sipush (v := nI 500) C dX7_louder_30 (by decide) ?_
    refine V_iload_n C dX7_louder_33 1 rfl ?_
    refine V_imuln C dX7_louder_34 ?_
    refine V_iload C dX7_louder_35 0 rfl ?_
    refine V_iaddn C dX7_louder_37 ?_
    refine V_ialdn (v := (nI (((R u).getD k (0, 0)).2))) C dX7_louder_38 rfl QW_9 (by omega) (by decide) (hLu.1.2.2 k hkl) ?_
    refine V_iload_n C dX7_louder_39 4 rfl ?_
    refine V_icmp_lt (tgt := 49) C dX7_louder_40 (by decide) (fun hb2 => ?_) (fun hb2 => ?_)
    · skip
      refine V_lv [0, 1, 2, 3, 4] rfl ?_
      exact K k (by rw [pre_drop hkl, if_pos hb2]; rfl)
    · skip
      refine V_iincn C [(4, .int (nI (k + 1))), (3, .int (nI u)), (2, .int (nI x)), (0, .ref (ad [i])), (1, .int t)] dX7_louder_43 0 rfl (by decide) rfl ?_
      refine V_goto (tgt := 15) C dX7_louder_46 (by decide) ?_
      refine V_lv [0, 1, 2, 3, 4] rfl ?_
      exact ih (k + 1) (by omega) (fun q hq => K q (by rw [pre_drop hkl, if_neg hb2]; omega))
set_option maxHeartbeats 4000000 in
theorem lp_louder {p : Program} {l : Launch} {e : Env} {s : State} {m : MethodId} {args : Array Value} {below : List Frame} {meth : Method} {c : Code} {D : va_G} {ba d mc ms : Nat} {ad : Adr} {QR : Option Value → Adr → Wd → Prop} {QX : String → Adr → Wd → Prop} (C : Cx p l s m args meth c D ba RX7 cX7_louder 5 [] d) (hl : l.stackTraces = false) (hr : meth.sig.returnType = (some .int)) (hd : 1 ≤ d) {i : Nat} {σ : CS} {th : Int32} {lo ma ap : Nat → Int32} {o : Wd} {R : Nat → List (Nat × Nat)} {Ds : Nat → Nat} {N : Nat} (hL : Laid R Ds N lo ma ap) {t : Int32} (hq : QR (some (.int (nI (louR t R N)))) ad (QW i ad σ th (nI N) lo ma ap o))  : ∀ (n : Nat) (k : Nat), k + n = N → V p l e s m args below meth c D ba d mc ms (MO D ba QR QX below args s mc ms) 5 ad (QW i ad σ th (nI N) lo ma ap o) 4 [(3, .int (nI k)), (2, .int (nI (louR t R k))), (0, .ref (ad [i])), (1, .int t)] [] 0 0 := by
  intro n
  induction n with
  | zero =>
    intro k hk
    have hL1 := hL.1
    refine V_iload_n C dX7_louder_4 0 rfl ?_
    refine V_aload_n C dX7_louder_5 2 rfl ?_
    refine V_get (ci := 6) (k := 16) C dX7_louder_6 RX7 RX7 TX7 17 fw_X7 rfl (by decide) tw_684 rfl rfl QW_o rfl ?_
    refine V_icmpn_ge (tgt := 60) C dX7_louder_9 (by decide) (by omega) (by omega) (fun hb1 => ?_) (fun hb1 => by exfalso; omega)
    refine V_iload_n C dX7_louder_60 1 rfl ?_
    exact V_iret C .int dX7_louder_61 hr rfl (by rw [show k = N by omega]; exact hq) (by omega) (by omega)
  | succ n ih =>
    intro k hk
    have hL1 := hL.1
    have hkN : k < N := by omega
    have hLk := hL.2 k hkN
    have hLl := hLk.2.1.1
    refine V_iload_n C dX7_louder_4 0 rfl ?_
    refine V_aload_n C dX7_louder_5 2 rfl ?_
    refine V_get (ci := 6) (k := 16) C dX7_louder_6 RX7 RX7 TX7 17 fw_X7 rfl (by decide) tw_684 rfl rfl QW_o rfl ?_
    refine V_icmpn_ge (tgt := 60) C dX7_louder_9 (by decide) (by omega) (by omega) (fun hb1 => by exfalso; omega) (fun hb1 => ?_)
    refine V_iconst (v := nI 0) C dX7_louder_12 (by decide) ?_
    refine V_istore C [(4, .int (nI 0)), (3, .int (nI k)), (2, .int (nI (louR t R k))), (0, .ref (ad [i])), (1, .int t)] dX7_louder_13 (by decide) rfl ?_
    refine V_lv [0, 1, 2, 3, 4] rfl ?_
    refine lp_lin C hl hr (by omega) hL hkN (R k).length 0 (by omega) (fun q hq => ?_)
    rw [Nat.zero_add, List.drop_zero] at hq
    subst hq
    refine V_iload_n C dX7_louder_49 2 rfl ?_
    refine V_iload C dX7_louder_50 0 rfl ?_
    refine V_iaddn C dX7_louder_52 ?_
    refine V_istore_n C [(2, .int (nI ((louR t R k) + (pre t (R k))))), (4, .int (nI (pre t (R k)))), (3, .int (nI k)), (0, .ref (ad [i])), (1, .int t)] dX7_louder_53 (by decide) rfl ?_
    refine V_iincn C [(3, .int (nI (k + 1))), (2, .int (nI ((louR t R k) + (pre t (R k))))), (4, .int (nI (pre t (R k)))), (0, .ref (ad [i])), (1, .int t)] dX7_louder_54 2 rfl (by decide) rfl ?_
    refine V_goto (tgt := 4) C dX7_louder_57 (by decide) ?_
    rw [show (louR t R k) + (pre t (R k)) = louR t R (k + 1) from rfl]
    refine V_lv [0, 1, 3, 4] rfl ?_
    exact ih (k + 1) (by omega)
set_option maxHeartbeats 4000000 in
theorem m_louder {l : Launch} {D : va_G} {ba d : Nat} {ad : Adr} (hl : l.stackTraces = false) (hd : 1 ≤ d) {i : Nat} {σ : CS} {th : Int32} {lo ma ap : Nat → Int32} {o : Wd} {R : Nat → List (Nat × Nat)} {Ds : Nat → Nat} {N : Nat} (hL : Laid R Ds N lo ma ap) {t : Int32}  : CT l yX7_louder (wsO yX7_louder cX7_louder 5 (some .int)) d 0 0 D ba [.ref (ad [i]), .int t] ad (QW i ad σ th (nI N) lo ma ap o) (isR (some (.int (nI (louR t R N)))) ad (QW i ad σ th (nI N) lo ma ap o)) noX := by
  refine CT_of RX7 rfl (by decide +kernel) hl (Nat.le_of_ble_eq_true rfl) ?_
  intro p e s m args below meth c C hr hnm
  refine V_lvE (lv' := [(0, .ref (ad [i])), (1, .int t)]) rfl ?_
  have hL1 := hL.1
  refine V_iconst (v := nI 0) C dX7_louder_0 (by decide) ?_
  refine V_istore_n C [(2, .int (nI 0)), (0, .ref (ad [i])), (1, .int t)] dX7_louder_1 (by decide) rfl ?_
  refine V_iconst (v := nI 0) C dX7_louder_2 (by decide) ?_
  refine V_istore_n C [(3, .int (nI 0)), (2, .int (nI 0)), (0, .ref (ad [i])), (1, .int t)] dX7_louder_3 (by decide) rfl ?_
  refine V_lv [0, 1, 2, 3] rfl ?_
  exact lp_louder C hl hr (by omega) hL ⟨rfl, rfl, rfl⟩ N 0 (by omega)
theorem stp_le {a mo : Nat} {p : Int32 × Nat} (h1 : a ≤ 6000) (h2 : p.2 ≤ 6000) : (stp a mo p).2 ≤ 6000 := by
  unfold stp
  split
  · exact h2
  · split
    · exact h2
    · exact h1
theorem ldF_le {R : Nat → List (Nat × Nat)} {Ds : Nat → Nat} {N u : Nat} (h : ∀ mo, atR R Ds mo N ≤ 6000) : ∀ n k p, p.2 ≤ 6000 → (ldF R Ds N u n k p).2 ≤ 6000
  | 0, _, _, hp => hp
  | n + 1, k, p, hp => ldF_le h n (k + 1) _ (stp_le (h _) hp)
theorem ldR_le {R : Nat → List (Nat × Nat)} {Ds : Nat → Nat} {N : Nat} (h : ∀ mo, atR R Ds mo N ≤ 6000) : ∀ M, (ldR R Ds N M).2 ≤ 6000
  | 0 => Nat.zero_le _
  | M + 1 => ldF_le h _ _ _ (ldR_le h M)
set_option maxHeartbeats 4000000 in
theorem lp_ld1 {p : Program} {l : Launch} {e : Env} {s : State} {m : MethodId} {args : Array Value} {below : List Frame} {meth : Method} {c : Code} {D : va_G} {ba d mc ms : Nat} {ad : Adr} {QR : Option Value → Adr → Wd → Prop} {QX : String → Adr → Wd → Prop} (C : Cx p l s m args meth c D ba RX7 cX7_loudest 7 [] d) (hl : l.stackTraces = false) (hr : meth.sig.returnType = (some .int)) (hd : 3 ≤ d) {i : Nat} {σ : CS} {th : Int32} {lo ma ap : Nat → Int32} {o : Wd} {R : Nat → List (Nat × Nat)} {Ds : Nat → Nat} {N : Nat} (hL : Laid R Ds N lo ma ap) {u : Nat} (hu : u < N)  : ∀ (n : Nat) (k : Nat) (p1 : Int32 × Nat), k + n = (R u).length + 1 → p1.2 ≤ 6000 → 1 ≤ k → (V p l e s m args below meth c D ba d mc ms (MO D ba QR QX below args s mc ms) 7 ad (QW i ad σ th (nI N) lo ma ap o) 80 [(3, .int (nI u)), (2, .int (nI ((ldF R Ds N u n k p1).2))), (1, .int ((ldF R Ds N u n k p1).1)), (0, .ref (ad [i]))] [] 0 0) → V p l e s m args below meth c D ba d mc ms (MO D ba QR QX below args s mc ms) 7 ad (QW i ad σ th (nI N) lo ma ap o) 17 [(4, .int (nI k)), (3, .int (nI u)), (2, .int (nI p1.2)), (1, .int p1.1), (0, .ref (ad [i]))] [] 0 0 := by
  intro n
  induction n with
  | zero =>
    intro k p1 hk hp h1k K
    have hL1 := hL.1
    have hLu := hL.2 u hu
    have hLl := hLu.2.1.1
    refine V_iload C dX7_loudest_17 0 rfl ?_
    refine V_aload_n C dX7_loudest_19 4 rfl ?_
    refine V_get (ci := 6) (k := 14) C dX7_loudest_20 RX7 RX7 TX7 17 fw_X7 rfl (by decide) tw_682 rfl rfl QW_o rfl ?_
    refine V_iload_n C dX7_loudest_23 1 rfl ?_
    refine V_ialdn (v := (nI ((R u).length))) C dX7_loudest_24 rfl QW_10 (by omega) (by decide) hLu.1.1 ?_
    refine V_icmpn_gt (tgt := 80) C dX7_loudest_25 (by decide) (by omega) (by omega) (fun hb1 => ?_) (fun hb1 => by exfalso; omega)
    refine V_lv [1, 2, 3, 4] rfl ?_
    exact K
  | succ n ih =>
    intro k p1 hk hp h1k K
    have hL1 := hL.1
    have hLu := hL.2 u hu
    have hLl := hLu.2.1.1
    have hkl : k ≤ (R u).length := by omega
    have hmk : 6 * Ds u * k ≤ 3000 := Nat.le_trans (Nat.mul_le_mul_left _ hkl) hLu.2.1.2.2.2
    have hat := Nat.le_trans (atR_le hL (mo := 6 * Ds u * k) N (Nat.le_refl _)) (show 1000 * N ≤ 6000 by omega)
    refine V_iload C dX7_loudest_17 0 rfl ?_
    refine V_aload_n C dX7_loudest_19 4 rfl ?_
    refine V_get (ci := 6) (k := 14) C dX7_loudest_20 RX7 RX7 TX7 17 fw_X7 rfl (by decide) tw_682 rfl rfl QW_o rfl ?_
    refine V_iload_n C dX7_loudest_23 1 rfl ?_
    refine V_ialdn (v := (nI ((R u).length))) C dX7_loudest_24 rfl QW_10 (by omega) (by decide) hLu.1.1 ?_
    refine V_icmpn_gt (tgt := 80) C dX7_loudest_25 (by decide) (by omega) (by omega) (fun hb1 => by exfalso; omega) (fun hb1 => ?_)
    refine V_aload_n C dX7_loudest_28 4 rfl ?_
    refine V_get (ci := 6) (k := 15) C dX7_loudest_29 RX7 RX7 TX7 17 fw_X7 rfl (by decide) tw_683 rfl rfl QW_o rfl ?_
    refine V_iload_n C dX7_loudest_32 1 rfl ?_
    refine V_ialdn (v := (nI (6 * Ds u))) C dX7_loudest_33 rfl QW_11 (by omega) (by decide) hLu.1.2.1 ?_
    refine V_iload C dX7_loudest_34 0 rfl ?_
    refine V_imuln C dX7_loudest_36 ?_
    refine V_istore C [(5, .int (nI ((6 * Ds u) * k))), (4, .int (nI k)), (3, .int (nI u)), (2, .int (nI p1.2)), (1, .int p1.1), (0, .ref (ad [i]))] dX7_loudest_37 (by decide) rfl ?_
    refine V_aload_n C dX7_loudest_39 5 rfl ?_
    refine V_iload C dX7_loudest_40 0 rfl ?_
    refine V_callV (r := (RX7, TX7, 17)) C [.int (nI ((6 * Ds u) * k))] dX7_loudest_42 m_X7_at k_X7_at tw_880 rfl rfl rfl QW_o rfl rfl (Nat.le_of_ble_eq_true rfl) ⟨by omega, by omega, by omega, by omega⟩ (m_at hl (by omega) hL hmk) (kr_some (x := .int (nI (atR R Ds (6 * Ds u * k) N))) ?_) kx_no
    refine V_istore C [(6, .int (nI (atR R Ds (6 * Ds u * k) N))), (5, .int (nI ((6 * Ds u) * k))), (4, .int (nI k)), (3, .int (nI u)), (2, .int (nI p1.2)), (1, .int p1.1), (0, .ref (ad [i]))] dX7_loudest_45 (by decide) rfl ?_
    refine V_iload C dX7_loudest_47 0 rfl ?_
    refine V_iload_n C dX7_loudest_49 4 rfl ?_
    refine V_icmpn_lt (tgt := 74) C dX7_loudest_50 (by decide) (by omega) (by omega) (fun hb2 => ?_) (fun hb2 => ?_)
    · skip
      refine V_iincn C [(4, .int (nI (k + 1))), (6, .int (nI (atR R Ds (6 * Ds u * k) N))), (5, .int (nI ((6 * Ds u) * k))), (3, .int (nI u)), (2, .int (nI p1.2)), (1, .int p1.1), (0, .ref (ad [i]))] dX7_loudest_74 2 rfl (by decide) rfl ?_
      refine V_goto (tgt := 17) C dX7_loudest_77 (by decide) ?_
      refine V_lv [0, 3, 4, 5, 6] rfl ?_
      have e1 : (stp (atR R Ds (6 * Ds u * k) N) (6 * Ds u * k) p1).1 = p1.1 := by rw [stp, if_pos hb2]
      have e2 : (stp (atR R Ds (6 * Ds u * k) N) (6 * Ds u * k) p1).2 = p1.2 := by rw [stp, if_pos hb2]
      refine V_lvE (lv' := [(4, .int (nI (k + 1))), (3, .int (nI u)), (2, .int (nI ((stp (atR R Ds (6 * Ds u * k) N) (6 * Ds u * k) p1).2))), (1, .int ((stp (atR R Ds (6 * Ds u * k) N) (6 * Ds u * k) p1).1)), (0, .ref (ad [i]))]) (by rw [e1, e2]; rfl) ?_
      exact ih (k + 1) (stp (atR R Ds (6 * Ds u * k) N) (6 * Ds u * k) p1) (by omega) (stp_le hat hp) (by omega) K
    · skip
      refine V_iload C dX7_loudest_53 0 rfl ?_
      refine V_iload_n C dX7_loudest_55 4 rfl ?_
      refine V_icmpn_ne (tgt := 68) C dX7_loudest_56 (by decide) (by omega) (by omega) (fun hb3 => ?_) (fun hb3 => ?_)
      · skip
        refine V_iload C dX7_loudest_68 1 rfl ?_
        refine V_istore_n C [(1, .int (nI ((6 * Ds u) * k))), (6, .int (nI (atR R Ds (6 * Ds u * k) N))), (5, .int (nI ((6 * Ds u) * k))), (4, .int (nI k)), (3, .int (nI u)), (2, .int (nI p1.2)), (0, .ref (ad [i]))] dX7_loudest_70 (by decide) rfl ?_
        refine V_iload C dX7_loudest_71 1 rfl ?_
        refine V_istore_n C [(2, .int (nI (atR R Ds (6 * Ds u * k) N))), (1, .int (nI ((6 * Ds u) * k))), (6, .int (nI (atR R Ds (6 * Ds u * k) N))), (5, .int (nI ((6 * Ds u) * k))), (4, .int (nI k)), (3, .int (nI u)), (0, .ref (ad [i]))] dX7_loudest_73 (by decide) rfl ?_
        refine V_iincn C [(4, .int (nI (k + 1))), (2, .int (nI (atR R Ds (6 * Ds u * k) N))), (1, .int (nI ((6 * Ds u) * k))), (6, .int (nI (atR R Ds (6 * Ds u * k) N))), (5, .int (nI ((6 * Ds u) * k))), (3, .int (nI u)), (0, .ref (ad [i]))] dX7_loudest_74 4 rfl (by decide) rfl ?_
        refine V_goto (tgt := 17) C dX7_loudest_77 (by decide) ?_
        refine V_lv [0, 5, 1, 2, 6] rfl ?_
        have e1 : (stp (atR R Ds (6 * Ds u * k) N) (6 * Ds u * k) p1).1 = (nI ((6 * Ds u) * k)) := by rw [stp, if_neg (by omega), if_neg (fun z => hb3 z.1)]
        have e2 : (stp (atR R Ds (6 * Ds u * k) N) (6 * Ds u * k) p1).2 = atR R Ds (6 * Ds u * k) N := by rw [stp, if_neg (by omega), if_neg (fun z => hb3 z.1)]
        refine V_lvE (lv' := [(4, .int (nI (k + 1))), (3, .int (nI u)), (2, .int (nI ((stp (atR R Ds (6 * Ds u * k) N) (6 * Ds u * k) p1).2))), (1, .int ((stp (atR R Ds (6 * Ds u * k) N) (6 * Ds u * k) p1).1)), (0, .ref (ad [i]))]) (by rw [e1, e2]; rfl) ?_
        exact ih (k + 1) (stp (atR R Ds (6 * Ds u * k) N) (6 * Ds u * k) p1) (by omega) (stp_le hat hp) (by omega) K
      · skip
        refine V_iload C dX7_loudest_59 1 rfl ?_
        refine V_iload_n C dX7_loudest_61 5 rfl ?_
        refine V_icmp_lt (tgt := 68) C dX7_loudest_62 (by decide) (fun hb4 => ?_) (fun hb4 => ?_)
        · skip
          refine V_iload C dX7_loudest_68 1 rfl ?_
          refine V_istore_n C [(1, .int (nI ((6 * Ds u) * k))), (6, .int (nI (atR R Ds (6 * Ds u * k) N))), (5, .int (nI ((6 * Ds u) * k))), (4, .int (nI k)), (3, .int (nI u)), (2, .int (nI p1.2)), (0, .ref (ad [i]))] dX7_loudest_70 (by decide) rfl ?_
          refine V_iload C dX7_loudest_71 1 rfl ?_
          refine V_istore_n C [(2, .int (nI (atR R Ds (6 * Ds u * k) N))), (1, .int (nI ((6 * Ds u) * k))), (6, .int (nI (atR R Ds (6 * Ds u * k) N))), (5, .int (nI ((6 * Ds u) * k))), (4, .int (nI k)), (3, .int (nI u)), (0, .ref (ad [i]))] dX7_loudest_73 (by decide) rfl ?_
          refine V_iincn C [(4, .int (nI (k + 1))), (2, .int (nI (atR R Ds (6 * Ds u * k) N))), (1, .int (nI ((6 * Ds u) * k))), (6, .int (nI (atR R Ds (6 * Ds u * k) N))), (5, .int (nI ((6 * Ds u) * k))), (3, .int (nI u)), (0, .ref (ad [i]))] dX7_loudest_74 4 rfl (by decide) rfl ?_
          refine V_goto (tgt := 17) C dX7_loudest_77 (by decide) ?_
          refine V_lv [0, 5, 1, 2, 6] rfl ?_
          have e1 : (stp (atR R Ds (6 * Ds u * k) N) (6 * Ds u * k) p1).1 = (nI ((6 * Ds u) * k)) := by rw [stp, if_neg (by omega), if_neg (fun z => Int32.not_le.mpr hb4 z.2)]
          have e2 : (stp (atR R Ds (6 * Ds u * k) N) (6 * Ds u * k) p1).2 = atR R Ds (6 * Ds u * k) N := by rw [stp, if_neg (by omega), if_neg (fun z => Int32.not_le.mpr hb4 z.2)]
          refine V_lvE (lv' := [(4, .int (nI (k + 1))), (3, .int (nI u)), (2, .int (nI ((stp (atR R Ds (6 * Ds u * k) N) (6 * Ds u * k) p1).2))), (1, .int ((stp (atR R Ds (6 * Ds u * k) N) (6 * Ds u * k) p1).1)), (0, .ref (ad [i]))]) (by rw [e1, e2]; rfl) ?_
          exact ih (k + 1) (stp (atR R Ds (6 * Ds u * k) N) (6 * Ds u * k) p1) (by omega) (stp_le hat hp) (by omega) K
        · skip
          refine V_goto (tgt := 74) C dX7_loudest_65 (by decide) ?_
          refine V_iincn C [(4, .int (nI (k + 1))), (6, .int (nI (atR R Ds (6 * Ds u * k) N))), (5, .int (nI ((6 * Ds u) * k))), (3, .int (nI u)), (2, .int (nI p1.2)), (1, .int p1.1), (0, .ref (ad [i]))] dX7_loudest_74 2 rfl (by decide) rfl ?_
          refine V_goto (tgt := 17) C dX7_loudest_77 (by decide) ?_
          refine V_lv [0, 3, 4, 5, 6] rfl ?_
          have e1 : (stp (atR R Ds (6 * Ds u * k) N) (6 * Ds u * k) p1).1 = p1.1 := by rw [stp, if_neg (by omega), if_pos ⟨hb3, Int32.not_lt.mp hb4⟩]
          have e2 : (stp (atR R Ds (6 * Ds u * k) N) (6 * Ds u * k) p1).2 = p1.2 := by rw [stp, if_neg (by omega), if_pos ⟨hb3, Int32.not_lt.mp hb4⟩]
          refine V_lvE (lv' := [(4, .int (nI (k + 1))), (3, .int (nI u)), (2, .int (nI ((stp (atR R Ds (6 * Ds u * k) N) (6 * Ds u * k) p1).2))), (1, .int ((stp (atR R Ds (6 * Ds u * k) N) (6 * Ds u * k) p1).1)), (0, .ref (ad [i]))]) (by rw [e1, e2]; rfl) ?_
          exact ih (k + 1) (stp (atR R Ds (6 * Ds u * k) N) (6 * Ds u * k) p1) (by omega) (stp_le hat hp) (by omega) K
set_option maxHeartbeats 4000000 in
theorem lp_ld2 {p : Program} {l : Launch} {e : Env} {s : State} {m : MethodId} {args : Array Value} {below : List Frame} {meth : Method} {c : Code} {D : va_G} {ba d mc ms : Nat} {ad : Adr} {QR : Option Value → Adr → Wd → Prop} {QX : String → Adr → Wd → Prop} (C : Cx p l s m args meth c D ba RX7 cX7_loudest 7 [] d) (hl : l.stackTraces = false) (hr : meth.sig.returnType = (some .int)) (hd : 3 ≤ d) {i : Nat} {σ : CS} {th : Int32} {lo ma ap : Nat → Int32} {o : Wd} {R : Nat → List (Nat × Nat)} {Ds : Nat → Nat} {N : Nat} (hL : Laid R Ds N lo ma ap) (hq : QR (some (.int (ldR R Ds N N).1)) ad (QW i ad σ th (nI N) lo ma ap o))  : ∀ (n : Nat) (k : Nat), k + n = N → V p l e s m args below meth c D ba d mc ms (MO D ba QR QX below args s mc ms) 7 ad (QW i ad σ th (nI N) lo ma ap o) 6 [(3, .int (nI k)), (2, .int (nI ((ldR R Ds N k).2))), (1, .int ((ldR R Ds N k).1)), (0, .ref (ad [i]))] [] 0 0 := by
  intro n
  induction n with
  | zero =>
    intro k hk
    have hL1 := hL.1
    have hat : ∀ mo, atR R Ds mo N ≤ 6000 := fun mo => Nat.le_trans (atR_le hL (mo := mo) N (Nat.le_refl _)) (by omega)
    refine V_iload_n C dX7_loudest_6 0 rfl ?_
    refine V_aload_n C dX7_loudest_7 3 rfl ?_
    refine V_get (ci := 6) (k := 16) C dX7_loudest_8 RX7 RX7 TX7 17 fw_X7 rfl (by decide) tw_684 rfl rfl QW_o rfl ?_
    refine V_icmpn_ge (tgt := 86) C dX7_loudest_11 (by decide) (by omega) (by omega) (fun hb1 => ?_) (fun hb1 => by exfalso; omega)
    refine V_iload_n C dX7_loudest_86 2 rfl ?_
    exact V_iret C .int dX7_loudest_87 hr rfl (by rw [show (ldR R Ds N k).1 = (ldR R Ds N N).1 by rw [show k = N by omega]]; exact hq) (by omega) (by omega)
  | succ n ih =>
    intro k hk
    have hL1 := hL.1
    have hat : ∀ mo, atR R Ds mo N ≤ 6000 := fun mo => Nat.le_trans (atR_le hL (mo := mo) N (Nat.le_refl _)) (by omega)
    have hkN : k < N := by omega
    have hLk := hL.2 k hkN
    have hLl := hLk.2.1.1
    refine V_iload_n C dX7_loudest_6 0 rfl ?_
    refine V_aload_n C dX7_loudest_7 3 rfl ?_
    refine V_get (ci := 6) (k := 16) C dX7_loudest_8 RX7 RX7 TX7 17 fw_X7 rfl (by decide) tw_684 rfl rfl QW_o rfl ?_
    refine V_icmpn_ge (tgt := 86) C dX7_loudest_11 (by decide) (by omega) (by omega) (fun hb1 => by exfalso; omega) (fun hb1 => ?_)
    refine V_iconst (v := nI 1) C dX7_loudest_14 (by decide) ?_
    refine V_istore C [(4, .int (nI 1)), (3, .int (nI k)), (2, .int (nI ((ldR R Ds N k).2))), (1, .int ((ldR R Ds N k).1)), (0, .ref (ad [i]))] dX7_loudest_15 (by decide) rfl ?_
    refine V_lv [0, 1, 2, 3, 4] rfl ?_
    refine lp_ld1 C hl hr (by omega) hL hkN (R k).length 1 (ldR R Ds N k) (by omega) (ldR_le hat k) (by omega) ?_
    refine V_lvE (lv' := [(3, .int (nI k)), (2, .int (nI ((ldR R Ds N (k + 1)).2))), (1, .int ((ldR R Ds N (k + 1)).1)), (0, .ref (ad [i]))]) rfl ?_
    refine V_iincn C [(3, .int (nI (k + 1))), (2, .int (nI ((ldR R Ds N (k + 1)).2))), (1, .int ((ldR R Ds N (k + 1)).1)), (0, .ref (ad [i]))] dX7_loudest_80 0 rfl (by decide) rfl ?_
    refine V_goto (tgt := 6) C dX7_loudest_83 (by decide) ?_
    refine V_lv [0, 1, 2, 3] rfl ?_
    exact ih (k + 1) (by omega)
set_option maxHeartbeats 4000000 in
theorem m_loudest {l : Launch} {D : va_G} {ba d : Nat} {ad : Adr} (hl : l.stackTraces = false) (hd : 3 ≤ d) {i : Nat} {σ : CS} {th : Int32} {lo ma ap : Nat → Int32} {o : Wd} {R : Nat → List (Nat × Nat)} {Ds : Nat → Nat} {N : Nat} (hL : Laid R Ds N lo ma ap)  : CT l yX7_loudest (wsO yX7_loudest cX7_loudest 7 (some .int)) d 0 0 D ba [.ref (ad [i])] ad (QW i ad σ th (nI N) lo ma ap o) (isR (some (.int ((ldR R Ds N N).1))) ad (QW i ad σ th (nI N) lo ma ap o)) noX := by
  refine CT_of RX7 rfl (by decide +kernel) hl (Nat.le_of_ble_eq_true rfl) ?_
  intro p e s m args below meth c C hr hnm
  refine V_lvE (lv' := [(0, .ref (ad [i]))]) rfl ?_
  have hL1 := hL.1
  refine V_iconst (v := -1) C dX7_loudest_0 (by decide) ?_
  refine V_istore_n C [(1, .int (-1)), (0, .ref (ad [i]))] dX7_loudest_1 (by decide) rfl ?_
  refine V_iconst (v := nI 0) C dX7_loudest_2 (by decide) ?_
  refine V_istore_n C [(2, .int (nI 0)), (1, .int (-1)), (0, .ref (ad [i]))] dX7_loudest_3 (by decide) rfl ?_
  refine V_iconst (v := nI 0) C dX7_loudest_4 (by decide) ?_
  refine V_istore_n C [(3, .int (nI 0)), (2, .int (nI 0)), (1, .int (-1)), (0, .ref (ad [i]))] dX7_loudest_5 (by decide) rfl ?_
  refine V_lv [0, 1, 2, 3] rfl ?_
  exact lp_ld2 C hl hr (by omega) hL ⟨rfl, rfl, rfl⟩ N 0 (by omega)
