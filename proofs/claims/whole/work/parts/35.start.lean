theorem put0_id {i : Nat} {o : Wd} (h : ∀ r, o (i :: r) = none) : put i (fun _ => none) o = o := by
  funext L
  rcases L with _ | ⟨j, r⟩
  · rfl
  · show (if j = i then none else o (j :: r)) = o (j :: r)
    by_cases hj : j = i
    · subst hj; rw [if_pos rfl, h r]
    · rw [if_neg hj]
theorem PW_ad {i : Nat} {ad ad2 : Adr} {σ : CS} {tl : Int32} {t : TT} {lo : Nat → Int32} {o : Wd} (h : ∀ r, ad2 (i :: r) = ad (i :: r)) : PW i ad2 σ tl t lo o = PW i ad σ tl t lo o := by
  show put i (WC i ad2 σ tl t lo) o = put i (WC i ad σ tl t lo) o
  congr 1
  funext L
  rcases L with _ | ⟨c, _ | ⟨j, _ | ⟨k, _ | ⟨x, y⟩⟩⟩⟩
  · simp only [WC, h]
  · simp only [WC, h]
  · simp only [WC, h]
  · simp only [WC]
  · rfl
set_option maxHeartbeats 4000000 in
theorem law_begin {p : Program} {l : Launch} {e : Env} {s : State} {m : MethodId} {args : Array Value} {below : List Frame} {meth : Method} {c : Code} {D : va_G} {ba d mc ms : Nat} {Q : State → Prop} {ad : Adr} {tb : List ExceptionTableEntry} (C : Cx p l s m args meth c D ba RL cL_law 9 tb d) (hl : l.stackTraces = false) (hd : 12 ≤ d) {b9 L : Nat} {xs : Nat → Int32} (hX : va_X b9 L xs s s.heap) (hb : b9 < ba) (hL : L ≤ 3072) (hmc : 40000 ≤ mc) (hms : 200000 ≤ ms) (KE : ∀ (ad : Adr) (w : Wd) (lv : List (Nat × Value)) (cells slots : Nat), cells ≤ mc → slots ≤ ms → V p l e s m args below meth c D ba d mc ms Q 9 ad w 2279 lv [.int (nI 1)] cells slots) : V p l e s m args below meth c D ba d mc ms Q 9 ad (fun _ => none) 0 [(0, .ref b9)] [] 0 0 := by
  refine V_new (ci := 5) (fs := [.null, .null, .int 0, .int 0, .int 0, .int 0, .null, .null]) C ([0]) dL_law_0 RX6 TX6 8 tyX6 tyX6_ok fw_X6 rfl tw_17 tw_18 tw_1 (fun j hj => by rcases (show j = 0 ∨ j = 1 ∨ j = 2 ∨ j = 3 ∨ j = 4 ∨ j = 5 ∨ j = 6 ∨ j = 7 by omega) with rfl | rfl | rfl | rfl | rfl | rfl | rfl | rfl <;> rfl) rfl (by omega) (by omega) (fun q0 => ?_)
  obtain ⟨ad1, hA1⟩ : ∃ z, z = aset ad [0] q0 := ⟨_, rfl⟩
  rw [← hA1]
  have hq1 : q0 = ad1 [0] := by rw [hA1]; exact aset_s.symm
  have hN1 : ∀ L, L ≠ [0] → ad1 L = ad L := fun L hL => by rw [hA1]; exact aset_n hL
  rw [hq1]
  refine V_wd (w' := wset (put 0 (fun _ => none) (fun _ => none)) [0] (.inr (5, [.null, .null, .int 0, .int 0, .int 0, .int 0, .null, .null]))) (by rw [put0_id (fun _ => rfl)]) ?_
  refine V_dup C dL_law_3 rfl ?_
  refine V_callI C [] dL_law_4 m_X6_init k_X6_init tw_19 rfl rfl (Nat.le_of_ble_eq_true rfl) ⟨by omega, by omega, by omega, by omega⟩ (p_init (i := 0) (o := fun _ => none) hl (by omega)) ?_ kx_no
  rintro v2 ad2 w2 ⟨rfl, hK2, rfl⟩
  have e2 : ad2 [0] = ad1 [0] := hK2.2
  rw [← e2]
  refine V_stE (st' := [.ref (ad2 [0])]) rfl ?_
  refine V_astore_n C [(1, .ref (ad2 [0])), (0, .ref b9)] dL_law_7 (by decide) rfl ?_
  refine V_new (ci := 6) (fs := [.int 0, .int 0, .int 0, .int 0, .int 0, .null, .null, .null, .null, .null, .null, .null, .null, .null, .null, .null, .int 0]) C ([1]) dL_law_8 RX7 TX7 17 tyX7 tyX7_ok fw_X7 rfl tw_662 tw_663 tw_4 (fun j hj => by rcases (show j = 0 ∨ j = 1 ∨ j = 2 ∨ j = 3 ∨ j = 4 ∨ j = 5 ∨ j = 6 ∨ j = 7 ∨ j = 8 ∨ j = 9 ∨ j = 10 ∨ j = 11 ∨ j = 12 ∨ j = 13 ∨ j = 14 ∨ j = 15 ∨ j = 16 by omega) with rfl | rfl | rfl | rfl | rfl | rfl | rfl | rfl | rfl | rfl | rfl | rfl | rfl | rfl | rfl | rfl | rfl <;> rfl) rfl (by omega) (by omega) (fun q1 => ?_)
  obtain ⟨ad3, hA3⟩ : ∃ z, z = aset ad2 [1] q1 := ⟨_, rfl⟩
  rw [← hA3]
  have hq3 : q1 = ad3 [1] := by rw [hA3]; exact aset_s.symm
  have hN3 : ∀ L, L ≠ [1] → ad3 L = ad2 L := fun L hL => by rw [hA3]; exact aset_n hL
  rw [hq3]
  rw [← hN3 [0] (by decide)]
  refine V_wd (w' := wset (put 1 (fun _ => none) (PW 0 ad3 cs0 0 (0, 0, 0, 0) (fun _ => 0) (fun _ => none))) [1] (.inr (6, [.int 0, .int 0, .int 0, .int 0, .int 0, .null, .null, .null, .null, .null, .null, .null, .null, .null, .null, .null, .int 0]))) (by rw [put0_id (fun _ => rfl), PW_ad (fun r => hN3 _ (by simp))]) ?_
  refine V_dup C dL_law_11 rfl ?_
  refine V_callI C [] dL_law_12 m_X7_init k_X7_init tw_664 rfl rfl (Nat.le_of_ble_eq_true rfl) ⟨by omega, by omega, by omega, by omega⟩ (m_init (i := 1) (o := PW 0 ad3 cs0 0 (0, 0, 0, 0) (fun _ => 0) (fun _ => none)) hl (by omega)) ?_ kx_no
  rintro v4 ad4 w4 ⟨rfl, hK4, rfl⟩
  have e4 : ad4 [1] = ad3 [1] := hK4.2
  have e5 : ad4 [0] = ad3 [0] := hK4.1 0 [] (by decide)
  rw [← e4, ← e5]
  refine V_stE (st' := [.ref (ad4 [1])]) rfl ?_
  refine V_wd (w' := QW 1 ad4 cs0 0 0 (fun _ => 0) (fun _ => 0) (fun _ => 0) (PW 0 ad4 cs0 0 (0, 0, 0, 0) (fun _ => 0) (fun _ => none))) (by rw [PW_ad (ad2 := ad4) (fun r => hK4.1 0 r (by decide))]) ?_
  refine V_astore_n C [(2, .ref (ad4 [1])), (1, .ref (ad4 [0])), (0, .ref b9)] dL_law_15 (by decide) rfl ?_
  refine V_iconst (v := nI 1) C dL_law_16 (by decide) ?_
  refine V_newJ (N := 1) C ([2]) dL_law_17 tw_966 (by decide) (by decide) (by decide) rfl (by omega) (by omega) (fun q2 => ?_)
  obtain ⟨ad5, hA5⟩ : ∃ z, z = aset ad4 [2] q2 := ⟨_, rfl⟩
  rw [← hA5]
  have hq5 : q2 = ad5 [2] := by rw [hA5]; exact aset_s.symm
  have hN5 : ∀ L, L ≠ [2] → ad5 L = ad4 L := fun L hL => by rw [hA5]; exact aset_n hL
  rw [hq5]
  rw [← hN5 [0] (by decide)]
  rw [← hN5 [1] (by decide)]
  refine V_wd (w' := LW ad5 cs0 0 (0, 0, 0, 0) (fun _ => 0) 0 0 (fun _ => 0) (fun _ => 0) (fun _ => 0) (fun _ => 0)) (by rw [QW_o2, PW_o2, ← QW_ad (ad2 := ad5) (fun c => hN5 _ (by simp)), ← PW_ad (ad2 := ad5) (fun r => hN5 _ (by simp))]; exact put_comm (by decide)) ?_
  refine V_astore_n C [(3, .ref (ad5 [2])), (2, .ref (ad5 [1])), (1, .ref (ad5 [0])), (0, .ref b9)] dL_law_19 (by decide) rfl ?_
  refine V_iconst (v := nI 0) C dL_law_20 (by decide) ?_
  refine V_istore C [(4, .int (nI 0)), (3, .ref (ad5 [2])), (2, .ref (ad5 [1])), (1, .ref (ad5 [0])), (0, .ref b9)] dL_law_21 (by decide) rfl ?_
  refine V_lv [0, 1, 2, 3, 4] rfl ?_
  exact law_loop (ad := ad5) (cells := 0) (slots := 0) C hl hd hX hb hL KE 513 0 _ _ _ _ _ _ _ _ _ _ _ _ _ cs0_ok (by omega) (by omega) (by omega) (by omega) (by omega)
def str_own : Cond → Bool
  | .stringRef o _ _ => o == "EchoBureau"
  | _ => true
theorem nf_start {s : State} {A : Array Value} (hts : ∀ w ∈ lw_tbl, w.before A s = true) (hgv : (Jvm.Cond.and given_1 narrow_1).before A s = true) : ∃ D : va_G, NF D s.heap.size s := by
  obtain ⟨c0, i0, k0⟩ := u_known (ws := lw_tbl) (C := RX0) (T := TX0) (N := 6) (n := 6) hts (by decide +kernel) (hts _ (by decide +kernel))
  obtain ⟨c1, i1, k1⟩ := u_known (ws := lw_tbl) (C := RX2) (T := TX2) (N := 1) (n := 1) hts (by decide +kernel) (hts _ (by decide +kernel))
  obtain ⟨c2, i2, k2⟩ := u_known (ws := lw_tbl) (C := RX3) (T := TX3) (N := 5) (n := 5) hts (by decide +kernel) (hts _ (by decide +kernel))
  obtain ⟨c3, i3, k3⟩ := u_known (ws := lw_tbl) (C := RX4) (T := TX4) (N := 2) (n := 2) hts (by decide +kernel) (hts _ (by decide +kernel))
  obtain ⟨c4, i4, k4⟩ := u_known (ws := lw_tbl) (C := RX5) (T := TX5) (N := 5) (n := 5) hts (by decide +kernel) (hts _ (by decide +kernel))
  obtain ⟨c5, i5, k5⟩ := u_known (ws := lw_tbl) (C := RX6) (T := TX6) (N := 8) (n := 8) hts (by decide +kernel) (hts _ (by decide +kernel))
  obtain ⟨c6, i6, k6⟩ := u_known (ws := lw_tbl) (C := RX7) (T := TX7) (N := 17) (n := 17) hts (by decide +kernel) (hts _ (by decide +kernel))
  have hz : ∀ a : Nat, a < s.heap.size → ¬ s.heap.size ≤ a := fun a ha z => absurd ha (Nat.not_lt.mpr z)
  have hg := flat_of_before _ hgv
  have hown : ∀ w ∈ lw_tbl, str_own w = true := by decide +kernel
  obtain ⟨cc, kc, hcc, -⟩ := Cond.instantiable_spec (hts (Cond.instantiable "EchoBureau" 8) (by decide +kernel))
  refine ⟨(fun k => [c0, c1, c2, c3, c4, c5, c6].getD k c0, fun k => [i0, i1, i2, i3, i4, i5, i6].getD k i0), ⟨fun c q hq => ?_, fun k q hk => by simp at hk⟩, fun w hw hn => va_Nw.of (eg_nw_tab hn) (hts w hw), fun C hC => va_AO.of (hts _ hC), fun q hq => ?_, ⟨?_, ?_⟩, fun own k tx hm => ?_, fun q hq => ?_⟩
  · rcases c with _ | _ | _ | _ | _ | _ | _ | c
    · obtain rfl := Option.some.inj hq; exact k0
    · obtain rfl := Option.some.inj hq; exact k1
    · obtain rfl := Option.some.inj hq; exact k2
    · obtain rfl := Option.some.inj hq; exact k3
    · obtain rfl := Option.some.inj hq; exact k4
    · obtain rfl := Option.some.inj hq; exact k5
    · obtain rfl := Option.some.inj hq; exact k6
    · simp [vwCl] at hq
  · simp only [eg_faces, List.mem_cons, List.mem_nil_iff, or_false] at hq
    rcases hq with rfl | rfl
    · exact va_Fw.of (hts _ (by decide +kernel)) (hts _ (by decide +kernel)) (hts _ (by decide +kernel)) (hts _ (by decide +kernel)) (hts _ (by decide +kernel))
    · exact va_Fw.of (hts _ (by decide +kernel)) (hts _ (by decide +kernel)) (hts _ (by decide +kernel)) (hts _ (by decide +kernel)) (hts _ (by decide +kernel))
  · exact vx_Zqof (hts _ (by decide +kernel)) (hts _ (by decide +kernel)) (hg _ (by decide +kernel)) hz
  · exact vx_Zqof (hts _ (by decide +kernel)) (hts _ (by decide +kernel)) (hg _ (by decide +kernel)) hz
  · have h := hts _ hm
    have ho : own = "EchoBureau" := by
      have := hown _ hm
      simpa [str_own] using this
    subst ho
    obtain ⟨k1, cf, i, a, h1, h2, h3, h4, h5, h6⟩ := Cond.stringRef_spec hcc h
    exact ⟨a, vk_R.of h h6⟩
  · simp only [eg_nc, List.mem_cons, List.mem_nil_iff, or_false] at hq
    rcases hq with rfl | rfl | rfl
    · exact va_Nc.of (hg _ (by decide +kernel))
    · exact va_Nc.of (hg _ (by decide +kernel))
    · exact va_Nc.of (hg _ (by decide +kernel))
