set_option maxRecDepth 20000 in
set_option maxHeartbeats 4000000 in
theorem law_begin {p : Program} {l : Launch} {e : Env} {s : State} {m : MethodId} {args : Array Value} {below : List Frame} {meth : Method} {c : Code} {D : va_G} {ba d mc ms : Nat} {Q : State → Prop} {ad : Adr} {tb : List ExceptionTableEntry} (C : Cx p l s m args meth c D ba RL cL_law 23 tb d) (hl : l.stackTraces = false) (hd : 12 ≤ d) (hmc : 100000 ≤ mc) (hms : 800000 ≤ ms) (KE : ∀ (ad : Adr) (w : Wd) (lv : List (Nat × Value)) (cells slots : Nat), cells ≤ mc → slots ≤ ms → V p l e s m args below meth c D ba d mc ms Q 23 ad w 844 lv [.int (nI 1)] cells slots) : V p l e s m args below meth c D ba d mc ms Q 23 ad (fun _ => none) 0 [(0, .ref (D.2 99 0))] [] 0 0 := by
  refine V_new (ci := 5) (fs := [.null, .null, .int 0, .int 0, .int 0, .int 0, .null, .null]) C ([0]) dL_law_0 RX6 TX6 8 tyX6 tyX6_ok fw_X6 rfl tw_17 tw_18 tw_1 (fun j hj => by rcases (show j = 0 ∨ j = 1 ∨ j = 2 ∨ j = 3 ∨ j = 4 ∨ j = 5 ∨ j = 6 ∨ j = 7 by omega) with rfl | rfl | rfl | rfl | rfl | rfl | rfl | rfl <;> rfl) rfl (by omega) (by omega) (fun q0 => ?_)
  obtain ⟨ad1, hA1⟩ : ∃ z, z = aset ad [0] q0 := ⟨_, rfl⟩
  rw [← hA1]
  have hq1 : q0 = ad1 [0] := by rw [hA1]; exact aset_s.symm
  rw [hq1]
  refine V_wd (w' := wset (put 0 (fun _ => none) nW) [0] (.inr (5, [.null, .null, .int 0, .int 0, .int 0, .int 0, .null, .null]))) (by rw [put0_id (fun _ => rfl)]) ?_
  refine V_dup C dL_law_3 rfl ?_
  refine V_callI C [] dL_law_4 m_X6_init k_X6_init tw_19 rfl rfl (Nat.le_of_ble_eq_true rfl) ⟨by omega, by omega, by omega, by omega⟩ (p_init (i := 0) (o := nW) hl (by omega)) ?_ kx_no
  rintro v2 ad2 w2 ⟨rfl, hK2, rfl⟩
  have e2 : ad2 [0] = ad1 [0] := hK2.2
  rw [← e2]
  refine V_stE (st' := [.ref (ad2 [0])]) rfl ?_
  refine V_astore_n C [(1, .ref (ad2 [0])), (0, .ref (D.2 99 0))] dL_law_7 (by decide) rfl ?_
  refine V_aload_n C dL_law_8 0 rfl ?_
  refine V_aload_n C dL_law_9 1 rfl ?_
  refine V_callS C [.ref (ad2 [0]), .ref (D.2 99 0)] dL_law_10 m_L_build k_L_build tw_634 rfl rfl (Nat.le_of_ble_eq_true rfl) ⟨by omega, by omega, by omega, by omega⟩ (s_build hl (by omega)) ?_ kx_no
  rintro v3 ad3 w3 ⟨rfl, h30, σ, tl, t, lo, ⟨hIV, hn⟩, rfl⟩
  rw [← h30]
  refine V_stE (st' := [.ref (ad3 [2])]) rfl ?_
  refine V_astore_n C [(2, .ref (ad3 [2])), (1, .ref (ad3 [0])), (0, .ref (D.2 99 0))] dL_law_13 (by decide) rfl ?_
  refine V_aload_n C dL_law_14 0 rfl ?_
  refine V_ifnonnull (tgt := 20) C dL_law_15 (by decide) ?_
  refine V_iconst (v := nI 0) C dL_law_20 (by decide) ?_
  refine V_istore_n C [(3, .int (nI 0)), (2, .ref (ad3 [2])), (1, .ref (ad3 [0])), (0, .ref (D.2 99 0))] dL_law_21 (by decide) rfl ?_
  exact lw_time (ad := ad) C hl hd rfl rfl 8 0 ad3 σ tl t lo _ _ (by omega) hIV hn (by omega) (by omega) KE
def str_own : Cond → Bool
  | .stringRef o _ _ => o == "EchoBureau"
  | _ => true
theorem nf_start {s : State} {A : Array Value} (hts : ∀ w ∈ lw_tbl, w.before A s = true) (hgv : (Jvm.Cond.and given_1 narrow_1).before A s = true) {b L : Nat} {xs : Nat → Int32} (hX : va_X b L xs s s.heap) (hbl : b < s.heap.size) (hL : L ≤ 260) : ∃ D : va_G, NF D s.heap.size s ∧ D.2 99 0 = b := by
  obtain ⟨c0, i0, k0⟩ := u_known (ws := lw_tbl) (C := RX0) (T := TX0) (N := 6) (n := 6) hts (by decide +kernel) (hts _ (by decide +kernel))
  obtain ⟨c1, i1, k1⟩ := u_known (ws := lw_tbl) (C := RX2) (T := TX2) (N := 1) (n := 1) hts (by decide +kernel) (hts _ (by decide +kernel))
  obtain ⟨c2, i2, k2⟩ := u_known (ws := lw_tbl) (C := RX3) (T := TX3) (N := 5) (n := 5) hts (by decide +kernel) (hts _ (by decide +kernel))
  obtain ⟨c3, i3, k3⟩ := u_known (ws := lw_tbl) (C := RX4) (T := TX4) (N := 2) (n := 2) hts (by decide +kernel) (hts _ (by decide +kernel))
  obtain ⟨c4, i4, k4⟩ := u_known (ws := lw_tbl) (C := RX5) (T := TX5) (N := 5) (n := 5) hts (by decide +kernel) (hts _ (by decide +kernel))
  obtain ⟨c5, i5, k5⟩ := u_known (ws := lw_tbl) (C := RX6) (T := TX6) (N := 8) (n := 8) hts (by decide +kernel) (hts _ (by decide +kernel))
  obtain ⟨c6, i6, k6⟩ := u_known (ws := lw_tbl) (C := RX7) (T := TX7) (N := 5) (n := 5) hts (by decide +kernel) (hts _ (by decide +kernel))
  obtain ⟨c7, i7, k7⟩ := u_known (ws := lw_tbl) (C := RX8) (T := TX8) (N := 4) (n := 4) hts (by decide +kernel) (hts _ (by decide +kernel))
  have hz : ∀ a : Nat, a < s.heap.size → ¬ s.heap.size ≤ a := fun a ha z => absurd ha (Nat.not_lt.mpr z)
  have hg := flat_of_before _ hgv
  have hown : ∀ w ∈ lw_tbl, str_own w = true := by decide +kernel
  obtain ⟨cc, kc, hcc, -⟩ := Cond.instantiable_spec (hts (Cond.instantiable "EchoBureau" 8) (by decide +kernel))
  refine ⟨(fun k => [c0, c1, c2, c3, c4, c5, c6, c7].getD k c0, fun k => if k = 99 then fun _ => b else [i0, i1, i2, i3, i4, i5, i6, i7].getD k i0), ⟨⟨fun c q hq => ?_, fun k q hk => by simp at hk⟩, fun w hw hn => va_Nw.of (eg_nw_tab hn) (hts w hw), fun C hC => va_AO.of (hts _ hC), fun q hq => ?_, ⟨?_, ?_⟩, fun own k tx hm => ?_, fun q hq => by simp [eg_nc] at hq, over_moved (Vm.Alike.refl _) (hts (Cond.arrayOver (.array .int)) (by decide +kernel)), L, xs, hbl, hbl, hL, hX⟩, rfl⟩
  · rcases c with _ | _ | _ | _ | _ | _ | _ | _ | c
    · obtain rfl := Option.some.inj hq; exact k0
    · obtain rfl := Option.some.inj hq; exact k1
    · obtain rfl := Option.some.inj hq; exact k2
    · obtain rfl := Option.some.inj hq; exact k3
    · obtain rfl := Option.some.inj hq; exact k4
    · obtain rfl := Option.some.inj hq; exact k5
    · obtain rfl := Option.some.inj hq; exact k6
    · obtain rfl := Option.some.inj hq; exact k7
    · simp [vwCl] at hq
  · simp only [eg_faces, List.mem_cons, List.mem_nil_iff, or_false] at hq
    rcases hq with rfl | rfl
    · exact va_Fw.of (hts _ (by decide +kernel)) (hts _ (by decide +kernel)) (hts _ (by decide +kernel)) (hts _ (by decide +kernel)) (hts _ (by decide +kernel))
    · exact va_Fw.of (hts _ (by decide +kernel)) (hts _ (by decide +kernel)) (hts _ (by decide +kernel)) (hts _ (by decide +kernel)) (hts _ (by decide +kernel))
  · exact vx_Zqof (hts _ (by decide +kernel)) (hts _ (by decide +kernel)) (hg _ (by decide +kernel)) hz
  · exact vx_Zqof (hts _ (by decide +kernel)) (hts _ (by decide +kernel)) (hg _ (by decide +kernel)) hz
  · have h := hts _ hm
    have ho : own = "EchoBureau" := by
      have := hown _ hm
      simpa [str_own] using this
    subst ho
    obtain ⟨k1, cf, i, a, h1, h2, h3, h4, h5, h6⟩ := Cond.stringRef_spec hcc h
    exact ⟨a, vk_R.of h h6⟩
