/-! the law calls the class: what it throws becomes a number -/
set_option maxRecDepth 20000 in
set_option maxHeartbeats 2000000 in
theorem w_block {E : XE} {d mc ms : Nat} {P : Ps} {own : Nat → Nat} {x T : Nat} {σ : MS} {N : Nat → Nat} {G : HP} (hT : TK E own x σ N T G) (hmc : 10 ≤ mc) (hms : 1000 ≤ ms) {s mt : Int32} {is : Bool} (hX : ¬ K_block s mt = 0 → P (.inl (some (.int (rsO (K_block s mt) 0)))) G) (hS : K_block s mt = 0 → ∀ a b, a < 4 → b < 60 → s = nI a → mt = nI b → ∀ G', TK E own x (mbr (zz σ) 1 (60 * a + b) is) (N) T G' → Fr0 own G G' → P (.inl (some (.int (b2i (σ.2.2 1 (60 * a + b)))))) G') : Sp E (d + 12) yL_block mc ms [.ref x, .int s, .int mt, .int (b2i is)] G P := by
  obtain ⟨A, F, hH, hV, rfl⟩ := hT
  obtain ⟨hON, hN, hK9, -⟩ := id hH
  obtain ⟨n0, n1, n2, n3, n4, n5, e7, e22, e29, e35, e40⟩ := id hN
  refine sp_intro bd_L_block (v1_all rfl) (Nat.le_of_ble_eq_true rfl) ?_
  change WX _ _ _ _ _ _ 0 [some (.ref (A 0 0)), some (.int s), some (.int mt), some (.int (b2i is)), none] [] _ 0 0
  refine wp_load (pc' := 1) (j := 0) dL_block_0 rfl rfl rfl ?_
  refine wp_load (pc' := 2) (j := 1) dL_block_1 rfl rfl rfl ?_
  refine wp_load (pc' := 3) (j := 2) dL_block_2 rfl rfl rfl ?_
  refine wp_load (pc' := 4) (j := 3) dL_block_3 rfl rfl rfl ?_
  refine wp_v3 10 1000 dL_block_4 ml_L_10 hK9.1 (Nat.le_of_ble_eq_true rfl) (by omega) (by omega) ?_
  refine q_block hH hV.1 (Nat.le_of_ble_eq_true rfl) (Nat.le_of_ble_eq_true rfl) (fun X hx => ?_) ?_
  · replace hx : exO (K_block s mt) X := hx
    rcases hx with ⟨hc, rfl⟩ | ⟨hc, rfl⟩ | ⟨hc, rfl⟩
    · replace hX := hX (by rw [hc]; decide)
      rw [hc] at hX
      refine kt_h 16 (hf_1 rfl (by decide) cw_L_16 ca_IndexOutOfBoundsException) (fun q => ?_)
      refine wp_store (pc' := 18) (j := 4) (ls' := [_, _, _, _, _]) dL_block_16 rfl (Nat.le_of_ble_eq_true rfl) rfl rfl ?_
      refine wp_ldc (pc' := 20) dL_block_18 kw_L_18 rfl ?_
      exact wp_iret dL_block_20 rfl rfl hX
    · exact (mcode_2 hc).elim
    · exact (mcode_3 hc).elim
  · intro hK a b ha hb he1 he2 G' hW
    have hQ := hS hK a b ha hb he1 he2 G' ⟨_, _, hW.1, inv_block hV, rfl⟩ hW.2
    refine kt_v ?_
    refine wp_ifeqB (pc' := 10) 14 dL_block_7 rfl rfl (fun hb0 => ?_) (fun hb0 => ?_)
    · rw [hb0] at hQ
      refine wp_iconst (pc' := 15) (0) dL_block_14 rfl rfl ?_
      exact wp_iret dL_block_15 rfl rfl hQ
    · rw [hb0] at hQ
      refine wp_iconst (pc' := 11) (1) dL_block_10 rfl rfl ?_
      refine wp_goto 15 dL_block_11 rfl ?_
      exact wp_iret dL_block_15 rfl rfl hQ

set_option maxRecDepth 20000 in
set_option maxHeartbeats 2000000 in
theorem w_times {E : XE} {d mc ms : Nat} {P : Ps} {own : Nat → Nat} {x T : Nat} {σ : MS} {N : Nat → Nat} {G : HP} (hT : TK E own x σ N T G) (hmc : 10 ≤ mc) (hms : 1000 ≤ ms) {w f t : Int32} (hX : ¬ K_times w f t = 0 → P (.inl (some (.int (rsP (K_times w f t) 0)))) G) (hS : K_times w f t = 0 → ∀ G', TK E own x (msc (msc (msc (zz σ) 2 w) 3 f) 4 t) (N) T G' → Fr0 own G G' → P (.inl (some (.int (0)))) G') : Sp E (d + 12) yL_times mc ms [.ref x, .int w, .int f, .int t] G P := by
  obtain ⟨A, F, hH, hV, rfl⟩ := hT
  obtain ⟨hON, hN, hK9, -⟩ := id hH
  obtain ⟨n0, n1, n2, n3, n4, n5, e7, e22, e29, e35, e40⟩ := id hN
  refine sp_intro bd_L_times (v1_all rfl) (Nat.le_of_ble_eq_true rfl) ?_
  change WX _ _ _ _ _ _ 0 [some (.ref (A 0 0)), some (.int w), some (.int f), some (.int t), none] [] _ 0 0
  refine wp_load (pc' := 1) (j := 0) dL_times_0 rfl rfl rfl ?_
  refine wp_load (pc' := 2) (j := 1) dL_times_1 rfl rfl rfl ?_
  refine wp_load (pc' := 3) (j := 2) dL_times_2 rfl rfl rfl ?_
  refine wp_load (pc' := 4) (j := 3) dL_times_3 rfl rfl rfl ?_
  refine wp_v3 10 1000 dL_times_4 ml_L_19 hK9.1 (Nat.le_of_ble_eq_true rfl) (by omega) (by omega) ?_
  refine q_times hH hV.1 (Nat.le_of_ble_eq_true rfl) (Nat.le_of_ble_eq_true rfl) (fun X hx => ?_) ?_
  · replace hx : exP (K_times w f t) X := hx
    rcases hx with ⟨hc, rfl⟩ | ⟨hc, rfl⟩
    · replace hX := hX (by rw [hc]; decide)
      rw [hc] at hX
      refine kt_h 9 (hf_1 rfl (by decide) cw_L_23 ca_IllegalArgumentException) (fun q => ?_)
      refine wp_store (pc' := 11) (j := 4) (ls' := [_, _, _, _, _]) dL_times_9 rfl (Nat.le_of_ble_eq_true rfl) rfl rfl ?_
      refine wp_ldc (pc' := 13) dL_times_11 kw_L_25 rfl ?_
      exact wp_iret dL_times_13 rfl rfl hX
    · exact (mcode_2 hc).elim
  · intro hK  G' hW
    have hQ := hS hK  G' ⟨_, _, hW.1, inv_times hV, rfl⟩ hW.2
    refine kt_u ?_
    refine wp_iconst (pc' := 8) (0) dL_times_7 rfl rfl ?_
    exact wp_iret dL_times_8 rfl rfl hQ

set_option maxRecDepth 20000 in
set_option maxHeartbeats 2000000 in
theorem w_dates {E : XE} {d mc ms : Nat} {P : Ps} {own : Nat → Nat} {x T : Nat} {σ : MS} {N : Nat → Nat} {G : HP} (hT : TK E own x σ N T G) (hmc : 10 ≤ mc) (hms : 1000 ≤ ms) {f t : Int32} (hX : ¬ K_dates f t = 0 → P (.inl (some (.int (rsP (K_dates f t) 0)))) G) (hS : K_dates f t = 0 → ∀ G', TK E own x (msc (msc (zz σ) 5 f) 6 t) (N) T G' → Fr0 own G G' → P (.inl (some (.int (0)))) G') : Sp E (d + 12) yL_dates mc ms [.ref x, .int f, .int t] G P := by
  obtain ⟨A, F, hH, hV, rfl⟩ := hT
  obtain ⟨hON, hN, hK9, -⟩ := id hH
  obtain ⟨n0, n1, n2, n3, n4, n5, e7, e22, e29, e35, e40⟩ := id hN
  refine sp_intro bd_L_dates (v1_all rfl) (Nat.le_of_ble_eq_true rfl) ?_
  change WX _ _ _ _ _ _ 0 [some (.ref (A 0 0)), some (.int f), some (.int t), none] [] _ 0 0
  refine wp_load (pc' := 1) (j := 0) dL_dates_0 rfl rfl rfl ?_
  refine wp_load (pc' := 2) (j := 1) dL_dates_1 rfl rfl rfl ?_
  refine wp_load (pc' := 3) (j := 2) dL_dates_2 rfl rfl rfl ?_
  refine wp_v2 10 1000 dL_dates_3 ml_L_26 hK9.1 (Nat.le_of_ble_eq_true rfl) (by omega) (by omega) ?_
  refine q_dates hH hV.1 (Nat.le_of_ble_eq_true rfl) (Nat.le_of_ble_eq_true rfl) (fun X hx => ?_) ?_
  · replace hx : exP (K_dates f t) X := hx
    rcases hx with ⟨hc, rfl⟩ | ⟨hc, rfl⟩
    · replace hX := hX (by rw [hc]; decide)
      rw [hc] at hX
      refine kt_h 8 (hf_1 rfl (by decide) cw_L_23 ca_IllegalArgumentException) (fun q => ?_)
      refine wp_store (pc' := 9) (j := 3) (ls' := [_, _, _, _]) dL_dates_8 rfl (Nat.le_of_ble_eq_true rfl) rfl rfl ?_
      refine wp_ldc (pc' := 11) dL_dates_9 kw_L_25 rfl ?_
      exact wp_iret dL_dates_11 rfl rfl hX
    · exact (mcode_2 hc).elim
  · intro hK  G' hW
    have hQ := hS hK  G' ⟨_, _, hW.1, inv_dates hV, rfl⟩ hW.2
    refine kt_u ?_
    refine wp_iconst (pc' := 7) (0) dL_dates_6 rfl rfl ?_
    exact wp_iret dL_dates_7 rfl rfl hQ

set_option maxRecDepth 20000 in
set_option maxHeartbeats 2000000 in
theorem w_sign {E : XE} {d mc ms : Nat} {P : Ps} {own : Nat → Nat} {x T : Nat} {σ : MS} {N : Nat → Nat} {G : HP} (hT : TK E own x σ N T G) (hmc : 10 ≤ mc) (hms : 1000 ≤ ms) {st f t u sy : Int32} {fee tmp : Bool} (hX : ¬ K_sign σ st f t u sy = 0 → P (.inl (some (.int (rsO (K_sign σ st f t u sy) 0)))) G) (hS : K_sign σ st f t u sy = 0 → N 1 < 30 → ∀ G', TK E own x (sgnF σ (N 1) st f t u sy fee tmp) (va_up N 1 (N 1 + 1)) T G' → Fr0 own G G' → P (.inl (some (.int (nI (N 1))))) G') : Sp E (d + 12) yL_sign mc ms [.ref x, .int st, .int f, .int t, .int u, .int sy, .int (b2i fee), .int (b2i tmp)] G P := by
  obtain ⟨A, F, hH, hV, rfl⟩ := hT
  obtain ⟨hON, hN, hK9, -⟩ := id hH
  obtain ⟨n0, n1, n2, n3, n4, n5, e7, e22, e29, e35, e40⟩ := id hN
  refine sp_intro bd_L_sign (v1_all rfl) (Nat.le_of_ble_eq_true rfl) ?_
  change WX _ _ _ _ _ _ 0 [some (.ref (A 0 0)), some (.int st), some (.int f), some (.int t), some (.int u), some (.int sy), some (.int (b2i fee)), some (.int (b2i tmp)), none] [] _ 0 0
  refine wp_load (pc' := 1) (j := 0) dL_sign_0 rfl rfl rfl ?_
  refine wp_load (pc' := 2) (j := 1) dL_sign_1 rfl rfl rfl ?_
  refine wp_load (pc' := 3) (j := 2) dL_sign_2 rfl rfl rfl ?_
  refine wp_load (pc' := 4) (j := 3) dL_sign_3 rfl rfl rfl ?_
  refine wp_load (pc' := 6) (j := 4) dL_sign_4 rfl rfl rfl ?_
  refine wp_load (pc' := 8) (j := 5) dL_sign_6 rfl rfl rfl ?_
  refine wp_load (pc' := 10) (j := 6) dL_sign_8 rfl rfl rfl ?_
  refine wp_load (pc' := 12) (j := 7) dL_sign_10 rfl rfl rfl ?_
  refine wp_v7 10 1000 dL_sign_12 ml_L_30 hK9.1 (Nat.le_of_ble_eq_true rfl) (by omega) (by omega) ?_
  refine q_sign hH hV.1 (Nat.le_of_ble_eq_true rfl) (Nat.le_of_ble_eq_true rfl) (fun X hx => ?_) ?_
  · replace hx : exO (K_sign σ st f t u sy) X := hx
    rcases hx with ⟨hc, rfl⟩ | ⟨hc, rfl⟩ | ⟨hc, rfl⟩
    · replace hX := hX (by rw [hc]; decide)
      rw [hc] at hX
      refine kt_h 16 (hf_1 rfl (by decide) cw_L_16 ca_IndexOutOfBoundsException) (fun q => ?_)
      refine wp_store (pc' := 18) (j := 8) (ls' := [_, _, _, _, _, _, _, _, _]) dL_sign_16 rfl (Nat.le_of_ble_eq_true rfl) rfl rfl ?_
      refine wp_ldc (pc' := 20) dL_sign_18 kw_L_18 rfl ?_
      exact wp_iret dL_sign_20 rfl rfl hX
    · replace hX := hX (by rw [hc]; decide)
      rw [hc] at hX
      refine kt_h 21 (hf_n rfl (by decide) cw_L_16 (List.mem_of_getElem? (i := 1) rfl) (hf_1 rfl (by decide) cw_L_23 ca_IllegalArgumentException)) (fun q => ?_)
      refine wp_store (pc' := 23) (j := 8) (ls' := [_, _, _, _, _, _, _, _, _]) dL_sign_21 rfl (Nat.le_of_ble_eq_true rfl) rfl rfl ?_
      refine wp_ldc (pc' := 25) dL_sign_23 kw_L_25 rfl ?_
      exact wp_iret dL_sign_25 rfl rfl hX
    · replace hX := hX (by rw [hc]; decide)
      rw [hc] at hX
      refine kt_h 26 (hf_n rfl (by decide) cw_L_16 (List.mem_of_getElem? (i := 3) rfl) (hf_n rfl (by decide) cw_L_23 (List.mem_of_getElem? (i := 2) rfl) (hf_1 rfl (by decide) cw_L_34 ca_IllegalStateException))) (fun q => ?_)
      refine wp_store (pc' := 28) (j := 8) (ls' := [_, _, _, _, _, _, _, _, _]) dL_sign_26 rfl (Nat.le_of_ble_eq_true rfl) rfl rfl ?_
      refine wp_ldc (pc' := 30) dL_sign_28 kw_L_36 rfl ?_
      exact wp_iret dL_sign_30 rfl rfl hX
  · intro hK hn A2 G' h00 hW
    have hQ := hS hK hn G' ⟨_, _, hW.1, inv_sgn hN hV, h00⟩ hW.2
    refine kt_v ?_
    exact wp_iret dL_sign_15 rfl rfl hQ

set_option maxRecDepth 20000 in
set_option maxHeartbeats 2000000 in
theorem w_rule {E : XE} {d mc ms : Nat} {P : Ps} {own : Nat → Nat} {x T : Nat} {σ : MS} {N : Nat → Nat} {G : HP} (hT : TK E own x σ N T G) (hmc : 10 ≤ mc) (hms : 60 ≤ ms) {s mt q : Int32} (v : Int32) (hv : v = rsO (K_rule s mt q) (roI (ruleO σ s mt q (N 1)))) (hP : P (.inl (some (.int v))) G) : Sp E (d + 12) yL_rule mc ms [.ref x, .int s, .int mt, .int q] G P := by
  obtain ⟨A, F, hH, hV, rfl⟩ := hT
  obtain ⟨hON, hN, hK9, -⟩ := id hH
  obtain ⟨n0, n1, n2, n3, n4, n5, e7, e22, e29, e35, e40⟩ := id hN
  subst hv
  refine sp_intro bd_L_rule (v1_all rfl) (Nat.le_of_ble_eq_true rfl) ?_
  change WX _ _ _ _ _ _ 0 [some (.ref (A 0 0)), some (.int s), some (.int mt), some (.int q), none] [] _ 0 0
  refine wp_load (pc' := 1) (j := 0) dL_rule_0 rfl rfl rfl ?_
  refine wp_load (pc' := 2) (j := 1) dL_rule_1 rfl rfl rfl ?_
  refine wp_load (pc' := 3) (j := 2) dL_rule_2 rfl rfl rfl ?_
  refine wp_load (pc' := 4) (j := 3) dL_rule_3 rfl rfl rfl ?_
  refine wp_v3 10 60 dL_rule_4 ml_L_41 hK9.1 (Nat.le_of_ble_eq_true rfl) (by omega) (by omega) ?_
  refine q_rule hH hV.1 (Nat.le_of_ble_eq_true rfl) (Nat.le_of_ble_eq_true rfl) (fun X hx => ?_) ?_
  · replace hx : exO (K_rule s mt q) X := hx
    rcases hx with ⟨hc, rfl⟩ | ⟨hc, rfl⟩ | ⟨hc, rfl⟩
    · rw [hc] at hP
      refine kt_h 8 (hf_1 rfl (by decide) cw_L_16 ca_IndexOutOfBoundsException) (fun q => ?_)
      refine wp_store (pc' := 10) (j := 4) (ls' := [_, _, _, _, _]) dL_rule_8 rfl (Nat.le_of_ble_eq_true rfl) rfl rfl ?_
      refine wp_ldc (pc' := 12) dL_rule_10 kw_L_18 rfl ?_
      exact wp_iret dL_rule_12 rfl rfl hP
    · rw [hc] at hP
      refine kt_h 13 (hf_n rfl (by decide) cw_L_16 (List.mem_of_getElem? (i := 1) rfl) (hf_1 rfl (by decide) cw_L_23 ca_IllegalArgumentException)) (fun q => ?_)
      refine wp_store (pc' := 15) (j := 4) (ls' := [_, _, _, _, _]) dL_rule_13 rfl (Nat.le_of_ble_eq_true rfl) rfl rfl ?_
      refine wp_ldc (pc' := 17) dL_rule_15 kw_L_25 rfl ?_
      exact wp_iret dL_rule_17 rfl rfl hP
    · exact (mcode_3 hc).elim
  · intro hK 
    replace hK : K_rule s mt q = 0 := hK
    rw [show rsO (K_rule s mt q) (roI (ruleO σ s mt q (N 1))) = roI (ruleO σ s mt q (N 1)) from if_pos hK] at hP
    refine kt_v ?_
    exact wp_iret dL_rule_7 rfl rfl hP

set_option maxRecDepth 20000 in
set_option maxHeartbeats 2000000 in
theorem w_ruleAnew {E : XE} {d mc ms : Nat} {P : Ps} {own : Nat → Nat} {x T : Nat} {σ : MS} {N : Nat → Nat} {G : HP} (hT : TK E own x σ N T G) (hmc : 10 ≤ mc) (hms : 60 ≤ ms) {s mt q : Int32} (v : Int32) (hv : v = rsO (K_rule s mt q) (roI (ruleO σ s mt q (N 1)))) (hP : P (.inl (some (.int v))) G) : Sp E (d + 12) yL_ruleAnew mc ms [.ref x, .int s, .int mt, .int q] G P := by
  obtain ⟨A, F, hH, hV, rfl⟩ := hT
  obtain ⟨hON, hN, hK9, -⟩ := id hH
  obtain ⟨n0, n1, n2, n3, n4, n5, e7, e22, e29, e35, e40⟩ := id hN
  subst hv
  refine sp_intro bd_L_ruleAnew (v1_all rfl) (Nat.le_of_ble_eq_true rfl) ?_
  change WX _ _ _ _ _ _ 0 [some (.ref (A 0 0)), some (.int s), some (.int mt), some (.int q), none] [] _ 0 0
  refine wp_load (pc' := 1) (j := 0) dL_ruleAnew_0 rfl rfl rfl ?_
  refine wp_load (pc' := 2) (j := 1) dL_ruleAnew_1 rfl rfl rfl ?_
  refine wp_load (pc' := 3) (j := 2) dL_ruleAnew_2 rfl rfl rfl ?_
  refine wp_load (pc' := 4) (j := 3) dL_ruleAnew_3 rfl rfl rfl ?_
  refine wp_v3 10 60 dL_ruleAnew_4 ml_L_45 hK9.1 (Nat.le_of_ble_eq_true rfl) (by omega) (by omega) ?_
  refine q_ruleAnew hH hV.1 (Nat.le_of_ble_eq_true rfl) (Nat.le_of_ble_eq_true rfl) (fun X hx => ?_) ?_
  · replace hx : exO (K_rule s mt q) X := hx
    rcases hx with ⟨hc, rfl⟩ | ⟨hc, rfl⟩ | ⟨hc, rfl⟩
    · rw [hc] at hP
      refine kt_h 8 (hf_1 rfl (by decide) cw_L_16 ca_IndexOutOfBoundsException) (fun q => ?_)
      refine wp_store (pc' := 10) (j := 4) (ls' := [_, _, _, _, _]) dL_ruleAnew_8 rfl (Nat.le_of_ble_eq_true rfl) rfl rfl ?_
      refine wp_ldc (pc' := 12) dL_ruleAnew_10 kw_L_18 rfl ?_
      exact wp_iret dL_ruleAnew_12 rfl rfl hP
    · rw [hc] at hP
      refine kt_h 13 (hf_n rfl (by decide) cw_L_16 (List.mem_of_getElem? (i := 1) rfl) (hf_1 rfl (by decide) cw_L_23 ca_IllegalArgumentException)) (fun q => ?_)
      refine wp_store (pc' := 15) (j := 4) (ls' := [_, _, _, _, _]) dL_ruleAnew_13 rfl (Nat.le_of_ble_eq_true rfl) rfl rfl ?_
      refine wp_ldc (pc' := 17) dL_ruleAnew_15 kw_L_25 rfl ?_
      exact wp_iret dL_ruleAnew_17 rfl rfl hP
    · exact (mcode_3 hc).elim
  · intro hK 
    replace hK : K_rule s mt q = 0 := hK
    rw [show rsO (K_rule s mt q) (roI (ruleO σ s mt q (N 1))) = roI (ruleO σ s mt q (N 1)) from if_pos hK] at hP
    refine kt_v ?_
    exact wp_iret dL_ruleAnew_7 rfl rfl hP

set_option maxRecDepth 20000 in
set_option maxHeartbeats 2000000 in
theorem w_car {E : XE} {d mc ms : Nat} {P : Ps} {own : Nat → Nat} {x T : Nat} {σ : MS} {N : Nat → Nat} {G : HP} (hT : TK E own x σ N T G) (hmc : 10 ≤ mc) (hms : 1000 ≤ ms) {l u : Int32} (hX : ¬ K_car σ l u = 0 → P (.inl (some (.int (rsP (K_car σ l u) 0)))) G) (hS : K_car σ l u = 0 → N 2 < 30 → ∀ G', TK E own x (carF σ (N 2) l u) (va_up N 2 (N 2 + 1)) T G' → Fr0 own G G' → P (.inl (some (.int (nI (N 2))))) G') : Sp E (d + 12) yL_car mc ms [.ref x, .int l, .int u] G P := by
  obtain ⟨A, F, hH, hV, rfl⟩ := hT
  obtain ⟨hON, hN, hK9, -⟩ := id hH
  obtain ⟨n0, n1, n2, n3, n4, n5, e7, e22, e29, e35, e40⟩ := id hN
  refine sp_intro bd_L_car (v1_all rfl) (Nat.le_of_ble_eq_true rfl) ?_
  change WX _ _ _ _ _ _ 0 [some (.ref (A 0 0)), some (.int l), some (.int u), none] [] _ 0 0
  refine wp_load (pc' := 1) (j := 0) dL_car_0 rfl rfl rfl ?_
  refine wp_load (pc' := 2) (j := 1) dL_car_1 rfl rfl rfl ?_
  refine wp_load (pc' := 3) (j := 2) dL_car_2 rfl rfl rfl ?_
  refine wp_v2 10 1000 dL_car_3 ml_L_48 hK9.1 (Nat.le_of_ble_eq_true rfl) (by omega) (by omega) ?_
  refine q_car hH hV.1 (Nat.le_of_ble_eq_true rfl) (Nat.le_of_ble_eq_true rfl) (fun X hx => ?_) ?_
  · replace hx : exP (K_car σ l u) X := hx
    rcases hx with ⟨hc, rfl⟩ | ⟨hc, rfl⟩
    · replace hX := hX (by rw [hc]; decide)
      rw [hc] at hX
      refine kt_h 7 (hf_1 rfl (by decide) cw_L_23 ca_IllegalArgumentException) (fun q => ?_)
      refine wp_store (pc' := 8) (j := 3) (ls' := [_, _, _, _]) dL_car_7 rfl (Nat.le_of_ble_eq_true rfl) rfl rfl ?_
      refine wp_ldc (pc' := 10) dL_car_8 kw_L_25 rfl ?_
      exact wp_iret dL_car_10 rfl rfl hX
    · replace hX := hX (by rw [hc]; decide)
      rw [hc] at hX
      refine kt_h 11 (hf_n rfl (by decide) cw_L_23 (List.mem_of_getElem? (i := 2) rfl) (hf_1 rfl (by decide) cw_L_34 ca_IllegalStateException)) (fun q => ?_)
      refine wp_store (pc' := 12) (j := 3) (ls' := [_, _, _, _]) dL_car_11 rfl (Nat.le_of_ble_eq_true rfl) rfl rfl ?_
      refine wp_ldc (pc' := 14) dL_car_12 kw_L_36 rfl ?_
      exact wp_iret dL_car_14 rfl rfl hX
  · intro hK hn A2 G' h00 hW
    have hl : inB l 3 12 = true := by
      have := (mcode_0 hK).1
      rw [Bool.and_eq_true] at this
      exact this.1
    have hQ := hS hK hn G' ⟨_, _, hW.1, inv_car hN hV hl, h00⟩ hW.2
    refine kt_v ?_
    exact wp_iret dL_car_6 rfl rfl hQ

set_option maxRecDepth 20000 in
set_option maxHeartbeats 2000000 in
theorem w_permit {E : XE} {d mc ms : Nat} {P : Ps} {own : Nat → Nat} {x T : Nat} {σ : MS} {N : Nat → Nat} {G : HP} (hT : TK E own x σ N T G) (hmc : 10 ≤ mc) (hms : 1000 ≤ ms) {i s h f t : Int32} (hX : ¬ K_permit σ (N 3) i s h f t = 0 → P (.inl (some (.int (rsO (K_permit σ (N 3) i s h f t) 0)))) G) (hS : K_permit σ (N 3) i s h f t = 0 → N 3 < 40 → ∀ G', TK E own x (perF σ (N 3) i s h f t) (va_up N 3 (N 3 + 1)) T G' → Fr0 own G G' → P (.inl (some (.int (nI (N 3))))) G') : Sp E (d + 12) yL_permit mc ms [.ref x, .int i, .int s, .int h, .int f, .int t] G P := by
  obtain ⟨A, F, hH, hV, rfl⟩ := hT
  obtain ⟨hON, hN, hK9, -⟩ := id hH
  obtain ⟨n0, n1, n2, n3, n4, n5, e7, e22, e29, e35, e40⟩ := id hN
  refine sp_intro bd_L_permit (v1_all rfl) (Nat.le_of_ble_eq_true rfl) ?_
  change WX _ _ _ _ _ _ 0 [some (.ref (A 0 0)), some (.int i), some (.int s), some (.int h), some (.int f), some (.int t), none] [] _ 0 0
  refine wp_load (pc' := 1) (j := 0) dL_permit_0 rfl rfl rfl ?_
  refine wp_load (pc' := 2) (j := 1) dL_permit_1 rfl rfl rfl ?_
  refine wp_load (pc' := 3) (j := 2) dL_permit_2 rfl rfl rfl ?_
  refine wp_load (pc' := 4) (j := 3) dL_permit_3 rfl rfl rfl ?_
  refine wp_load (pc' := 6) (j := 4) dL_permit_4 rfl rfl rfl ?_
  refine wp_load (pc' := 8) (j := 5) dL_permit_6 rfl rfl rfl ?_
  refine wp_v5 10 1000 dL_permit_8 ml_L_52 hK9.1 (Nat.le_of_ble_eq_true rfl) (by omega) (by omega) ?_
  refine q_permit hH hV.1 (Nat.le_of_ble_eq_true rfl) (Nat.le_of_ble_eq_true rfl) (fun X hx => ?_) ?_
  · replace hx : exO (K_permit σ (N 3) i s h f t) X := hx
    rcases hx with ⟨hc, rfl⟩ | ⟨hc, rfl⟩ | ⟨hc, rfl⟩
    · replace hX := hX (by rw [hc]; decide)
      rw [hc] at hX
      refine kt_h 12 (hf_1 rfl (by decide) cw_L_16 ca_IndexOutOfBoundsException) (fun q => ?_)
      refine wp_store (pc' := 14) (j := 6) (ls' := [_, _, _, _, _, _, _]) dL_permit_12 rfl (Nat.le_of_ble_eq_true rfl) rfl rfl ?_
      refine wp_ldc (pc' := 16) dL_permit_14 kw_L_18 rfl ?_
      exact wp_iret dL_permit_16 rfl rfl hX
    · replace hX := hX (by rw [hc]; decide)
      rw [hc] at hX
      refine kt_h 17 (hf_n rfl (by decide) cw_L_16 (List.mem_of_getElem? (i := 1) rfl) (hf_1 rfl (by decide) cw_L_23 ca_IllegalArgumentException)) (fun q => ?_)
      refine wp_store (pc' := 19) (j := 6) (ls' := [_, _, _, _, _, _, _]) dL_permit_17 rfl (Nat.le_of_ble_eq_true rfl) rfl rfl ?_
      refine wp_ldc (pc' := 21) dL_permit_19 kw_L_25 rfl ?_
      exact wp_iret dL_permit_21 rfl rfl hX
    · replace hX := hX (by rw [hc]; decide)
      rw [hc] at hX
      refine kt_h 22 (hf_n rfl (by decide) cw_L_16 (List.mem_of_getElem? (i := 3) rfl) (hf_n rfl (by decide) cw_L_23 (List.mem_of_getElem? (i := 2) rfl) (hf_1 rfl (by decide) cw_L_34 ca_IllegalStateException))) (fun q => ?_)
      refine wp_store (pc' := 24) (j := 6) (ls' := [_, _, _, _, _, _, _]) dL_permit_22 rfl (Nat.le_of_ble_eq_true rfl) rfl rfl ?_
      refine wp_ldc (pc' := 26) dL_permit_24 kw_L_36 rfl ?_
      exact wp_iret dL_permit_26 rfl rfl hX
  · intro hK hn A2 G' h00 hW
    have hQ := hS hK hn G' ⟨_, _, hW.1, inv_per hV, h00⟩ hW.2
    rw [show nI (N 3) = nI (N 3 + 1) - 1 from (by rw [← nI_1, Int32.add_sub_cancel])] at hQ
    refine kt_v ?_
    exact wp_iret dL_permit_11 rfl rfl hQ

set_option maxRecDepth 20000 in
set_option maxHeartbeats 2000000 in
theorem w_countsAs {E : XE} {d mc ms : Nat} {P : Ps} {own : Nat → Nat} {x T : Nat} {σ : MS} {N : Nat → Nat} {G : HP} (hT : TK E own x σ N T G) (hmc : 10 ≤ mc) (hms : 60 ≤ ms) {i s : Int32} (v : Int32) (hv : v = rsO (K_countsAs σ i s) (userOnF σ (ix i) s (σ.1 0 / 96) (N 3))) (hP : P (.inl (some (.int v))) G) : Sp E (d + 12) yL_countsAs mc ms [.ref x, .int i, .int s] G P := by
  obtain ⟨A, F, hH, hV, rfl⟩ := hT
  obtain ⟨hON, hN, hK9, -⟩ := id hH
  obtain ⟨n0, n1, n2, n3, n4, n5, e7, e22, e29, e35, e40⟩ := id hN
  subst hv
  refine sp_intro bd_L_countsAs (v1_all rfl) (Nat.le_of_ble_eq_true rfl) ?_
  change WX _ _ _ _ _ _ 0 [some (.ref (A 0 0)), some (.int i), some (.int s), none] [] _ 0 0
  refine wp_load (pc' := 1) (j := 0) dL_countsAs_0 rfl rfl rfl ?_
  refine wp_load (pc' := 2) (j := 1) dL_countsAs_1 rfl rfl rfl ?_
  refine wp_load (pc' := 3) (j := 2) dL_countsAs_2 rfl rfl rfl ?_
  refine wp_v2 10 60 dL_countsAs_3 ml_L_59 hK9.1 (Nat.le_of_ble_eq_true rfl) (by omega) (by omega) ?_
  refine q_countsAs hH hV.1 (Nat.le_of_ble_eq_true rfl) (Nat.le_of_ble_eq_true rfl) (fun X hx => ?_) ?_
  · replace hx : exO (K_countsAs σ i s) X := hx
    rcases hx with ⟨hc, rfl⟩ | ⟨hc, rfl⟩ | ⟨hc, rfl⟩
    · rw [hc] at hP
      refine kt_h 7 (hf_1 rfl (by decide) cw_L_16 ca_IndexOutOfBoundsException) (fun q => ?_)
      refine wp_store (pc' := 8) (j := 3) (ls' := [_, _, _, _]) dL_countsAs_7 rfl (Nat.le_of_ble_eq_true rfl) rfl rfl ?_
      refine wp_ldc (pc' := 10) dL_countsAs_8 kw_L_18 rfl ?_
      exact wp_iret dL_countsAs_10 rfl rfl hP
    · exact (mcode_2 hc).elim
    · exact (mcode_3 hc).elim
  · intro hK j hj he
    replace hK : K_countsAs σ i s = 0 := hK
    rw [show rsO (K_countsAs σ i s) (userOnF σ (ix i) s (σ.1 0 / 96) (N 3)) = userOnF σ (ix i) s (σ.1 0 / 96) (N 3) from if_pos hK] at hP
    rw [show ix i = j from by rw [he, ix_nI (by omega)]] at hP
    refine kt_v ?_
    exact wp_iret dL_countsAs_6 rfl rfl hP

set_option maxRecDepth 20000 in
set_option maxHeartbeats 2000000 in
theorem w_park {E : XE} {d mc ms : Nat} {P : Ps} {own : Nat → Nat} {x T : Nat} {σ : MS} {N : Nat → Nat} {G : HP} (hT : TK E own x σ N T G) (hmc : 10 ≤ mc) (hms : 1000 ≤ ms) {i s mt : Int32} (hTb : T + 1 ≤ 1000) (hX : ¬ K_park σ (N 2) i s mt = 0 → P (.inl (some (.int (rsQ (K_park σ (N 2) i s mt) 0)))) G) (hS : K_park σ (N 2) i s mt = 0 → ∀ j, j < N 2 → i = nI j → ∀ G', TK E own x (parkF σ j s mt) (N) (T + 1) G' → Fr0 own G G' → P (.inl (some (.int (0)))) G') : Sp E (d + 12) yL_park mc ms [.ref x, .int i, .int s, .int mt] G P := by
  obtain ⟨A, F, hH, hV, rfl⟩ := hT
  obtain ⟨hON, hN, hK9, -⟩ := id hH
  obtain ⟨n0, n1, n2, n3, n4, n5, e7, e22, e29, e35, e40⟩ := id hN
  refine sp_intro bd_L_park (v1_all rfl) (Nat.le_of_ble_eq_true rfl) ?_
  change WX _ _ _ _ _ _ 0 [some (.ref (A 0 0)), some (.int i), some (.int s), some (.int mt), none] [] _ 0 0
  refine wp_load (pc' := 1) (j := 0) dL_park_0 rfl rfl rfl ?_
  refine wp_load (pc' := 2) (j := 1) dL_park_1 rfl rfl rfl ?_
  refine wp_load (pc' := 3) (j := 2) dL_park_2 rfl rfl rfl ?_
  refine wp_load (pc' := 4) (j := 3) dL_park_3 rfl rfl rfl ?_
  refine wp_v3 10 1000 dL_park_4 ml_L_62 hK9.1 (Nat.le_of_ble_eq_true rfl) (by omega) (by omega) ?_
  refine q_park hH hV.1 (Nat.le_of_ble_eq_true rfl) (Nat.le_of_ble_eq_true rfl) (fun X hx => ?_) ?_
  · replace hx : exQ (K_park σ (N 2) i s mt) X := hx
    rcases hx with ⟨hc, rfl⟩ | ⟨hc, rfl⟩
    · replace hX := hX (by rw [hc]; decide)
      rw [hc] at hX
      refine kt_h 9 (hf_1 rfl (by decide) cw_L_16 ca_IndexOutOfBoundsException) (fun q => ?_)
      refine wp_store (pc' := 11) (j := 4) (ls' := [_, _, _, _, _]) dL_park_9 rfl (Nat.le_of_ble_eq_true rfl) rfl rfl ?_
      refine wp_ldc (pc' := 13) dL_park_11 kw_L_18 rfl ?_
      exact wp_iret dL_park_13 rfl rfl hX
    · replace hX := hX (by rw [hc]; decide)
      rw [hc] at hX
      refine kt_h 14 (hf_n rfl (by decide) cw_L_16 (List.mem_of_getElem? (i := 3) rfl) (hf_1 rfl (by decide) cw_L_34 ca_IllegalStateException)) (fun q => ?_)
      refine wp_store (pc' := 16) (j := 4) (ls' := [_, _, _, _, _]) dL_park_14 rfl (Nat.le_of_ble_eq_true rfl) rfl rfl ?_
      refine wp_ldc (pc' := 18) dL_park_16 kw_L_36 rfl ?_
      exact wp_iret dL_park_18 rfl rfl hX
  · intro hK j hj he A2 G' h00 hW
    have hV2 : INV (parkF σ j s mt) (va_up F j (-1)) N (T + 1) := by
      obtain ⟨k1, k2, -⟩ := mcode_0 hK
      simp only [Bool.and_eq_true] at k1 k2
      obtain ⟨b, hb, rfl⟩ := st_nI k1.1.2
      obtain ⟨c, hc, rfl⟩ := mt_nI k1.2
      refine inv_park hN hV hTb hj hb ?_
      have g := gapB_0 _ k2.2
      rw [he, ix_nI (show j < 2 ^ 31 by omega)] at g
      obtain ⟨⟨L, hL3, hL12, el⟩, -⟩ := hV.1.2.2.1 j hj
      rw [el] at g ⊢
      rw [ix_nI (show L < 2 ^ 31 by omega)]
      have g2 : ¬ (60 : Int32) < nI c + nI L := by
        intro z
        rw [gapB, decide_eq_true z] at g
        exact nomatch g
      rw [nI_add] at g2
      rcases Nat.lt_or_ge 60 (c + L) with z | z
      · exact absurd (show nI 60 < nI (c + L) from nI_lt z (by omega)) g2
      · exact z
    have hQ := hS hK j hj he G' ⟨_, _, hW.1, hV2, h00⟩ hW.2
    refine kt_u ?_
    refine wp_iconst (pc' := 8) (0) dL_park_7 rfl rfl ?_
    exact wp_iret dL_park_8 rfl rfl hQ

set_option maxRecDepth 20000 in
set_option maxHeartbeats 2000000 in
theorem w_leave {E : XE} {d mc ms : Nat} {P : Ps} {own : Nat → Nat} {x T : Nat} {σ : MS} {N : Nat → Nat} {G : HP} (hT : TK E own x σ N T G) (hmc : 10 ≤ mc) (hms : 1000 ≤ ms) {i : Int32} (hX : ¬ K_leave σ i = 0 → P (.inl (some (.int (rsQ (K_leave σ i) 0)))) G) (hS : K_leave σ i = 0 → ∀ j, j < N 2 → i = nI j → ∀ G', TK E own x (mar (zz σ) 25 j (-1)) (N) T G' → Fr0 own G G' → P (.inl (some (.int (σ.1 0 - σ.2.1 27 j)))) G') : Sp E (d + 12) yL_leave mc ms [.ref x, .int i] G P := by
  obtain ⟨A, F, hH, hV, rfl⟩ := hT
  obtain ⟨hON, hN, hK9, -⟩ := id hH
  obtain ⟨n0, n1, n2, n3, n4, n5, e7, e22, e29, e35, e40⟩ := id hN
  refine sp_intro bd_L_leave (v1_all rfl) (Nat.le_of_ble_eq_true rfl) ?_
  change WX _ _ _ _ _ _ 0 [some (.ref (A 0 0)), some (.int i), none] [] _ 0 0
  refine wp_load (pc' := 1) (j := 0) dL_leave_0 rfl rfl rfl ?_
  refine wp_load (pc' := 2) (j := 1) dL_leave_1 rfl rfl rfl ?_
  refine wp_v1 10 1000 dL_leave_2 ml_L_65 hK9.1 (Nat.le_of_ble_eq_true rfl) (by omega) (by omega) ?_
  refine q_leave hH hV.1 (Nat.le_of_ble_eq_true rfl) (Nat.le_of_ble_eq_true rfl) (fun X hx => ?_) ?_
  · replace hx : exQ (K_leave σ i) X := hx
    rcases hx with ⟨hc, rfl⟩ | ⟨hc, rfl⟩
    · replace hX := hX (by rw [hc]; decide)
      rw [hc] at hX
      refine kt_h 6 (hf_1 rfl (by decide) cw_L_16 ca_IndexOutOfBoundsException) (fun q => ?_)
      refine wp_store (pc' := 7) (j := 2) (ls' := [_, _, _]) dL_leave_6 rfl (Nat.le_of_ble_eq_true rfl) rfl rfl ?_
      refine wp_ldc (pc' := 9) dL_leave_7 kw_L_18 rfl ?_
      exact wp_iret dL_leave_9 rfl rfl hX
    · replace hX := hX (by rw [hc]; decide)
      rw [hc] at hX
      refine kt_h 10 (hf_n rfl (by decide) cw_L_16 (List.mem_of_getElem? (i := 3) rfl) (hf_1 rfl (by decide) cw_L_34 ca_IllegalStateException)) (fun q => ?_)
      refine wp_store (pc' := 11) (j := 2) (ls' := [_, _, _]) dL_leave_10 rfl (Nat.le_of_ble_eq_true rfl) rfl rfl ?_
      refine wp_ldc (pc' := 13) dL_leave_11 kw_L_36 rfl ?_
      exact wp_iret dL_leave_13 rfl rfl hX
  · intro hK j hj he G' hW
    have hQ := hS hK j hj he G' ⟨_, _, hW.1, inv_off hV, rfl⟩ hW.2
    refine kt_v ?_
    exact wp_iret dL_leave_5 rfl rfl hQ

set_option maxRecDepth 20000 in
set_option maxHeartbeats 2000000 in
theorem w_gap {E : XE} {d mc ms : Nat} {P : Ps} {own : Nat → Nat} {x T : Nat} {σ : MS} {N : Nat → Nat} {G : HP} (hT : TK E own x σ N T G) (hmc : 10 ≤ mc) (hms : 60 ≤ ms) {s l : Int32} (v : Int32) (hv : v = rsO (K_gap s l) (gapF σ s l (N 2) 60)) (hP : P (.inl (some (.int v))) G) : Sp E (d + 12) yL_gap mc ms [.ref x, .int s, .int l] G P := by
  obtain ⟨A, F, hH, hV, rfl⟩ := hT
  obtain ⟨hON, hN, hK9, -⟩ := id hH
  obtain ⟨n0, n1, n2, n3, n4, n5, e7, e22, e29, e35, e40⟩ := id hN
  subst hv
  refine sp_intro bd_L_gap (v1_all rfl) (Nat.le_of_ble_eq_true rfl) ?_
  change WX _ _ _ _ _ _ 0 [some (.ref (A 0 0)), some (.int s), some (.int l), none] [] _ 0 0
  refine wp_load (pc' := 1) (j := 0) dL_gap_0 rfl rfl rfl ?_
  refine wp_load (pc' := 2) (j := 1) dL_gap_1 rfl rfl rfl ?_
  refine wp_load (pc' := 3) (j := 2) dL_gap_2 rfl rfl rfl ?_
  refine wp_v2 10 60 dL_gap_3 ml_L_69 hK9.1 (Nat.le_of_ble_eq_true rfl) (by omega) (by omega) ?_
  refine q_gap hH hV.1 (Nat.le_of_ble_eq_true rfl) (Nat.le_of_ble_eq_true rfl) (fun X hx => ?_) ?_
  · replace hx : exO (K_gap s l) X := hx
    rcases hx with ⟨hc, rfl⟩ | ⟨hc, rfl⟩ | ⟨hc, rfl⟩
    · rw [hc] at hP
      refine kt_h 7 (hf_1 rfl (by decide) cw_L_16 ca_IndexOutOfBoundsException) (fun q => ?_)
      refine wp_store (pc' := 8) (j := 3) (ls' := [_, _, _, _]) dL_gap_7 rfl (Nat.le_of_ble_eq_true rfl) rfl rfl ?_
      refine wp_ldc (pc' := 10) dL_gap_8 kw_L_18 rfl ?_
      exact wp_iret dL_gap_10 rfl rfl hP
    · rw [hc] at hP
      refine kt_h 11 (hf_n rfl (by decide) cw_L_16 (List.mem_of_getElem? (i := 1) rfl) (hf_1 rfl (by decide) cw_L_23 ca_IllegalArgumentException)) (fun q => ?_)
      refine wp_store (pc' := 12) (j := 3) (ls' := [_, _, _, _]) dL_gap_11 rfl (Nat.le_of_ble_eq_true rfl) rfl rfl ?_
      refine wp_ldc (pc' := 14) dL_gap_12 kw_L_25 rfl ?_
      exact wp_iret dL_gap_14 rfl rfl hP
    · exact (mcode_3 hc).elim
  · intro hK 
    replace hK : K_gap s l = 0 := hK
    rw [show rsO (K_gap s l) (gapF σ s l (N 2) 60) = gapF σ s l (N 2) 60 from if_pos hK] at hP
    refine kt_v ?_
    exact wp_iret dL_gap_6 rfl rfl hP

set_option maxRecDepth 20000 in
set_option maxHeartbeats 2000000 in
theorem w_pay {E : XE} {d mc ms : Nat} {P : Ps} {own : Nat → Nat} {x T : Nat} {σ : MS} {N : Nat → Nat} {G : HP} (hT : TK E own x σ N T G) (hmc : 10 ≤ mc) (hms : 1000 ≤ ms) {i s f q : Int32} (hX : ¬ K_pay σ i s f q = 0 → P (.inl (some (.int (rsO (K_pay σ i s f q) 0)))) G) (hS : K_pay σ i s f q = 0 → ∀ a, a < 4 → s = nI a → N 4 < 200 → ∀ G', TK E own x (payF σ (N 4) i s f q a) (va_up N 4 (N 4 + 1)) T G' → Fr0 own G G' → P (.inl (some (.int (q * σ.2.1 52 a)))) G') : Sp E (d + 12) yL_pay mc ms [.ref x, .int i, .int s, .int f, .int q] G P := by
  obtain ⟨A, F, hH, hV, rfl⟩ := hT
  obtain ⟨hON, hN, hK9, -⟩ := id hH
  obtain ⟨n0, n1, n2, n3, n4, n5, e7, e22, e29, e35, e40⟩ := id hN
  refine sp_intro bd_L_pay (v1_all rfl) (Nat.le_of_ble_eq_true rfl) ?_
  change WX _ _ _ _ _ _ 0 [some (.ref (A 0 0)), some (.int i), some (.int s), some (.int f), some (.int q), none] [] _ 0 0
  refine wp_load (pc' := 1) (j := 0) dL_pay_0 rfl rfl rfl ?_
  refine wp_load (pc' := 2) (j := 1) dL_pay_1 rfl rfl rfl ?_
  refine wp_load (pc' := 3) (j := 2) dL_pay_2 rfl rfl rfl ?_
  refine wp_load (pc' := 4) (j := 3) dL_pay_3 rfl rfl rfl ?_
  refine wp_load (pc' := 6) (j := 4) dL_pay_4 rfl rfl rfl ?_
  refine wp_v4 10 1000 dL_pay_6 ml_L_72 hK9.1 (Nat.le_of_ble_eq_true rfl) (by omega) (by omega) ?_
  refine q_pay hH hV.1 (Nat.le_of_ble_eq_true rfl) (Nat.le_of_ble_eq_true rfl) (fun X hx => ?_) ?_
  · replace hx : exO (K_pay σ i s f q) X := hx
    rcases hx with ⟨hc, rfl⟩ | ⟨hc, rfl⟩ | ⟨hc, rfl⟩
    · replace hX := hX (by rw [hc]; decide)
      rw [hc] at hX
      refine kt_h 10 (hf_1 rfl (by decide) cw_L_16 ca_IndexOutOfBoundsException) (fun q => ?_)
      refine wp_store (pc' := 12) (j := 5) (ls' := [_, _, _, _, _, _]) dL_pay_10 rfl (Nat.le_of_ble_eq_true rfl) rfl rfl ?_
      refine wp_ldc (pc' := 14) dL_pay_12 kw_L_18 rfl ?_
      exact wp_iret dL_pay_14 rfl rfl hX
    · replace hX := hX (by rw [hc]; decide)
      rw [hc] at hX
      refine kt_h 15 (hf_n rfl (by decide) cw_L_16 (List.mem_of_getElem? (i := 1) rfl) (hf_1 rfl (by decide) cw_L_23 ca_IllegalArgumentException)) (fun q => ?_)
      refine wp_store (pc' := 17) (j := 5) (ls' := [_, _, _, _, _, _]) dL_pay_15 rfl (Nat.le_of_ble_eq_true rfl) rfl rfl ?_
      refine wp_ldc (pc' := 19) dL_pay_17 kw_L_25 rfl ?_
      exact wp_iret dL_pay_19 rfl rfl hX
    · replace hX := hX (by rw [hc]; decide)
      rw [hc] at hX
      refine kt_h 20 (hf_n rfl (by decide) cw_L_16 (List.mem_of_getElem? (i := 3) rfl) (hf_n rfl (by decide) cw_L_23 (List.mem_of_getElem? (i := 2) rfl) (hf_1 rfl (by decide) cw_L_34 ca_IllegalStateException))) (fun q => ?_)
      refine wp_store (pc' := 22) (j := 5) (ls' := [_, _, _, _, _, _]) dL_pay_20 rfl (Nat.le_of_ble_eq_true rfl) rfl rfl ?_
      refine wp_ldc (pc' := 24) dL_pay_22 kw_L_36 rfl ?_
      exact wp_iret dL_pay_24 rfl rfl hX
  · intro hK a ha he hn A2 G' h00 hW
    have hQ := hS hK a ha he hn G' ⟨_, _, hW.1, inv_pay hV, h00⟩ hW.2
    refine kt_v ?_
    exact wp_iret dL_pay_9 rfl rfl hQ

set_option maxRecDepth 20000 in
set_option maxHeartbeats 2000000 in
theorem w_judge {E : XE} {d mc ms : Nat} {P : Ps} {own : Nat → Nat} {x T : Nat} {σ : MS} {N : Nat → Nat} {G : HP} (hT : TK E own x σ N T G) (hmc : 10 ≤ mc) (hms : 60 ≤ ms) {i : Int32} (v : Int32) (hv : v = rsO (K_car1 σ i) (if σ.2.1 25 (ix i) = -1 then -1 else judNow σ (ix i))) (hP : P (.inl (some (.int v))) G) : Sp E (d + 12) yL_judge mc ms [.ref x, .int i] G P := by
  obtain ⟨A, F, hH, hV, rfl⟩ := hT
  obtain ⟨hON, hN, hK9, -⟩ := id hH
  obtain ⟨n0, n1, n2, n3, n4, n5, e7, e22, e29, e35, e40⟩ := id hN
  subst hv
  refine sp_intro bd_L_judge (v1_all rfl) (Nat.le_of_ble_eq_true rfl) ?_
  change WX _ _ _ _ _ _ 0 [some (.ref (A 0 0)), some (.int i), none] [] _ 0 0
  refine wp_load (pc' := 1) (j := 0) dL_judge_0 rfl rfl rfl ?_
  refine wp_load (pc' := 2) (j := 1) dL_judge_1 rfl rfl rfl ?_
  refine wp_v1 10 60 dL_judge_2 ml_L_76 hK9.1 (Nat.le_of_ble_eq_true rfl) (by omega) (by omega) ?_
  refine q_judge hH hV.1 (Nat.le_of_ble_eq_true rfl) (Nat.le_of_ble_eq_true rfl) (fun X hx => ?_) ?_
  · replace hx : exO (K_car1 σ i) X := hx
    rcases hx with ⟨hc, rfl⟩ | ⟨hc, rfl⟩ | ⟨hc, rfl⟩
    · rw [hc] at hP
      refine kt_h 6 (hf_1 rfl (by decide) cw_L_16 ca_IndexOutOfBoundsException) (fun q => ?_)
      refine wp_store (pc' := 7) (j := 2) (ls' := [_, _, _]) dL_judge_6 rfl (Nat.le_of_ble_eq_true rfl) rfl rfl ?_
      refine wp_ldc (pc' := 9) dL_judge_7 kw_L_18 rfl ?_
      exact wp_iret dL_judge_9 rfl rfl hP
    · exact (mcode_2 hc).elim
    · exact (mcode_3 hc).elim
  · intro hK j hj he
    replace hK : K_car1 σ i = 0 := hK
    rw [show rsO (K_car1 σ i) (if σ.2.1 25 (ix i) = -1 then -1 else judNow σ (ix i)) = if σ.2.1 25 (ix i) = -1 then -1 else judNow σ (ix i) from if_pos hK] at hP
    rw [show ix i = j from by rw [he, ix_nI (by omega)]] at hP
    refine kt_v ?_
    exact wp_iret dL_judge_5 rfl rfl hP

set_option maxRecDepth 20000 in
set_option maxHeartbeats 2000000 in
theorem w_look {E : XE} {d mc ms : Nat} {P : Ps} {own : Nat → Nat} {x T : Nat} {σ : MS} {N : Nat → Nat} {G : HP} (hT : TK E own x σ N T G) (hmc : 100 ≤ mc) (hms : 5000 ≤ ms) {s : Int32} (hX : ¬ K_look s = 0 → P (.inl (some (.int (rsO (K_look s) 0)))) G) (hS : K_look s = 0 → ∀ a, a < 4 → s = nI a → ∀ N' G', TK E own x (lookF σ (nI a) (N 2)) N' T G' → Fr0 own G G' → N' 2 = N 2 → P (.inl (some (.int ((lookF σ (nI a) (N 2)).2.1 54 a - σ.2.1 54 a)))) G') : Sp E (d + 12) yL_look mc ms [.ref x, .int s] G P := by
  obtain ⟨A, F, hH, hV, rfl⟩ := hT
  obtain ⟨hON, hN, hK9, -⟩ := id hH
  obtain ⟨n0, n1, n2, n3, n4, n5, e7, e22, e29, e35, e40⟩ := id hN
  refine sp_intro bd_L_look (v1_all rfl) (Nat.le_of_ble_eq_true rfl) ?_
  change WX _ _ _ _ _ _ 0 [some (.ref (A 0 0)), some (.int s), none] [] _ 0 0
  refine wp_load (pc' := 1) (j := 0) dL_look_0 rfl rfl rfl ?_
  refine wp_load (pc' := 2) (j := 1) dL_look_1 rfl rfl rfl ?_
  refine wp_v1 100 5000 dL_look_2 ml_L_79 hK9.1 (Nat.le_of_ble_eq_true rfl) (by omega) (by omega) ?_
  refine q_look hH hV (Nat.le_of_ble_eq_true rfl) (Nat.le_of_ble_eq_true rfl) (fun X hx => ?_) ?_
  · replace hx : exO (K_look s) X := hx
    rcases hx with ⟨hc, rfl⟩ | ⟨hc, rfl⟩ | ⟨hc, rfl⟩
    · replace hX := hX (by rw [hc]; decide)
      rw [hc] at hX
      refine kt_h 6 (hf_1 rfl (by decide) cw_L_16 ca_IndexOutOfBoundsException) (fun q => ?_)
      refine wp_store (pc' := 7) (j := 2) (ls' := [_, _, _]) dL_look_6 rfl (Nat.le_of_ble_eq_true rfl) rfl rfl ?_
      refine wp_ldc (pc' := 9) dL_look_7 kw_L_18 rfl ?_
      exact wp_iret dL_look_9 rfl rfl hX
    · exact (mcode_2 hc).elim
    · exact (mcode_3 hc).elim
  · intro hK a ha he A2 F2 N2 G' h00 hH2 hV2 hF2 hN2
    have hQ := hS hK a ha he N2 G' ⟨_, _, hH2, hV2, h00⟩ hF2 hN2
    refine kt_v ?_
    exact wp_iret dL_look_5 rfl rfl hQ

set_option maxRecDepth 20000 in
set_option maxHeartbeats 2000000 in
theorem w_appeal {E : XE} {d mc ms : Nat} {P : Ps} {own : Nat → Nat} {x T : Nat} {σ : MS} {N : Nat → Nat} {G : HP} (hT : TK E own x σ N T G) (hmc : 10 ≤ mc) (hms : 1000 ≤ ms) {i : Int32} (hX : ¬ K_appeal σ i = 0 → P (.inl (some (.int (rsQ (K_appeal σ i) 0)))) G) (hS : K_appeal σ i = 0 → ∀ j, j < N 5 → i = nI j → ∀ G', TK E own x (mbr (mbr (zz σ) 49 j true) 50 j (!σ.2.2 48 j && decide (judFine (mbr (zz σ) 49 j true) j = 0))) (N) T G' → Fr0 own G G' → P (.inl (some (.int (b2i (!σ.2.2 48 j && decide (judFine (mbr (zz σ) 49 j true) j = 0)))))) G') : Sp E (d + 12) yL_appeal mc ms [.ref x, .int i] G P := by
  obtain ⟨A, F, hH, hV, rfl⟩ := hT
  obtain ⟨hON, hN, hK9, -⟩ := id hH
  obtain ⟨n0, n1, n2, n3, n4, n5, e7, e22, e29, e35, e40⟩ := id hN
  refine sp_intro bd_L_appeal (v1_all rfl) (Nat.le_of_ble_eq_true rfl) ?_
  change WX _ _ _ _ _ _ 0 [some (.ref (A 0 0)), some (.int i), none] [] _ 0 0
  refine wp_load (pc' := 1) (j := 0) dL_appeal_0 rfl rfl rfl ?_
  refine wp_load (pc' := 2) (j := 1) dL_appeal_1 rfl rfl rfl ?_
  refine wp_v1 10 1000 dL_appeal_2 ml_L_82 hK9.1 (Nat.le_of_ble_eq_true rfl) (by omega) (by omega) ?_
  refine q_appeal hH hV.1 (Nat.le_of_ble_eq_true rfl) (Nat.le_of_ble_eq_true rfl) (fun X hx => ?_) ?_
  · replace hx : exQ (K_appeal σ i) X := hx
    rcases hx with ⟨hc, rfl⟩ | ⟨hc, rfl⟩
    · replace hX := hX (by rw [hc]; decide)
      rw [hc] at hX
      refine kt_h 14 (hf_1 rfl (by decide) cw_L_16 ca_IndexOutOfBoundsException) (fun q => ?_)
      refine wp_store (pc' := 15) (j := 2) (ls' := [_, _, _]) dL_appeal_14 rfl (Nat.le_of_ble_eq_true rfl) rfl rfl ?_
      refine wp_ldc (pc' := 17) dL_appeal_15 kw_L_18 rfl ?_
      exact wp_iret dL_appeal_17 rfl rfl hX
    · replace hX := hX (by rw [hc]; decide)
      rw [hc] at hX
      refine kt_h 18 (hf_n rfl (by decide) cw_L_16 (List.mem_of_getElem? (i := 3) rfl) (hf_1 rfl (by decide) cw_L_34 ca_IllegalStateException)) (fun q => ?_)
      refine wp_store (pc' := 19) (j := 2) (ls' := [_, _, _]) dL_appeal_18 rfl (Nat.le_of_ble_eq_true rfl) rfl rfl ?_
      refine wp_ldc (pc' := 21) dL_appeal_19 kw_L_36 rfl ?_
      exact wp_iret dL_appeal_21 rfl rfl hX
  · intro hK j hj he G' b hb hW
    subst hb
    have hQ := hS hK j hj he G' ⟨_, _, hW.1, inv_appeal hV hj, rfl⟩ hW.2
    refine kt_v ?_
    refine wp_ifeqB (pc' := 8) 12 dL_appeal_5 rfl rfl (fun hb0 => ?_) (fun hb0 => ?_)
    · rw [hb0] at hQ
      refine wp_iconst (pc' := 13) (0) dL_appeal_12 rfl rfl ?_
      exact wp_iret dL_appeal_13 rfl rfl hQ
    · rw [hb0] at hQ
      refine wp_iconst (pc' := 9) (1) dL_appeal_8 rfl rfl ?_
      refine wp_goto 13 dL_appeal_9 rfl ?_
      exact wp_iret dL_appeal_13 rfl rfl hQ

set_option maxRecDepth 20000 in
set_option maxHeartbeats 2000000 in
theorem w_payFine {E : XE} {d mc ms : Nat} {P : Ps} {own : Nat → Nat} {x T : Nat} {σ : MS} {N : Nat → Nat} {G : HP} (hT : TK E own x σ N T G) (hmc : 10 ≤ mc) (hms : 1000 ≤ ms) {i : Int32} (hX : ¬ K_payFine σ i = 0 → P (.inl (some (.int (rsQ (K_payFine σ i) 0)))) G) (hS : K_payFine σ i = 0 → ∀ j, j < N 5 → i = nI j → ∀ G', TK E own x (mbr (zz σ) 51 j true) (N) T G' → Fr0 own G G' → P (.inl (some (.int (amoF σ j)))) G') : Sp E (d + 12) yL_payFine mc ms [.ref x, .int i] G P := by
  obtain ⟨A, F, hH, hV, rfl⟩ := hT
  obtain ⟨hON, hN, hK9, -⟩ := id hH
  obtain ⟨n0, n1, n2, n3, n4, n5, e7, e22, e29, e35, e40⟩ := id hN
  refine sp_intro bd_L_payFine (v1_all rfl) (Nat.le_of_ble_eq_true rfl) ?_
  change WX _ _ _ _ _ _ 0 [some (.ref (A 0 0)), some (.int i), none] [] _ 0 0
  refine wp_load (pc' := 1) (j := 0) dL_payFine_0 rfl rfl rfl ?_
  refine wp_load (pc' := 2) (j := 1) dL_payFine_1 rfl rfl rfl ?_
  refine wp_v1 10 1000 dL_payFine_2 ml_L_86 hK9.1 (Nat.le_of_ble_eq_true rfl) (by omega) (by omega) ?_
  refine q_payFine hH hV.1 (Nat.le_of_ble_eq_true rfl) (Nat.le_of_ble_eq_true rfl) (fun X hx => ?_) ?_
  · replace hx : exQ (K_payFine σ i) X := hx
    rcases hx with ⟨hc, rfl⟩ | ⟨hc, rfl⟩
    · replace hX := hX (by rw [hc]; decide)
      rw [hc] at hX
      refine kt_h 6 (hf_1 rfl (by decide) cw_L_16 ca_IndexOutOfBoundsException) (fun q => ?_)
      refine wp_store (pc' := 7) (j := 2) (ls' := [_, _, _]) dL_payFine_6 rfl (Nat.le_of_ble_eq_true rfl) rfl rfl ?_
      refine wp_ldc (pc' := 9) dL_payFine_7 kw_L_18 rfl ?_
      exact wp_iret dL_payFine_9 rfl rfl hX
    · replace hX := hX (by rw [hc]; decide)
      rw [hc] at hX
      refine kt_h 10 (hf_n rfl (by decide) cw_L_16 (List.mem_of_getElem? (i := 3) rfl) (hf_1 rfl (by decide) cw_L_34 ca_IllegalStateException)) (fun q => ?_)
      refine wp_store (pc' := 11) (j := 2) (ls' := [_, _, _]) dL_payFine_10 rfl (Nat.le_of_ble_eq_true rfl) rfl rfl ?_
      refine wp_ldc (pc' := 13) dL_payFine_11 kw_L_36 rfl ?_
      exact wp_iret dL_payFine_13 rfl rfl hX
  · intro hK j hj he G' hW
    have hQ := hS hK j hj he G' ⟨_, _, hW.1, inv_payFine hV hj, rfl⟩ hW.2
    refine kt_v ?_
    exact wp_iret dL_payFine_5 rfl rfl hQ

set_option maxRecDepth 20000 in
set_option maxHeartbeats 2000000 in
theorem w_fine {E : XE} {d mc ms : Nat} {P : Ps} {own : Nat → Nat} {x T : Nat} {σ : MS} {N : Nat → Nat} {G : HP} (hT : TK E own x σ N T G) (hmc : 10 ≤ mc) (hms : 60 ≤ ms) {i w : Int32} (v : Int32) (hv : v = rsO (K_fine σ i w) (fineV σ (ix i) w)) (hP : P (.inl (some (.int v))) G) : Sp E (d + 12) yL_fine mc ms [.ref x, .int i, .int w] G P := by
  obtain ⟨A, F, hH, hV, rfl⟩ := hT
  obtain ⟨hON, hN, hK9, -⟩ := id hH
  obtain ⟨n0, n1, n2, n3, n4, n5, e7, e22, e29, e35, e40⟩ := id hN
  subst hv
  refine sp_intro bd_L_fine (v1_all rfl) (Nat.le_of_ble_eq_true rfl) ?_
  change WX _ _ _ _ _ _ 0 [some (.ref (A 0 0)), some (.int i), some (.int w), none] [] _ 0 0
  refine wp_load (pc' := 1) (j := 0) dL_fine_0 rfl rfl rfl ?_
  refine wp_load (pc' := 2) (j := 1) dL_fine_1 rfl rfl rfl ?_
  refine wp_load (pc' := 3) (j := 2) dL_fine_2 rfl rfl rfl ?_
  refine wp_v2 10 60 dL_fine_3 ml_L_89 hK9.1 (Nat.le_of_ble_eq_true rfl) (by omega) (by omega) ?_
  refine q_fine hH hV.1 (Nat.le_of_ble_eq_true rfl) (Nat.le_of_ble_eq_true rfl) (fun X hx => ?_) ?_
  · replace hx : exO (K_fine σ i w) X := hx
    rcases hx with ⟨hc, rfl⟩ | ⟨hc, rfl⟩ | ⟨hc, rfl⟩
    · rw [hc] at hP
      refine kt_h 7 (hf_1 rfl (by decide) cw_L_16 ca_IndexOutOfBoundsException) (fun q => ?_)
      refine wp_store (pc' := 8) (j := 3) (ls' := [_, _, _, _]) dL_fine_7 rfl (Nat.le_of_ble_eq_true rfl) rfl rfl ?_
      refine wp_ldc (pc' := 10) dL_fine_8 kw_L_18 rfl ?_
      exact wp_iret dL_fine_10 rfl rfl hP
    · rw [hc] at hP
      refine kt_h 11 (hf_n rfl (by decide) cw_L_16 (List.mem_of_getElem? (i := 1) rfl) (hf_1 rfl (by decide) cw_L_23 ca_IllegalArgumentException)) (fun q => ?_)
      refine wp_store (pc' := 12) (j := 3) (ls' := [_, _, _, _]) dL_fine_11 rfl (Nat.le_of_ble_eq_true rfl) rfl rfl ?_
      refine wp_ldc (pc' := 14) dL_fine_12 kw_L_25 rfl ?_
      exact wp_iret dL_fine_14 rfl rfl hP
    · exact (mcode_3 hc).elim
  · intro hK j hj he
    replace hK : K_fine σ i w = 0 := hK
    rw [show rsO (K_fine σ i w) (fineV σ (ix i) w) = fineV σ (ix i) w from if_pos hK] at hP
    rw [show ix i = j from by rw [he, ix_nI (by omega)]] at hP
    refine kt_v ?_
    exact wp_iret dL_fine_6 rfl rfl hP

set_option maxRecDepth 20000 in
set_option maxHeartbeats 2000000 in
theorem w_debt {E : XE} {d mc ms : Nat} {P : Ps} {own : Nat → Nat} {x T : Nat} {σ : MS} {N : Nat → Nat} {G : HP} (hT : TK E own x σ N T G) (hmc : 10 ≤ mc) (hms : 60 ≤ ms) {i : Int32} (v : Int32) (hv : v = rsO (K_car1 σ i) (debtF σ (ix i) (N 5))) (hP : P (.inl (some (.int v))) G) : Sp E (d + 12) yL_debt mc ms [.ref x, .int i] G P := by
  obtain ⟨A, F, hH, hV, rfl⟩ := hT
  obtain ⟨hON, hN, hK9, -⟩ := id hH
  obtain ⟨n0, n1, n2, n3, n4, n5, e7, e22, e29, e35, e40⟩ := id hN
  subst hv
  refine sp_intro bd_L_debt (v1_all rfl) (Nat.le_of_ble_eq_true rfl) ?_
  change WX _ _ _ _ _ _ 0 [some (.ref (A 0 0)), some (.int i), none] [] _ 0 0
  refine wp_load (pc' := 1) (j := 0) dL_debt_0 rfl rfl rfl ?_
  refine wp_load (pc' := 2) (j := 1) dL_debt_1 rfl rfl rfl ?_
  refine wp_v1 10 60 dL_debt_2 ml_L_92 hK9.1 (Nat.le_of_ble_eq_true rfl) (by omega) (by omega) ?_
  refine q_debt hH hV.1 (Nat.le_of_ble_eq_true rfl) (Nat.le_of_ble_eq_true rfl) (fun X hx => ?_) ?_
  · replace hx : exO (K_car1 σ i) X := hx
    rcases hx with ⟨hc, rfl⟩ | ⟨hc, rfl⟩ | ⟨hc, rfl⟩
    · rw [hc] at hP
      refine kt_h 6 (hf_1 rfl (by decide) cw_L_16 ca_IndexOutOfBoundsException) (fun q => ?_)
      refine wp_store (pc' := 7) (j := 2) (ls' := [_, _, _]) dL_debt_6 rfl (Nat.le_of_ble_eq_true rfl) rfl rfl ?_
      refine wp_ldc (pc' := 9) dL_debt_7 kw_L_18 rfl ?_
      exact wp_iret dL_debt_9 rfl rfl hP
    · exact (mcode_2 hc).elim
    · exact (mcode_3 hc).elim
  · intro hK j hj he
    replace hK : K_car1 σ i = 0 := hK
    rw [show rsO (K_car1 σ i) (debtF σ (ix i) (N 5)) = debtF σ (ix i) (N 5) from if_pos hK] at hP
    rw [show ix i = j from by rw [he, ix_nI (by omega)]] at hP
    refine kt_v ?_
    exact wp_iret dL_debt_5 rfl rfl hP

set_option maxRecDepth 20000 in
set_option maxHeartbeats 2000000 in
theorem w_tow {E : XE} {d mc ms : Nat} {P : Ps} {own : Nat → Nat} {x T : Nat} {σ : MS} {N : Nat → Nat} {G : HP} (hT : TK E own x σ N T G) (hmc : 10 ≤ mc) (hms : 1000 ≤ ms) {i : Int32} (hX : ¬ K_tow σ (N 5) i = 0 → P (.inl (some (.int (rsQ (K_tow σ (N 5) i) 0)))) G) (hS : K_tow σ (N 5) i = 0 → ∀ j, j < N 2 → i = nI j → ∀ G', TK E own x (mar (zz σ) 25 j (-1)) (N) T G' → Fr0 own G G' → P (.inl (some (.int (debtF σ j (N 5))))) G') : Sp E (d + 12) yL_tow mc ms [.ref x, .int i] G P := by
  obtain ⟨A, F, hH, hV, rfl⟩ := hT
  obtain ⟨hON, hN, hK9, -⟩ := id hH
  obtain ⟨n0, n1, n2, n3, n4, n5, e7, e22, e29, e35, e40⟩ := id hN
  refine sp_intro bd_L_tow (v1_all rfl) (Nat.le_of_ble_eq_true rfl) ?_
  change WX _ _ _ _ _ _ 0 [some (.ref (A 0 0)), some (.int i), none] [] _ 0 0
  refine wp_load (pc' := 1) (j := 0) dL_tow_0 rfl rfl rfl ?_
  refine wp_load (pc' := 2) (j := 1) dL_tow_1 rfl rfl rfl ?_
  refine wp_v1 10 1000 dL_tow_2 ml_L_95 hK9.1 (Nat.le_of_ble_eq_true rfl) (by omega) (by omega) ?_
  refine q_tow hH hV.1 (Nat.le_of_ble_eq_true rfl) (Nat.le_of_ble_eq_true rfl) (fun X hx => ?_) ?_
  · replace hx : exQ (K_tow σ (N 5) i) X := hx
    rcases hx with ⟨hc, rfl⟩ | ⟨hc, rfl⟩
    · replace hX := hX (by rw [hc]; decide)
      rw [hc] at hX
      refine kt_h 6 (hf_1 rfl (by decide) cw_L_16 ca_IndexOutOfBoundsException) (fun q => ?_)
      refine wp_store (pc' := 7) (j := 2) (ls' := [_, _, _]) dL_tow_6 rfl (Nat.le_of_ble_eq_true rfl) rfl rfl ?_
      refine wp_ldc (pc' := 9) dL_tow_7 kw_L_18 rfl ?_
      exact wp_iret dL_tow_9 rfl rfl hX
    · replace hX := hX (by rw [hc]; decide)
      rw [hc] at hX
      refine kt_h 10 (hf_n rfl (by decide) cw_L_16 (List.mem_of_getElem? (i := 3) rfl) (hf_1 rfl (by decide) cw_L_34 ca_IllegalStateException)) (fun q => ?_)
      refine wp_store (pc' := 11) (j := 2) (ls' := [_, _, _]) dL_tow_10 rfl (Nat.le_of_ble_eq_true rfl) rfl rfl ?_
      refine wp_ldc (pc' := 13) dL_tow_11 kw_L_36 rfl ?_
      exact wp_iret dL_tow_13 rfl rfl hX
  · intro hK j hj he G' hW
    have hQ := hS hK j hj he G' ⟨_, _, hW.1, inv_off hV, rfl⟩ hW.2
    refine kt_v ?_
    exact wp_iret dL_tow_5 rfl rfl hQ

set_option maxRecDepth 20000 in
set_option maxHeartbeats 2000000 in
theorem w_streetIs {E : XE} {d mc ms : Nat} {P : Ps} {own : Nat → Nat} {x T : Nat} {σ : MS} {N : Nat → Nat} {G : HP} (hT : TK E own x σ N T G) (hmc : 10 ≤ mc) (hms : 60 ≤ ms) {s w : Int32} (v : Int32) (hv : v = rsO (K_streetIs s w) (strV σ (ix s) (N 2) w)) (hP : P (.inl (some (.int v))) G) : Sp E (d + 12) yL_streetIs mc ms [.ref x, .int s, .int w] G P := by
  obtain ⟨A, F, hH, hV, rfl⟩ := hT
  obtain ⟨hON, hN, hK9, -⟩ := id hH
  obtain ⟨n0, n1, n2, n3, n4, n5, e7, e22, e29, e35, e40⟩ := id hN
  subst hv
  refine sp_intro bd_L_streetIs (v1_all rfl) (Nat.le_of_ble_eq_true rfl) ?_
  change WX _ _ _ _ _ _ 0 [some (.ref (A 0 0)), some (.int s), some (.int w), none] [] _ 0 0
  refine wp_load (pc' := 1) (j := 0) dL_streetIs_0 rfl rfl rfl ?_
  refine wp_load (pc' := 2) (j := 1) dL_streetIs_1 rfl rfl rfl ?_
  refine wp_load (pc' := 3) (j := 2) dL_streetIs_2 rfl rfl rfl ?_
  refine wp_v2 10 60 dL_streetIs_3 ml_L_98 hK9.1 (Nat.le_of_ble_eq_true rfl) (by omega) (by omega) ?_
  refine q_streetIs hH hV.1 (Nat.le_of_ble_eq_true rfl) (Nat.le_of_ble_eq_true rfl) (fun X hx => ?_) ?_
  · replace hx : exO (K_streetIs s w) X := hx
    rcases hx with ⟨hc, rfl⟩ | ⟨hc, rfl⟩ | ⟨hc, rfl⟩
    · rw [hc] at hP
      refine kt_h 7 (hf_1 rfl (by decide) cw_L_16 ca_IndexOutOfBoundsException) (fun q => ?_)
      refine wp_store (pc' := 8) (j := 3) (ls' := [_, _, _, _]) dL_streetIs_7 rfl (Nat.le_of_ble_eq_true rfl) rfl rfl ?_
      refine wp_ldc (pc' := 10) dL_streetIs_8 kw_L_18 rfl ?_
      exact wp_iret dL_streetIs_10 rfl rfl hP
    · rw [hc] at hP
      refine kt_h 11 (hf_n rfl (by decide) cw_L_16 (List.mem_of_getElem? (i := 1) rfl) (hf_1 rfl (by decide) cw_L_23 ca_IllegalArgumentException)) (fun q => ?_)
      refine wp_store (pc' := 12) (j := 3) (ls' := [_, _, _, _]) dL_streetIs_11 rfl (Nat.le_of_ble_eq_true rfl) rfl rfl ?_
      refine wp_ldc (pc' := 14) dL_streetIs_12 kw_L_25 rfl ?_
      exact wp_iret dL_streetIs_14 rfl rfl hP
    · exact (mcode_3 hc).elim
  · intro hK j hj he
    replace hK : K_streetIs s w = 0 := hK
    rw [show rsO (K_streetIs s w) (strV σ (ix s) (N 2) w) = strV σ (ix s) (N 2) w from if_pos hK] at hP
    rw [show ix s = j from by rw [he, ix_nI (by omega)]] at hP
    refine kt_v ?_
    exact wp_iret dL_streetIs_6 rfl rfl hP

set_option maxRecDepth 20000 in
set_option maxHeartbeats 2000000 in
theorem w_pass {E : XE} {d mc ms : Nat} {P : Ps} {own : Nat → Nat} {x T : Nat} {σ : MS} {N : Nat → Nat} {G : HP} (hT : TK E own x σ N T G) (hmc : 10 ≤ mc) (hms : 1000 ≤ ms) {q : Int32} (hX : ¬ K_pass σ q = 0 → P (.inl (some (.int (rsP (K_pass σ q) 0)))) G) (hS : K_pass σ q = 0 → ∀ j, j ≤ 96 → q = nI j → ∀ G', TK E own x (passF σ (N 2) j) (N) T G' → Fr0 own G G' → P (.inl (some (.int ((passF σ (N 2) j).1 0)))) G') : Sp E (d + 12) yL_pass mc ms [.ref x, .int q] G P := by
  obtain ⟨A, F, hH, hV, rfl⟩ := hT
  obtain ⟨hON, hN, hK9, -⟩ := id hH
  obtain ⟨n0, n1, n2, n3, n4, n5, e7, e22, e29, e35, e40⟩ := id hN
  refine sp_intro bd_L_pass (v1_all rfl) (Nat.le_of_ble_eq_true rfl) ?_
  change WX _ _ _ _ _ _ 0 [some (.ref (A 0 0)), some (.int q), none] [] _ 0 0
  refine wp_load (pc' := 1) (j := 0) dL_pass_0 rfl rfl rfl ?_
  refine wp_load (pc' := 2) (j := 1) dL_pass_1 rfl rfl rfl ?_
  refine wp_v1 10 1000 dL_pass_2 ml_L_101 hK9.1 (Nat.le_of_ble_eq_true rfl) (by omega) (by omega) ?_
  refine q_pass hH hV (Nat.le_of_ble_eq_true rfl) (Nat.le_of_ble_eq_true rfl) (fun X hx => ?_) ?_
  · replace hx : exP (K_pass σ q) X := hx
    rcases hx with ⟨hc, rfl⟩ | ⟨hc, rfl⟩
    · replace hX := hX (by rw [hc]; decide)
      rw [hc] at hX
      refine kt_h 6 (hf_1 rfl (by decide) cw_L_23 ca_IllegalArgumentException) (fun q => ?_)
      refine wp_store (pc' := 7) (j := 2) (ls' := [_, _, _]) dL_pass_6 rfl (Nat.le_of_ble_eq_true rfl) rfl rfl ?_
      refine wp_ldc (pc' := 9) dL_pass_7 kw_L_25 rfl ?_
      exact wp_iret dL_pass_9 rfl rfl hX
    · replace hX := hX (by rw [hc]; decide)
      rw [hc] at hX
      refine kt_h 10 (hf_n rfl (by decide) cw_L_23 (List.mem_of_getElem? (i := 2) rfl) (hf_1 rfl (by decide) cw_L_34 ca_IllegalStateException)) (fun q => ?_)
      refine wp_store (pc' := 11) (j := 2) (ls' := [_, _, _]) dL_pass_10 rfl (Nat.le_of_ble_eq_true rfl) rfl rfl ?_
      refine wp_ldc (pc' := 13) dL_pass_11 kw_L_36 rfl ?_
      exact wp_iret dL_pass_13 rfl rfl hX
  · intro hK j hj he G' hW hV2
    have hQ := hS hK j hj he G' ⟨_, _, hW.1, hV2, rfl⟩ hW.2
    refine kt_v ?_
    exact wp_iret dL_pass_5 rfl rfl hQ

