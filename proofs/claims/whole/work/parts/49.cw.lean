/-! the law calls the class, what it throws becomes a number -/
set_option maxRecDepth 20000 in
set_option maxHeartbeats 2000000 in
theorem w_block {E : XE} {P : Ps} {own aM : Nat → Nat} {m o x T : Nat} {σ : MS} {Q : (Nat → Int64) → Prop} {G : HP} (hOW : OW m o aM own) (hT : TM E own aM m o x σ σ T Q G) (hTb : T + 1 ≤ 1000) {s mt : Int32} {is : Bool} (hP : ∀ G', TM E own aM m o x σ (S_block σ s mt is) (T + 1) (fun φ => K_block s mt = 0 → φ 0 = (b2i (σ.2.2 1 (60 * ix s + ix mt))).toInt64) G' → P (.inl (some (.int (K_block s mt)))) G') : Sp E 12 yL_block 100 5000 [.ref x, .int s, .int mt, .int (b2i is), .ref o] G P := by
  obtain ⟨hM, ⟨f0, ho, -⟩, A, F, N, hH, hV, rfl⟩ := hT
  obtain ⟨hON, hN, hK9, -⟩ := id hH
  obtain ⟨n0, n1, n2, n3, n4, n5, e7, e22, e29, e35, e40⟩ := id hN
  unfold S_block at hP
  have hB : ∀ c, K_block s mt = c → ¬ c = 0 → P (.inl (some (.int c))) G := fun c hc h0 => by
    subst hc
    exact hP _ (tm_bad hM ho hH hV hTb h0 (fun z => absurd z h0))
  refine sp_intro bd_L_block (v1_all rfl) (Nat.le_of_ble_eq_true rfl) ?_
  change WX _ _ _ _ _ _ 0 [some (.ref (A 0 0)), some (.int s), some (.int mt), some (.int (b2i is)), some (.ref o), none] [] _ 0 0
  refine wp_load (pc' := 2) (j := 4) dL_block_0 rfl rfl rfl ?_
  refine wp_iconst (pc' := 3) (0) dL_block_2 rfl rfl ?_
  refine wp_load (pc' := 4) (j := 0) dL_block_3 rfl rfl rfl ?_
  refine wp_load (pc' := 5) (j := 1) dL_block_4 rfl rfl rfl ?_
  refine wp_load (pc' := 6) (j := 2) dL_block_5 rfl rfl rfl ?_
  refine wp_load (pc' := 7) (j := 3) dL_block_6 rfl rfl rfl ?_
  refine wp_v3 100 5000 dL_block_7 ml_L_7 hK9.1 (Nat.le_of_ble_eq_true rfl) (by omega) (by omega) ?_
  refine q_block hH hV.1 (by decide) (by decide) (fun X hx => ?_) ?_
  · replace hx : exO (K_block s mt) X := hx
    rcases hx with ⟨hc, rfl⟩ | ⟨hc, rfl⟩ | ⟨hc, rfl⟩
    · refine kt_h 22 (hf_1 rfl (by decide) cw_L_13 ca_IndexOutOfBoundsException) (fun q => ?_)
      refine wp_store (pc' := 24) (j := 5) (ls' := [_, _, _, _, _, _]) dL_block_22 rfl (Nat.le_of_ble_eq_true rfl) rfl rfl ?_
      refine wp_iconst (pc' := 25) (1) dL_block_24 rfl rfl ?_
      exact wp_iret dL_block_25 rfl rfl (hB _ hc (by decide))
    · exact (mcode_2 hc).elim
    · exact (mcode_3 hc).elim
  · rintro hK a b ha hb rfl rfl G' hW
    rw [ix_nI (show a < 2 ^ 31 by omega), ix_nI (show b < 2 ^ 31 by omega)] at hP
    refine kt_v ?_
    refine wp_ifeqB (pc' := 13) 17 dL_block_10 rfl rfl (fun hb0 => ?_) (fun hb0 => ?_)
    · skip
      refine wp_pure (pc' := 18) dL_block_17 rfl rfl ?_
      refine wp_last (pc' := 19) dL_block_18 ((hW.2 o (by rw [hOW.1]; decide)).trans ho) (show (0 : Int32) = nI 0 from rfl) (by decide) (by decide) rfl ?_
      refine wp_goto 26 dL_block_19 rfl ?_
      refine wp_iconst (pc' := 27) (0) dL_block_26 rfl rfl ?_
      refine wp_iret dL_block_27 rfl rfl ?_
      have hQ := hP _ (tm_ok (f := f0) hOW hM hW.1 hW.2 (inv_T (inv_block hV) hTb) rfl hK (by rw [hb0] <;> rfl))
      rw [hK] at hQ
      exact hQ
    · skip
      refine wp_pure (pc' := 14) dL_block_13 rfl rfl ?_
      refine wp_goto 18 dL_block_14 rfl ?_
      refine wp_last (pc' := 19) dL_block_18 ((hW.2 o (by rw [hOW.1]; decide)).trans ho) (show (0 : Int32) = nI 0 from rfl) (by decide) (by decide) rfl ?_
      refine wp_goto 26 dL_block_19 rfl ?_
      refine wp_iconst (pc' := 27) (0) dL_block_26 rfl rfl ?_
      refine wp_iret dL_block_27 rfl rfl ?_
      have hQ := hP _ (tm_ok (f := f0) hOW hM hW.1 hW.2 (inv_T (inv_block hV) hTb) rfl hK (by rw [hb0] <;> rfl))
      rw [hK] at hQ
      exact hQ

set_option maxRecDepth 20000 in
set_option maxHeartbeats 2000000 in
theorem w_times {E : XE} {P : Ps} {own aM : Nat → Nat} {m o x T : Nat} {σ : MS} {Q : (Nat → Int64) → Prop} {G : HP} (hOW : OW m o aM own) (hT : TM E own aM m o x σ σ T Q G) (hTb : T + 1 ≤ 1000) {w f t : Int32} (hP : ∀ G', TM E own aM m o x σ (S_times σ w f t) (T + 1) (fun _ => True) G' → P (.inl (some (.int (K_times w f t)))) G') : Sp E 12 yL_times 100 5000 [.ref x, .int w, .int f, .int t] G P := by
  obtain ⟨hM, ⟨f0, ho, -⟩, A, F, N, hH, hV, rfl⟩ := hT
  obtain ⟨hON, hN, hK9, -⟩ := id hH
  obtain ⟨n0, n1, n2, n3, n4, n5, e7, e22, e29, e35, e40⟩ := id hN
  unfold S_times at hP
  have hB : ∀ c, K_times w f t = c → ¬ c = 0 → P (.inl (some (.int c))) G := fun c hc h0 => by
    subst hc
    exact hP _ (tm_bad hM ho hH hV hTb h0 trivial)
  refine sp_intro bd_L_times (v1_all rfl) (Nat.le_of_ble_eq_true rfl) ?_
  change WX _ _ _ _ _ _ 0 [some (.ref (A 0 0)), some (.int w), some (.int f), some (.int t), none] [] _ 0 0
  refine wp_load (pc' := 1) (j := 0) dL_times_0 rfl rfl rfl ?_
  refine wp_load (pc' := 2) (j := 1) dL_times_1 rfl rfl rfl ?_
  refine wp_load (pc' := 3) (j := 2) dL_times_2 rfl rfl rfl ?_
  refine wp_load (pc' := 4) (j := 3) dL_times_3 rfl rfl rfl ?_
  refine wp_v3 100 5000 dL_times_4 ml_L_15 hK9.1 (Nat.le_of_ble_eq_true rfl) (by omega) (by omega) ?_
  refine q_times hH hV.1 (by decide) (by decide) (fun X hx => ?_) ?_
  · replace hx : exP (K_times w f t) X := hx
    rcases hx with ⟨hc, rfl⟩ | ⟨hc, rfl⟩
    · refine kt_h 10 (hf_1 rfl (by decide) cw_L_19 ca_IllegalArgumentException) (fun q => ?_)
      refine wp_store (pc' := 12) (j := 4) (ls' := [_, _, _, _, _]) dL_times_10 rfl (Nat.le_of_ble_eq_true rfl) rfl rfl ?_
      refine wp_iconst (pc' := 13) (1) dL_times_12 rfl rfl ?_
      exact wp_iret dL_times_13 rfl rfl (hB _ hc (by decide))
    · exact (mcode_2 hc).elim
  · rintro hK G' hW
    replace hK : K_times w f t = 0 := hK
    refine kt_u ?_
    refine wp_goto 14 dL_times_7 rfl ?_
    refine wp_iconst (pc' := 15) (0) dL_times_14 rfl rfl ?_
    refine wp_iret dL_times_15 rfl rfl ?_
    have hQ := hP _ (tm_okV hOW hM ho hW.1 hW.2 (inv_T (inv_times hV) hTb) rfl hK)
    rw [hK] at hQ
    exact hQ

set_option maxRecDepth 20000 in
set_option maxHeartbeats 2000000 in
theorem w_dates {E : XE} {P : Ps} {own aM : Nat → Nat} {m o x T : Nat} {σ : MS} {Q : (Nat → Int64) → Prop} {G : HP} (hOW : OW m o aM own) (hT : TM E own aM m o x σ σ T Q G) (hTb : T + 1 ≤ 1000) {f t : Int32} (hP : ∀ G', TM E own aM m o x σ (S_dates σ f t) (T + 1) (fun _ => True) G' → P (.inl (some (.int (K_dates f t)))) G') : Sp E 12 yL_dates 100 5000 [.ref x, .int f, .int t] G P := by
  obtain ⟨hM, ⟨f0, ho, -⟩, A, F, N, hH, hV, rfl⟩ := hT
  obtain ⟨hON, hN, hK9, -⟩ := id hH
  obtain ⟨n0, n1, n2, n3, n4, n5, e7, e22, e29, e35, e40⟩ := id hN
  unfold S_dates at hP
  have hB : ∀ c, K_dates f t = c → ¬ c = 0 → P (.inl (some (.int c))) G := fun c hc h0 => by
    subst hc
    exact hP _ (tm_bad hM ho hH hV hTb h0 trivial)
  refine sp_intro bd_L_dates (v1_all rfl) (Nat.le_of_ble_eq_true rfl) ?_
  change WX _ _ _ _ _ _ 0 [some (.ref (A 0 0)), some (.int f), some (.int t), none] [] _ 0 0
  refine wp_load (pc' := 1) (j := 0) dL_dates_0 rfl rfl rfl ?_
  refine wp_load (pc' := 2) (j := 1) dL_dates_1 rfl rfl rfl ?_
  refine wp_load (pc' := 3) (j := 2) dL_dates_2 rfl rfl rfl ?_
  refine wp_v2 100 5000 dL_dates_3 ml_L_21 hK9.1 (Nat.le_of_ble_eq_true rfl) (by omega) (by omega) ?_
  refine q_dates hH hV.1 (by decide) (by decide) (fun X hx => ?_) ?_
  · replace hx : exP (K_dates f t) X := hx
    rcases hx with ⟨hc, rfl⟩ | ⟨hc, rfl⟩
    · refine kt_h 9 (hf_1 rfl (by decide) cw_L_19 ca_IllegalArgumentException) (fun q => ?_)
      refine wp_store (pc' := 10) (j := 3) (ls' := [_, _, _, _]) dL_dates_9 rfl (Nat.le_of_ble_eq_true rfl) rfl rfl ?_
      refine wp_iconst (pc' := 11) (1) dL_dates_10 rfl rfl ?_
      exact wp_iret dL_dates_11 rfl rfl (hB _ hc (by decide))
    · exact (mcode_2 hc).elim
  · rintro hK G' hW
    replace hK : K_dates f t = 0 := hK
    refine kt_u ?_
    refine wp_goto 12 dL_dates_6 rfl ?_
    refine wp_iconst (pc' := 13) (0) dL_dates_12 rfl rfl ?_
    refine wp_iret dL_dates_13 rfl rfl ?_
    have hQ := hP _ (tm_okV hOW hM ho hW.1 hW.2 (inv_T (inv_dates hV) hTb) rfl hK)
    rw [hK] at hQ
    exact hQ

set_option maxRecDepth 20000 in
set_option maxHeartbeats 2000000 in
theorem w_sign {E : XE} {P : Ps} {own aM : Nat → Nat} {m o x T : Nat} {σ : MS} {Q : (Nat → Int64) → Prop} {G : HP} (hOW : OW m o aM own) (hT : TM E own aM m o x σ σ T Q G) (hTb : T + 1 ≤ 1000) {st f t u sy : Int32} {fee tmp : Bool} (hP : ∀ G', TM E own aM m o x σ (S_sign σ st f t u sy fee tmp) (T + 1) (fun φ => K_sign σ st f t u sy = 0 → φ 0 = (σ.1 7 + 1 - 1).toInt64) G' → P (.inl (some (.int (K_sign σ st f t u sy)))) G') : Sp E 12 yL_sign 100 5000 [.ref x, .int st, .int f, .int t, .int u, .int sy, .int (b2i fee), .int (b2i tmp), .ref o] G P := by
  obtain ⟨hM, ⟨f0, ho, -⟩, A, F, N, hH, hV, rfl⟩ := hT
  obtain ⟨hON, hN, hK9, -⟩ := id hH
  obtain ⟨n0, n1, n2, n3, n4, n5, e7, e22, e29, e35, e40⟩ := id hN
  unfold S_sign at hP
  rw [show ix (σ.1 7) = N 1 from by rw [e7, ix_nI (by omega)]] at hP
  have hB : ∀ c, K_sign σ st f t u sy = c → ¬ c = 0 → P (.inl (some (.int c))) G := fun c hc h0 => by
    subst hc
    exact hP _ (tm_bad hM ho hH hV hTb h0 (fun z => absurd z h0))
  refine sp_intro bd_L_sign (v1_all rfl) (Nat.le_of_ble_eq_true rfl) ?_
  change WX _ _ _ _ _ _ 0 [some (.ref (A 0 0)), some (.int st), some (.int f), some (.int t), some (.int u), some (.int sy), some (.int (b2i fee)), some (.int (b2i tmp)), some (.ref o), none] [] _ 0 0
  refine wp_load (pc' := 2) (j := 8) dL_sign_0 rfl rfl rfl ?_
  refine wp_iconst (pc' := 3) (0) dL_sign_2 rfl rfl ?_
  refine wp_load (pc' := 4) (j := 0) dL_sign_3 rfl rfl rfl ?_
  refine wp_load (pc' := 5) (j := 1) dL_sign_4 rfl rfl rfl ?_
  refine wp_load (pc' := 6) (j := 2) dL_sign_5 rfl rfl rfl ?_
  refine wp_load (pc' := 7) (j := 3) dL_sign_6 rfl rfl rfl ?_
  refine wp_load (pc' := 9) (j := 4) dL_sign_7 rfl rfl rfl ?_
  refine wp_load (pc' := 11) (j := 5) dL_sign_9 rfl rfl rfl ?_
  refine wp_load (pc' := 13) (j := 6) dL_sign_11 rfl rfl rfl ?_
  refine wp_load (pc' := 15) (j := 7) dL_sign_13 rfl rfl rfl ?_
  refine wp_v7 100 5000 dL_sign_15 ml_L_25 hK9.1 (Nat.le_of_ble_eq_true rfl) (by omega) (by omega) ?_
  refine q_sign hH hV.1 (by decide) (by decide) (fun X hx => ?_) ?_
  · replace hx : exO (K_sign σ st f t u sy) X := hx
    rcases hx with ⟨hc, rfl⟩ | ⟨hc, rfl⟩ | ⟨hc, rfl⟩
    · refine kt_h 23 (hf_1 rfl (by decide) cw_L_13 ca_IndexOutOfBoundsException) (fun q => ?_)
      refine wp_store (pc' := 25) (j := 9) (ls' := [_, _, _, _, _, _, _, _, _, _]) dL_sign_23 rfl (Nat.le_of_ble_eq_true rfl) rfl rfl ?_
      refine wp_iconst (pc' := 26) (1) dL_sign_25 rfl rfl ?_
      exact wp_iret dL_sign_26 rfl rfl (hB _ hc (by decide))
    · refine kt_h 27 (hf_n rfl (by decide) cw_L_13 (List.mem_of_getElem? (i := 1) rfl) (hf_1 rfl (by decide) cw_L_19 ca_IllegalArgumentException)) (fun q => ?_)
      refine wp_store (pc' := 29) (j := 9) (ls' := [_, _, _, _, _, _, _, _, _, _]) dL_sign_27 rfl (Nat.le_of_ble_eq_true rfl) rfl rfl ?_
      refine wp_iconst (pc' := 30) (2) dL_sign_29 rfl rfl ?_
      exact wp_iret dL_sign_30 rfl rfl (hB _ hc (by decide))
    · refine kt_h 31 (hf_n rfl (by decide) cw_L_13 (List.mem_of_getElem? (i := 3) rfl) (hf_n rfl (by decide) cw_L_19 (List.mem_of_getElem? (i := 2) rfl) (hf_1 rfl (by decide) cw_L_29 ca_IllegalStateException))) (fun q => ?_)
      refine wp_store (pc' := 33) (j := 9) (ls' := [_, _, _, _, _, _, _, _, _, _]) dL_sign_31 rfl (Nat.le_of_ble_eq_true rfl) rfl rfl ?_
      refine wp_iconst (pc' := 34) (3) dL_sign_33 rfl rfl ?_
      exact wp_iret dL_sign_34 rfl rfl (hB _ hc (by decide))
  · rintro hK hn A2 G' h00 hW
    replace hK : K_sign σ st f t u sy = 0 := hK
    refine kt_v ?_
    refine wp_pure (pc' := 19) dL_sign_18 rfl rfl ?_
    refine wp_last (pc' := 20) dL_sign_19 ((hW.2 o (by rw [hOW.1]; decide)).trans ho) (show (0 : Int32) = nI 0 from rfl) (by decide) (by decide) rfl ?_
    refine wp_goto 35 dL_sign_20 rfl ?_
    refine wp_iconst (pc' := 36) (0) dL_sign_35 rfl rfl ?_
    refine wp_iret dL_sign_36 rfl rfl ?_
    have hQ := hP _ (tm_ok (f := f0) hOW hM hW.1 hW.2 (inv_T (inv_sgn hN hV) hTb) h00 hK (show (nI (N 1)).toInt64 = (σ.1 7 + 1 - 1).toInt64 by rw [e7, Int32.add_sub_cancel]))
    rw [hK] at hQ
    exact hQ

set_option maxRecDepth 20000 in
set_option maxHeartbeats 2000000 in
theorem w_takeDown {E : XE} {P : Ps} {own aM : Nat → Nat} {m o x T : Nat} {σ : MS} {Q : (Nat → Int64) → Prop} {G : HP} (hOW : OW m o aM own) (hT : TM E own aM m o x σ σ T Q G) (hTb : T + 1 ≤ 1000) {i : Int32} (hP : ∀ G', TM E own aM m o x σ (S_takeDown σ i) (T + 1) (fun _ => True) G' → P (.inl (some (.int (K_takeDown σ i)))) G') : Sp E 12 yL_takeDown 100 5000 [.ref x, .int i] G P := by
  obtain ⟨hM, ⟨f0, ho, -⟩, A, F, N, hH, hV, rfl⟩ := hT
  obtain ⟨hON, hN, hK9, -⟩ := id hH
  obtain ⟨n0, n1, n2, n3, n4, n5, e7, e22, e29, e35, e40⟩ := id hN
  unfold S_takeDown at hP
  have hB : ∀ c, K_takeDown σ i = c → ¬ c = 0 → P (.inl (some (.int c))) G := fun c hc h0 => by
    subst hc
    exact hP _ (tm_bad hM ho hH hV hTb h0 trivial)
  refine sp_intro bd_L_takeDown (v1_all rfl) (Nat.le_of_ble_eq_true rfl) ?_
  change WX _ _ _ _ _ _ 0 [some (.ref (A 0 0)), some (.int i), none] [] _ 0 0
  refine wp_load (pc' := 1) (j := 0) dL_takeDown_0 rfl rfl rfl ?_
  refine wp_load (pc' := 2) (j := 1) dL_takeDown_1 rfl rfl rfl ?_
  refine wp_v1 100 5000 dL_takeDown_2 ml_L_31 hK9.1 (Nat.le_of_ble_eq_true rfl) (by omega) (by omega) ?_
  refine q_takeDown hH hV.1 (by decide) (by decide) (fun X hx => ?_) ?_
  · replace hx : exQ (K_takeDown σ i) X := hx
    rcases hx with ⟨hc, rfl⟩ | ⟨hc, rfl⟩
    · refine kt_h 8 (hf_1 rfl (by decide) cw_L_13 ca_IndexOutOfBoundsException) (fun q => ?_)
      refine wp_store (pc' := 9) (j := 2) (ls' := [_, _, _]) dL_takeDown_8 rfl (Nat.le_of_ble_eq_true rfl) rfl rfl ?_
      refine wp_iconst (pc' := 10) (1) dL_takeDown_9 rfl rfl ?_
      exact wp_iret dL_takeDown_10 rfl rfl (hB _ hc (by decide))
    · refine kt_h 11 (hf_n rfl (by decide) cw_L_13 (List.mem_of_getElem? (i := 3) rfl) (hf_1 rfl (by decide) cw_L_29 ca_IllegalStateException)) (fun q => ?_)
      refine wp_store (pc' := 12) (j := 2) (ls' := [_, _, _]) dL_takeDown_11 rfl (Nat.le_of_ble_eq_true rfl) rfl rfl ?_
      refine wp_iconst (pc' := 13) (2) dL_takeDown_12 rfl rfl ?_
      exact wp_iret dL_takeDown_13 rfl rfl (hB _ hc (by decide))
  · rintro hK j hj rfl G' hW
    rw [ix_nI (show j < 2 ^ 31 by omega)] at hP
    refine kt_u ?_
    refine wp_goto 14 dL_takeDown_5 rfl ?_
    refine wp_iconst (pc' := 15) (0) dL_takeDown_14 rfl rfl ?_
    refine wp_iret dL_takeDown_15 rfl rfl ?_
    have hQ := hP _ (tm_okV hOW hM ho hW.1 hW.2 (inv_T (inv_down hV) hTb) rfl hK)
    rw [hK] at hQ
    exact hQ

set_option maxRecDepth 20000 in
set_option maxHeartbeats 2000000 in
theorem w_rule {E : XE} {P : Ps} {own aM : Nat → Nat} {m o x T : Nat} {σ : MS} {Q : (Nat → Int64) → Prop} {G : HP} (hOW : OW m o aM own) (hT : TM E own aM m o x σ σ T Q G) (hTb : T + 1 ≤ 1000) {s mt q : Int32} (hP : ∀ G', TM E own aM m o x σ (S_rule σ s mt q) (T + 1) (fun φ => K_rule s mt q = 0 → φ 0 = (roI (ruleO (zz σ) s mt q (ix (σ.1 7)))).toInt64) G' → P (.inl (some (.int (K_rule s mt q)))) G') : Sp E 12 yL_rule 100 5000 [.ref x, .int s, .int mt, .int q, .ref o] G P := by
  obtain ⟨hM, ⟨f0, ho, -⟩, A, F, N, hH, hV, rfl⟩ := hT
  obtain ⟨hON, hN, hK9, -⟩ := id hH
  obtain ⟨n0, n1, n2, n3, n4, n5, e7, e22, e29, e35, e40⟩ := id hN
  unfold S_rule at hP
  rw [show ix (σ.1 7) = N 1 from by rw [e7, ix_nI (by omega)]] at hP
  have hB : ∀ c, K_rule s mt q = c → ¬ c = 0 → P (.inl (some (.int c))) G := fun c hc h0 => by
    subst hc
    exact hP _ (tm_bad hM ho hH hV hTb h0 (fun z => absurd z h0))
  refine sp_intro bd_L_rule (v1_all rfl) (Nat.le_of_ble_eq_true rfl) ?_
  change WX _ _ _ _ _ _ 0 [some (.ref (A 0 0)), some (.int s), some (.int mt), some (.int q), some (.ref o), none] [] _ 0 0
  refine wp_load (pc' := 2) (j := 4) dL_rule_0 rfl rfl rfl ?_
  refine wp_iconst (pc' := 3) (0) dL_rule_2 rfl rfl ?_
  refine wp_load (pc' := 4) (j := 0) dL_rule_3 rfl rfl rfl ?_
  refine wp_load (pc' := 5) (j := 1) dL_rule_4 rfl rfl rfl ?_
  refine wp_load (pc' := 6) (j := 2) dL_rule_5 rfl rfl rfl ?_
  refine wp_load (pc' := 7) (j := 3) dL_rule_6 rfl rfl rfl ?_
  refine wp_v3 100 5000 dL_rule_7 ml_L_35 hK9.1 (Nat.le_of_ble_eq_true rfl) (by omega) (by omega) ?_
  refine q_rule (σ := zz σ) (show CH E own A F (zz σ) N G from ch_56 hH) (show INV (zz σ) F N T from hV).1 (by decide) (by decide) (fun X hx => ?_) ?_
  · replace hx : exO (K_rule s mt q) X := hx
    rcases hx with ⟨hc, rfl⟩ | ⟨hc, rfl⟩ | ⟨hc, rfl⟩
    · refine kt_h 15 (hf_1 rfl (by decide) cw_L_13 ca_IndexOutOfBoundsException) (fun q => ?_)
      refine wp_store (pc' := 17) (j := 5) (ls' := [_, _, _, _, _, _]) dL_rule_15 rfl (Nat.le_of_ble_eq_true rfl) rfl rfl ?_
      refine wp_iconst (pc' := 18) (1) dL_rule_17 rfl rfl ?_
      exact wp_iret dL_rule_18 rfl rfl (hB _ hc (by decide))
    · refine kt_h 19 (hf_n rfl (by decide) cw_L_13 (List.mem_of_getElem? (i := 1) rfl) (hf_1 rfl (by decide) cw_L_19 ca_IllegalArgumentException)) (fun q => ?_)
      refine wp_store (pc' := 21) (j := 5) (ls' := [_, _, _, _, _, _]) dL_rule_19 rfl (Nat.le_of_ble_eq_true rfl) rfl rfl ?_
      refine wp_iconst (pc' := 22) (2) dL_rule_21 rfl rfl ?_
      exact wp_iret dL_rule_22 rfl rfl (hB _ hc (by decide))
    · exact (mcode_3 hc).elim
  · rintro hK
    replace hK : K_rule s mt q = 0 := hK
    refine kt_v ?_
    refine wp_pure (pc' := 11) dL_rule_10 rfl rfl ?_
    refine wp_last (pc' := 12) dL_rule_11 (((show Fr0 own G G from fr0_rf) o (by rw [hOW.1]; decide)).trans ho) (show (0 : Int32) = nI 0 from rfl) (by decide) (by decide) rfl ?_
    refine wp_goto 23 dL_rule_12 rfl ?_
    refine wp_iconst (pc' := 24) (0) dL_rule_23 rfl rfl ?_
    refine wp_iret dL_rule_24 rfl rfl ?_
    have hQ := hP _ (tm_ok (f := f0) hOW hM (show CH E own A F (zz σ) N G from ch_56 hH) (show Fr0 own G G from fr0_rf) (inv_T (show INV (zz σ) F N T from hV) hTb) rfl hK rfl)
    rw [hK] at hQ
    exact hQ

set_option maxRecDepth 20000 in
set_option maxHeartbeats 2000000 in
theorem w_ruleAnew {E : XE} {P : Ps} {own aM : Nat → Nat} {m o x T : Nat} {σ : MS} {Q : (Nat → Int64) → Prop} {G : HP} (hOW : OW m o aM own) (hT : TM E own aM m o x σ σ T Q G) (hTb : T + 1 ≤ 1000) {s mt q : Int32} (hP : ∀ G', TM E own aM m o x σ (S_ruleAnew σ s mt q) (T + 1) (fun φ => K_rule s mt q = 0 → φ 0 = (roI (ruleO (zz σ) s mt q (ix (σ.1 7)))).toInt64) G' → P (.inl (some (.int (K_rule s mt q)))) G') : Sp E 12 yL_ruleAnew 100 5000 [.ref x, .int s, .int mt, .int q, .ref o] G P := by
  obtain ⟨hM, ⟨f0, ho, -⟩, A, F, N, hH, hV, rfl⟩ := hT
  obtain ⟨hON, hN, hK9, -⟩ := id hH
  obtain ⟨n0, n1, n2, n3, n4, n5, e7, e22, e29, e35, e40⟩ := id hN
  unfold S_ruleAnew at hP
  rw [show ix (σ.1 7) = N 1 from by rw [e7, ix_nI (by omega)]] at hP
  have hB : ∀ c, K_rule s mt q = c → ¬ c = 0 → P (.inl (some (.int c))) G := fun c hc h0 => by
    subst hc
    exact hP _ (tm_bad hM ho hH hV hTb h0 (fun z => absurd z h0))
  refine sp_intro bd_L_ruleAnew (v1_all rfl) (Nat.le_of_ble_eq_true rfl) ?_
  change WX _ _ _ _ _ _ 0 [some (.ref (A 0 0)), some (.int s), some (.int mt), some (.int q), some (.ref o), none] [] _ 0 0
  refine wp_load (pc' := 2) (j := 4) dL_ruleAnew_0 rfl rfl rfl ?_
  refine wp_iconst (pc' := 3) (0) dL_ruleAnew_2 rfl rfl ?_
  refine wp_load (pc' := 4) (j := 0) dL_ruleAnew_3 rfl rfl rfl ?_
  refine wp_load (pc' := 5) (j := 1) dL_ruleAnew_4 rfl rfl rfl ?_
  refine wp_load (pc' := 6) (j := 2) dL_ruleAnew_5 rfl rfl rfl ?_
  refine wp_load (pc' := 7) (j := 3) dL_ruleAnew_6 rfl rfl rfl ?_
  refine wp_v3 100 5000 dL_ruleAnew_7 ml_L_39 hK9.1 (Nat.le_of_ble_eq_true rfl) (by omega) (by omega) ?_
  refine q_ruleAnew (σ := zz σ) (show CH E own A F (zz σ) N G from ch_56 hH) (show INV (zz σ) F N T from hV).1 (by decide) (by decide) (fun X hx => ?_) ?_
  · replace hx : exO (K_rule s mt q) X := hx
    rcases hx with ⟨hc, rfl⟩ | ⟨hc, rfl⟩ | ⟨hc, rfl⟩
    · refine kt_h 15 (hf_1 rfl (by decide) cw_L_13 ca_IndexOutOfBoundsException) (fun q => ?_)
      refine wp_store (pc' := 17) (j := 5) (ls' := [_, _, _, _, _, _]) dL_ruleAnew_15 rfl (Nat.le_of_ble_eq_true rfl) rfl rfl ?_
      refine wp_iconst (pc' := 18) (1) dL_ruleAnew_17 rfl rfl ?_
      exact wp_iret dL_ruleAnew_18 rfl rfl (hB _ hc (by decide))
    · refine kt_h 19 (hf_n rfl (by decide) cw_L_13 (List.mem_of_getElem? (i := 1) rfl) (hf_1 rfl (by decide) cw_L_19 ca_IllegalArgumentException)) (fun q => ?_)
      refine wp_store (pc' := 21) (j := 5) (ls' := [_, _, _, _, _, _]) dL_ruleAnew_19 rfl (Nat.le_of_ble_eq_true rfl) rfl rfl ?_
      refine wp_iconst (pc' := 22) (2) dL_ruleAnew_21 rfl rfl ?_
      exact wp_iret dL_ruleAnew_22 rfl rfl (hB _ hc (by decide))
    · exact (mcode_3 hc).elim
  · rintro hK
    replace hK : K_rule s mt q = 0 := hK
    refine kt_v ?_
    refine wp_pure (pc' := 11) dL_ruleAnew_10 rfl rfl ?_
    refine wp_last (pc' := 12) dL_ruleAnew_11 (((show Fr0 own G G from fr0_rf) o (by rw [hOW.1]; decide)).trans ho) (show (0 : Int32) = nI 0 from rfl) (by decide) (by decide) rfl ?_
    refine wp_goto 23 dL_ruleAnew_12 rfl ?_
    refine wp_iconst (pc' := 24) (0) dL_ruleAnew_23 rfl rfl ?_
    refine wp_iret dL_ruleAnew_24 rfl rfl ?_
    have hQ := hP _ (tm_ok (f := f0) hOW hM (show CH E own A F (zz σ) N G from ch_56 hH) (show Fr0 own G G from fr0_rf) (inv_T (show INV (zz σ) F N T from hV) hTb) rfl hK rfl)
    rw [hK] at hQ
    exact hQ

set_option maxRecDepth 20000 in
set_option maxHeartbeats 2000000 in
theorem w_car {E : XE} {P : Ps} {own aM : Nat → Nat} {m o x T : Nat} {σ : MS} {Q : (Nat → Int64) → Prop} {G : HP} (hOW : OW m o aM own) (hT : TM E own aM m o x σ σ T Q G) (hTb : T + 1 ≤ 1000) {l u : Int32} (hP : ∀ G', TM E own aM m o x σ (S_car σ l u) (T + 1) (fun φ => K_car σ l u = 0 → φ 0 = (σ.1 22 + 1 - 1).toInt64) G' → P (.inl (some (.int (K_car σ l u)))) G') : Sp E 12 yL_car 100 5000 [.ref x, .int l, .int u, .ref o] G P := by
  obtain ⟨hM, ⟨f0, ho, -⟩, A, F, N, hH, hV, rfl⟩ := hT
  obtain ⟨hON, hN, hK9, -⟩ := id hH
  obtain ⟨n0, n1, n2, n3, n4, n5, e7, e22, e29, e35, e40⟩ := id hN
  unfold S_car at hP
  rw [show ix (σ.1 22) = N 2 from by rw [e22, ix_nI (by omega)]] at hP
  have hB : ∀ c, K_car σ l u = c → ¬ c = 0 → P (.inl (some (.int c))) G := fun c hc h0 => by
    subst hc
    exact hP _ (tm_bad hM ho hH hV hTb h0 (fun z => absurd z h0))
  refine sp_intro bd_L_car (v1_all rfl) (Nat.le_of_ble_eq_true rfl) ?_
  change WX _ _ _ _ _ _ 0 [some (.ref (A 0 0)), some (.int l), some (.int u), some (.ref o), none] [] _ 0 0
  refine wp_load (pc' := 1) (j := 3) dL_car_0 rfl rfl rfl ?_
  refine wp_iconst (pc' := 2) (0) dL_car_1 rfl rfl ?_
  refine wp_load (pc' := 3) (j := 0) dL_car_2 rfl rfl rfl ?_
  refine wp_load (pc' := 4) (j := 1) dL_car_3 rfl rfl rfl ?_
  refine wp_load (pc' := 5) (j := 2) dL_car_4 rfl rfl rfl ?_
  refine wp_v2 100 5000 dL_car_5 ml_L_42 hK9.1 (Nat.le_of_ble_eq_true rfl) (by omega) (by omega) ?_
  refine q_car hH hV.1 (by decide) (by decide) (fun X hx => ?_) ?_
  · replace hx : exP (K_car σ l u) X := hx
    rcases hx with ⟨hc, rfl⟩ | ⟨hc, rfl⟩
    · refine kt_h 13 (hf_1 rfl (by decide) cw_L_19 ca_IllegalArgumentException) (fun q => ?_)
      refine wp_store (pc' := 15) (j := 4) (ls' := [_, _, _, _, _]) dL_car_13 rfl (Nat.le_of_ble_eq_true rfl) rfl rfl ?_
      refine wp_iconst (pc' := 16) (1) dL_car_15 rfl rfl ?_
      exact wp_iret dL_car_16 rfl rfl (hB _ hc (by decide))
    · refine kt_h 17 (hf_n rfl (by decide) cw_L_19 (List.mem_of_getElem? (i := 2) rfl) (hf_1 rfl (by decide) cw_L_29 ca_IllegalStateException)) (fun q => ?_)
      refine wp_store (pc' := 19) (j := 4) (ls' := [_, _, _, _, _]) dL_car_17 rfl (Nat.le_of_ble_eq_true rfl) rfl rfl ?_
      refine wp_iconst (pc' := 20) (2) dL_car_19 rfl rfl ?_
      exact wp_iret dL_car_20 rfl rfl (hB _ hc (by decide))
  · rintro hK hn A2 G' h00 hW
    replace hK : K_car σ l u = 0 := hK
    have hl : inB l 3 12 = true := by
      have := (mcode_0 hK).1
      rw [Bool.and_eq_true] at this
      exact this.1
    refine kt_v ?_
    refine wp_pure (pc' := 9) dL_car_8 rfl rfl ?_
    refine wp_last (pc' := 10) dL_car_9 ((hW.2 o (by rw [hOW.1]; decide)).trans ho) (show (0 : Int32) = nI 0 from rfl) (by decide) (by decide) rfl ?_
    refine wp_goto 21 dL_car_10 rfl ?_
    refine wp_iconst (pc' := 22) (0) dL_car_21 rfl rfl ?_
    refine wp_iret dL_car_22 rfl rfl ?_
    have hQ := hP _ (tm_ok (f := f0) hOW hM hW.1 hW.2 (inv_T (inv_car hN hV hl) hTb) h00 hK (show (nI (N 2)).toInt64 = (σ.1 22 + 1 - 1).toInt64 by rw [e22, Int32.add_sub_cancel]))
    rw [hK] at hQ
    exact hQ

set_option maxRecDepth 20000 in
set_option maxHeartbeats 2000000 in
theorem w_permit {E : XE} {P : Ps} {own aM : Nat → Nat} {m o x T : Nat} {σ : MS} {Q : (Nat → Int64) → Prop} {G : HP} (hOW : OW m o aM own) (hT : TM E own aM m o x σ σ T Q G) (hTb : T + 1 ≤ 1000) {i s h f t : Int32} (hP : ∀ G', TM E own aM m o x σ (S_permit σ i s h f t) (T + 1) (fun φ => K_permit σ (ix (σ.1 29)) i s h f t = 0 → φ 0 = (σ.1 29 + 1 - 1).toInt64) G' → P (.inl (some (.int (K_permit σ (ix (σ.1 29)) i s h f t)))) G') : Sp E 12 yL_permit 100 5000 [.ref x, .int i, .int s, .int h, .int f, .int t, .ref o] G P := by
  obtain ⟨hM, ⟨f0, ho, -⟩, A, F, N, hH, hV, rfl⟩ := hT
  obtain ⟨hON, hN, hK9, -⟩ := id hH
  obtain ⟨n0, n1, n2, n3, n4, n5, e7, e22, e29, e35, e40⟩ := id hN
  unfold S_permit at hP
  rw [show ix (σ.1 29) = N 3 from by rw [e29, ix_nI (by omega)]] at hP
  have hB : ∀ c, K_permit σ (N 3) i s h f t = c → ¬ c = 0 → P (.inl (some (.int c))) G := fun c hc h0 => by
    subst hc
    exact hP _ (tm_bad hM ho hH hV hTb h0 (fun z => absurd z h0))
  refine sp_intro bd_L_permit (v1_all rfl) (Nat.le_of_ble_eq_true rfl) ?_
  change WX _ _ _ _ _ _ 0 [some (.ref (A 0 0)), some (.int i), some (.int s), some (.int h), some (.int f), some (.int t), some (.ref o), none] [] _ 0 0
  refine wp_load (pc' := 2) (j := 6) dL_permit_0 rfl rfl rfl ?_
  refine wp_iconst (pc' := 3) (0) dL_permit_2 rfl rfl ?_
  refine wp_load (pc' := 4) (j := 0) dL_permit_3 rfl rfl rfl ?_
  refine wp_load (pc' := 5) (j := 1) dL_permit_4 rfl rfl rfl ?_
  refine wp_load (pc' := 6) (j := 2) dL_permit_5 rfl rfl rfl ?_
  refine wp_load (pc' := 7) (j := 3) dL_permit_6 rfl rfl rfl ?_
  refine wp_load (pc' := 9) (j := 4) dL_permit_7 rfl rfl rfl ?_
  refine wp_load (pc' := 11) (j := 5) dL_permit_9 rfl rfl rfl ?_
  refine wp_v5 100 5000 dL_permit_11 ml_L_46 hK9.1 (Nat.le_of_ble_eq_true rfl) (by omega) (by omega) ?_
  refine q_permit hH hV.1 (by decide) (by decide) (fun X hx => ?_) ?_
  · replace hx : exO (K_permit σ (N 3) i s h f t) X := hx
    rcases hx with ⟨hc, rfl⟩ | ⟨hc, rfl⟩ | ⟨hc, rfl⟩
    · refine kt_h 19 (hf_1 rfl (by decide) cw_L_13 ca_IndexOutOfBoundsException) (fun q => ?_)
      refine wp_store (pc' := 21) (j := 7) (ls' := [_, _, _, _, _, _, _, _]) dL_permit_19 rfl (Nat.le_of_ble_eq_true rfl) rfl rfl ?_
      refine wp_iconst (pc' := 22) (1) dL_permit_21 rfl rfl ?_
      exact wp_iret dL_permit_22 rfl rfl (hB _ hc (by decide))
    · refine kt_h 23 (hf_n rfl (by decide) cw_L_13 (List.mem_of_getElem? (i := 1) rfl) (hf_1 rfl (by decide) cw_L_19 ca_IllegalArgumentException)) (fun q => ?_)
      refine wp_store (pc' := 25) (j := 7) (ls' := [_, _, _, _, _, _, _, _]) dL_permit_23 rfl (Nat.le_of_ble_eq_true rfl) rfl rfl ?_
      refine wp_iconst (pc' := 26) (2) dL_permit_25 rfl rfl ?_
      exact wp_iret dL_permit_26 rfl rfl (hB _ hc (by decide))
    · refine kt_h 27 (hf_n rfl (by decide) cw_L_13 (List.mem_of_getElem? (i := 3) rfl) (hf_n rfl (by decide) cw_L_19 (List.mem_of_getElem? (i := 2) rfl) (hf_1 rfl (by decide) cw_L_29 ca_IllegalStateException))) (fun q => ?_)
      refine wp_store (pc' := 29) (j := 7) (ls' := [_, _, _, _, _, _, _, _]) dL_permit_27 rfl (Nat.le_of_ble_eq_true rfl) rfl rfl ?_
      refine wp_iconst (pc' := 30) (3) dL_permit_29 rfl rfl ?_
      exact wp_iret dL_permit_30 rfl rfl (hB _ hc (by decide))
  · rintro hK hn A2 G' h00 hW
    replace hK : K_permit σ (N 3) i s h f t = 0 := hK
    refine kt_v ?_
    refine wp_pure (pc' := 15) dL_permit_14 rfl rfl ?_
    refine wp_last (pc' := 16) dL_permit_15 ((hW.2 o (by rw [hOW.1]; decide)).trans ho) (show (0 : Int32) = nI 0 from rfl) (by decide) (by decide) rfl ?_
    refine wp_goto 31 dL_permit_16 rfl ?_
    refine wp_iconst (pc' := 32) (0) dL_permit_31 rfl rfl ?_
    refine wp_iret dL_permit_32 rfl rfl ?_
    have hQ := hP _ (tm_ok (f := f0) hOW hM hW.1 hW.2 (inv_T (inv_per hV) hTb) h00 hK (show (nI (N 3 + 1) - 1).toInt64 = (σ.1 29 + 1 - 1).toInt64 by rw [e29, nI_1]))
    rw [hK] at hQ
    exact hQ

set_option maxRecDepth 20000 in
set_option maxHeartbeats 2000000 in
theorem w_hand {E : XE} {P : Ps} {own aM : Nat → Nat} {m o x T : Nat} {σ : MS} {Q : (Nat → Int64) → Prop} {G : HP} (hOW : OW m o aM own) (hT : TM E own aM m o x σ σ T Q G) (hTb : T + 1 ≤ 1000) {p i : Int32} (hP : ∀ G', TM E own aM m o x σ (S_hand σ p i) (T + 1) (fun φ => K_hand σ p i = 0 → φ 0 = (σ.2.1 30 (ix p)).toInt64) G' → P (.inl (some (.int (K_hand σ p i)))) G') : Sp E 12 yL_hand 100 5000 [.ref x, .int p, .int i, .ref o] G P := by
  obtain ⟨hM, ⟨f0, ho, -⟩, A, F, N, hH, hV, rfl⟩ := hT
  obtain ⟨hON, hN, hK9, -⟩ := id hH
  obtain ⟨n0, n1, n2, n3, n4, n5, e7, e22, e29, e35, e40⟩ := id hN
  unfold S_hand at hP
  have hB : ∀ c, K_hand σ p i = c → ¬ c = 0 → P (.inl (some (.int c))) G := fun c hc h0 => by
    subst hc
    exact hP _ (tm_bad hM ho hH hV hTb h0 (fun z => absurd z h0))
  refine sp_intro bd_L_hand (v1_all rfl) (Nat.le_of_ble_eq_true rfl) ?_
  change WX _ _ _ _ _ _ 0 [some (.ref (A 0 0)), some (.int p), some (.int i), some (.ref o), none] [] _ 0 0
  refine wp_load (pc' := 1) (j := 3) dL_hand_0 rfl rfl rfl ?_
  refine wp_iconst (pc' := 2) (0) dL_hand_1 rfl rfl ?_
  refine wp_load (pc' := 3) (j := 0) dL_hand_2 rfl rfl rfl ?_
  refine wp_load (pc' := 4) (j := 1) dL_hand_3 rfl rfl rfl ?_
  refine wp_load (pc' := 5) (j := 2) dL_hand_4 rfl rfl rfl ?_
  refine wp_v2 100 5000 dL_hand_5 ml_L_50 hK9.1 (Nat.le_of_ble_eq_true rfl) (by omega) (by omega) ?_
  refine q_hand hH hV.1 (by decide) (by decide) (fun X hx => ?_) ?_
  · replace hx : exO (K_hand σ p i) X := hx
    rcases hx with ⟨hc, rfl⟩ | ⟨hc, rfl⟩ | ⟨hc, rfl⟩
    · refine kt_h 13 (hf_1 rfl (by decide) cw_L_13 ca_IndexOutOfBoundsException) (fun q => ?_)
      refine wp_store (pc' := 15) (j := 4) (ls' := [_, _, _, _, _]) dL_hand_13 rfl (Nat.le_of_ble_eq_true rfl) rfl rfl ?_
      refine wp_iconst (pc' := 16) (1) dL_hand_15 rfl rfl ?_
      exact wp_iret dL_hand_16 rfl rfl (hB _ hc (by decide))
    · exact (mcode_2 hc).elim
    · exact (mcode_3 hc).elim
  · rintro hK j hj rfl G' hW
    rw [ix_nI (show j < 2 ^ 31 by omega)] at hP
    refine kt_v ?_
    refine wp_pure (pc' := 9) dL_hand_8 rfl rfl ?_
    refine wp_last (pc' := 10) dL_hand_9 ((hW.2 o (by rw [hOW.1]; decide)).trans ho) (show (0 : Int32) = nI 0 from rfl) (by decide) (by decide) rfl ?_
    refine wp_goto 17 dL_hand_10 rfl ?_
    refine wp_iconst (pc' := 18) (0) dL_hand_17 rfl rfl ?_
    refine wp_iret dL_hand_18 rfl rfl ?_
    have hQ := hP _ (tm_ok (f := f0) hOW hM hW.1 hW.2 (inv_T (inv_hand hV) hTb) rfl hK rfl)
    rw [hK] at hQ
    exact hQ

set_option maxRecDepth 20000 in
set_option maxHeartbeats 2000000 in
theorem w_countsAs {E : XE} {P : Ps} {own aM : Nat → Nat} {m o x T : Nat} {σ : MS} {Q : (Nat → Int64) → Prop} {G : HP} (hOW : OW m o aM own) (hT : TM E own aM m o x σ σ T Q G) (hTb : T + 1 ≤ 1000) {i s : Int32} (hP : ∀ G', TM E own aM m o x σ (S_countsAs σ i s) (T + 1) (fun φ => K_countsAs σ i s = 0 → φ 0 = (userOnF (zz σ) (ix i) s (σ.1 0 / 96) (ix (σ.1 29))).toInt64) G' → P (.inl (some (.int (K_countsAs σ i s)))) G') : Sp E 12 yL_countsAs 100 5000 [.ref x, .int i, .int s, .ref o] G P := by
  obtain ⟨hM, ⟨f0, ho, -⟩, A, F, N, hH, hV, rfl⟩ := hT
  obtain ⟨hON, hN, hK9, -⟩ := id hH
  obtain ⟨n0, n1, n2, n3, n4, n5, e7, e22, e29, e35, e40⟩ := id hN
  unfold S_countsAs at hP
  rw [show ix (σ.1 29) = N 3 from by rw [e29, ix_nI (by omega)]] at hP
  have hB : ∀ c, K_countsAs σ i s = c → ¬ c = 0 → P (.inl (some (.int c))) G := fun c hc h0 => by
    subst hc
    exact hP _ (tm_bad hM ho hH hV hTb h0 (fun z => absurd z h0))
  refine sp_intro bd_L_countsAs (v1_all rfl) (Nat.le_of_ble_eq_true rfl) ?_
  change WX _ _ _ _ _ _ 0 [some (.ref (A 0 0)), some (.int i), some (.int s), some (.ref o), none] [] _ 0 0
  refine wp_load (pc' := 1) (j := 3) dL_countsAs_0 rfl rfl rfl ?_
  refine wp_iconst (pc' := 2) (0) dL_countsAs_1 rfl rfl ?_
  refine wp_load (pc' := 3) (j := 0) dL_countsAs_2 rfl rfl rfl ?_
  refine wp_load (pc' := 4) (j := 1) dL_countsAs_3 rfl rfl rfl ?_
  refine wp_load (pc' := 5) (j := 2) dL_countsAs_4 rfl rfl rfl ?_
  refine wp_v2 100 5000 dL_countsAs_5 ml_L_53 hK9.1 (Nat.le_of_ble_eq_true rfl) (by omega) (by omega) ?_
  refine q_countsAs (σ := zz σ) (show CH E own A F (zz σ) N G from ch_56 hH) (show INV (zz σ) F N T from hV).1 (by decide) (by decide) (fun X hx => ?_) ?_
  · replace hx : exO (K_countsAs σ i s) X := hx
    rcases hx with ⟨hc, rfl⟩ | ⟨hc, rfl⟩ | ⟨hc, rfl⟩
    · refine kt_h 13 (hf_1 rfl (by decide) cw_L_13 ca_IndexOutOfBoundsException) (fun q => ?_)
      refine wp_store (pc' := 15) (j := 4) (ls' := [_, _, _, _, _]) dL_countsAs_13 rfl (Nat.le_of_ble_eq_true rfl) rfl rfl ?_
      refine wp_iconst (pc' := 16) (1) dL_countsAs_15 rfl rfl ?_
      exact wp_iret dL_countsAs_16 rfl rfl (hB _ hc (by decide))
    · exact (mcode_2 hc).elim
    · exact (mcode_3 hc).elim
  · rintro hK j hj rfl
    replace hK : K_countsAs σ (nI j) s = 0 := hK
    rw [ix_nI (show j < 2 ^ 31 by omega)] at hP
    refine kt_v ?_
    refine wp_pure (pc' := 9) dL_countsAs_8 rfl rfl ?_
    refine wp_last (pc' := 10) dL_countsAs_9 (((show Fr0 own G G from fr0_rf) o (by rw [hOW.1]; decide)).trans ho) (show (0 : Int32) = nI 0 from rfl) (by decide) (by decide) rfl ?_
    refine wp_goto 17 dL_countsAs_10 rfl ?_
    refine wp_iconst (pc' := 18) (0) dL_countsAs_17 rfl rfl ?_
    refine wp_iret dL_countsAs_18 rfl rfl ?_
    have hQ := hP _ (tm_ok (f := f0) hOW hM (show CH E own A F (zz σ) N G from ch_56 hH) (show Fr0 own G G from fr0_rf) (inv_T (show INV (zz σ) F N T from hV) hTb) rfl hK rfl)
    rw [hK] at hQ
    exact hQ

set_option maxRecDepth 20000 in
set_option maxHeartbeats 2000000 in
theorem w_park {E : XE} {P : Ps} {own aM : Nat → Nat} {m o x T : Nat} {σ : MS} {Q : (Nat → Int64) → Prop} {G : HP} (hOW : OW m o aM own) (hT : TM E own aM m o x σ σ T Q G) (hTb : T + 1 ≤ 1000) {i s mt : Int32} (hP : ∀ G', TM E own aM m o x σ (S_park σ i s mt) (T + 1) (fun _ => True) G' → P (.inl (some (.int (K_park σ (ix (σ.1 22)) i s mt)))) G') : Sp E 12 yL_park 100 5000 [.ref x, .int i, .int s, .int mt] G P := by
  obtain ⟨hM, ⟨f0, ho, -⟩, A, F, N, hH, hV, rfl⟩ := hT
  obtain ⟨hON, hN, hK9, -⟩ := id hH
  obtain ⟨n0, n1, n2, n3, n4, n5, e7, e22, e29, e35, e40⟩ := id hN
  unfold S_park at hP
  rw [show ix (σ.1 22) = N 2 from by rw [e22, ix_nI (by omega)]] at hP
  have hB : ∀ c, K_park σ (N 2) i s mt = c → ¬ c = 0 → P (.inl (some (.int c))) G := fun c hc h0 => by
    subst hc
    exact hP _ (tm_bad hM ho hH hV hTb h0 trivial)
  refine sp_intro bd_L_park (v1_all rfl) (Nat.le_of_ble_eq_true rfl) ?_
  change WX _ _ _ _ _ _ 0 [some (.ref (A 0 0)), some (.int i), some (.int s), some (.int mt), none] [] _ 0 0
  refine wp_load (pc' := 1) (j := 0) dL_park_0 rfl rfl rfl ?_
  refine wp_load (pc' := 2) (j := 1) dL_park_1 rfl rfl rfl ?_
  refine wp_load (pc' := 3) (j := 2) dL_park_2 rfl rfl rfl ?_
  refine wp_load (pc' := 4) (j := 3) dL_park_3 rfl rfl rfl ?_
  refine wp_v3 100 5000 dL_park_4 ml_L_56 hK9.1 (Nat.le_of_ble_eq_true rfl) (by omega) (by omega) ?_
  refine q_park hH hV.1 (by decide) (by decide) (fun X hx => ?_) ?_
  · replace hx : exQ (K_park σ (N 2) i s mt) X := hx
    rcases hx with ⟨hc, rfl⟩ | ⟨hc, rfl⟩
    · refine kt_h 10 (hf_1 rfl (by decide) cw_L_13 ca_IndexOutOfBoundsException) (fun q => ?_)
      refine wp_store (pc' := 12) (j := 4) (ls' := [_, _, _, _, _]) dL_park_10 rfl (Nat.le_of_ble_eq_true rfl) rfl rfl ?_
      refine wp_iconst (pc' := 13) (1) dL_park_12 rfl rfl ?_
      exact wp_iret dL_park_13 rfl rfl (hB _ hc (by decide))
    · refine kt_h 14 (hf_n rfl (by decide) cw_L_13 (List.mem_of_getElem? (i := 3) rfl) (hf_1 rfl (by decide) cw_L_29 ca_IllegalStateException)) (fun q => ?_)
      refine wp_store (pc' := 16) (j := 4) (ls' := [_, _, _, _, _]) dL_park_14 rfl (Nat.le_of_ble_eq_true rfl) rfl rfl ?_
      refine wp_iconst (pc' := 17) (2) dL_park_16 rfl rfl ?_
      exact wp_iret dL_park_17 rfl rfl (hB _ hc (by decide))
  · rintro hK j hj rfl A2 G' h00 hW
    rw [ix_nI (show j < 2 ^ 31 by omega)] at hP
    obtain ⟨k1, k2, -⟩ := mcode_0 hK
    simp only [Bool.and_eq_true] at k1 k2
    obtain ⟨b, hb, rfl⟩ := st_nI k1.1.2
    obtain ⟨c, hc, rfl⟩ := mt_nI k1.2
    have hV2 : INV (parkF σ j (nI b) (nI c)) (va_up F j (-1)) N (T + 1) := by
      refine inv_park hN hV hTb hj hb ?_
      have g := gapB_0 _ k2.2
      rw [ix_nI (show j < 2 ^ 31 by omega)] at g
      obtain ⟨⟨L, hL3, hL12, el⟩, -⟩ := hV.1.2.2.1 j hj
      rw [el] at g ⊢
      rw [ix_nI (show L < 2 ^ 31 by omega)]
      have g2 : ¬ (60 : Int32) < nI c + nI L := by
        intro z
        rw [gapB, decide_eq_true z] at g
        exact nomatch g
      rw [nI_add] at g2
      rcases Nat.lt_or_ge 60 (c + L) with z | z
      · exact absurd (show nI 60 < nI (c + L) from nI_lt z (by omega)) g2
      · exact z
    refine kt_u ?_
    refine wp_goto 18 dL_park_7 rfl ?_
    refine wp_iconst (pc' := 19) (0) dL_park_18 rfl rfl ?_
    refine wp_iret dL_park_19 rfl rfl ?_
    have hQ := hP _ (tm_okV hOW hM ho hW.1 hW.2 (hV2) h00 hK)
    rw [hK] at hQ
    exact hQ

set_option maxRecDepth 20000 in
set_option maxHeartbeats 2000000 in
theorem w_leave {E : XE} {P : Ps} {own aM : Nat → Nat} {m o x T : Nat} {σ : MS} {Q : (Nat → Int64) → Prop} {G : HP} (hOW : OW m o aM own) (hT : TM E own aM m o x σ σ T Q G) (hTb : T + 1 ≤ 1000) {i : Int32} (hP : ∀ G', TM E own aM m o x σ (S_leave σ i) (T + 1) (fun φ => K_leave σ i = 0 → φ 0 = (σ.1 0 - σ.2.1 27 (ix i)).toInt64) G' → P (.inl (some (.int (K_leave σ i)))) G') : Sp E 12 yL_leave 100 5000 [.ref x, .int i, .ref o] G P := by
  obtain ⟨hM, ⟨f0, ho, -⟩, A, F, N, hH, hV, rfl⟩ := hT
  obtain ⟨hON, hN, hK9, -⟩ := id hH
  obtain ⟨n0, n1, n2, n3, n4, n5, e7, e22, e29, e35, e40⟩ := id hN
  unfold S_leave at hP
  have hB : ∀ c, K_leave σ i = c → ¬ c = 0 → P (.inl (some (.int c))) G := fun c hc h0 => by
    subst hc
    exact hP _ (tm_bad hM ho hH hV hTb h0 (fun z => absurd z h0))
  refine sp_intro bd_L_leave (v1_all rfl) (Nat.le_of_ble_eq_true rfl) ?_
  change WX _ _ _ _ _ _ 0 [some (.ref (A 0 0)), some (.int i), some (.ref o), none] [] _ 0 0
  refine wp_load (pc' := 1) (j := 2) dL_leave_0 rfl rfl rfl ?_
  refine wp_iconst (pc' := 2) (0) dL_leave_1 rfl rfl ?_
  refine wp_load (pc' := 3) (j := 0) dL_leave_2 rfl rfl rfl ?_
  refine wp_load (pc' := 4) (j := 1) dL_leave_3 rfl rfl rfl ?_
  refine wp_v1 100 5000 dL_leave_4 ml_L_59 hK9.1 (Nat.le_of_ble_eq_true rfl) (by omega) (by omega) ?_
  refine q_leave hH hV.1 (by decide) (by decide) (fun X hx => ?_) ?_
  · replace hx : exQ (K_leave σ i) X := hx
    rcases hx with ⟨hc, rfl⟩ | ⟨hc, rfl⟩
    · refine kt_h 12 (hf_1 rfl (by decide) cw_L_13 ca_IndexOutOfBoundsException) (fun q => ?_)
      refine wp_store (pc' := 13) (j := 3) (ls' := [_, _, _, _]) dL_leave_12 rfl (Nat.le_of_ble_eq_true rfl) rfl rfl ?_
      refine wp_iconst (pc' := 14) (1) dL_leave_13 rfl rfl ?_
      exact wp_iret dL_leave_14 rfl rfl (hB _ hc (by decide))
    · refine kt_h 15 (hf_n rfl (by decide) cw_L_13 (List.mem_of_getElem? (i := 3) rfl) (hf_1 rfl (by decide) cw_L_29 ca_IllegalStateException)) (fun q => ?_)
      refine wp_store (pc' := 16) (j := 3) (ls' := [_, _, _, _]) dL_leave_15 rfl (Nat.le_of_ble_eq_true rfl) rfl rfl ?_
      refine wp_iconst (pc' := 17) (2) dL_leave_16 rfl rfl ?_
      exact wp_iret dL_leave_17 rfl rfl (hB _ hc (by decide))
  · rintro hK j hj rfl G' hW
    rw [ix_nI (show j < 2 ^ 31 by omega)] at hP
    refine kt_v ?_
    refine wp_pure (pc' := 8) dL_leave_7 rfl rfl ?_
    refine wp_last (pc' := 9) dL_leave_8 ((hW.2 o (by rw [hOW.1]; decide)).trans ho) (show (0 : Int32) = nI 0 from rfl) (by decide) (by decide) rfl ?_
    refine wp_goto 18 dL_leave_9 rfl ?_
    refine wp_iconst (pc' := 19) (0) dL_leave_18 rfl rfl ?_
    refine wp_iret dL_leave_19 rfl rfl ?_
    have hQ := hP _ (tm_ok (f := f0) hOW hM hW.1 hW.2 (inv_T (inv_off hV) hTb) rfl hK rfl)
    rw [hK] at hQ
    exact hQ

set_option maxRecDepth 20000 in
set_option maxHeartbeats 2000000 in
theorem w_gap {E : XE} {P : Ps} {own aM : Nat → Nat} {m o x T : Nat} {σ : MS} {Q : (Nat → Int64) → Prop} {G : HP} (hOW : OW m o aM own) (hT : TM E own aM m o x σ σ T Q G) (hTb : T + 1 ≤ 1000) {s l : Int32} (hP : ∀ G', TM E own aM m o x σ (S_gap σ s l) (T + 1) (fun φ => K_gap s l = 0 → φ 0 = (gapF (zz σ) s l (ix (σ.1 22)) 60).toInt64) G' → P (.inl (some (.int (K_gap s l)))) G') : Sp E 12 yL_gap 100 5000 [.ref x, .int s, .int l, .ref o] G P := by
  obtain ⟨hM, ⟨f0, ho, -⟩, A, F, N, hH, hV, rfl⟩ := hT
  obtain ⟨hON, hN, hK9, -⟩ := id hH
  obtain ⟨n0, n1, n2, n3, n4, n5, e7, e22, e29, e35, e40⟩ := id hN
  unfold S_gap at hP
  rw [show ix (σ.1 22) = N 2 from by rw [e22, ix_nI (by omega)]] at hP
  have hB : ∀ c, K_gap s l = c → ¬ c = 0 → P (.inl (some (.int c))) G := fun c hc h0 => by
    subst hc
    exact hP _ (tm_bad hM ho hH hV hTb h0 (fun z => absurd z h0))
  refine sp_intro bd_L_gap (v1_all rfl) (Nat.le_of_ble_eq_true rfl) ?_
  change WX _ _ _ _ _ _ 0 [some (.ref (A 0 0)), some (.int s), some (.int l), some (.ref o), none] [] _ 0 0
  refine wp_load (pc' := 1) (j := 3) dL_gap_0 rfl rfl rfl ?_
  refine wp_iconst (pc' := 2) (0) dL_gap_1 rfl rfl ?_
  refine wp_load (pc' := 3) (j := 0) dL_gap_2 rfl rfl rfl ?_
  refine wp_load (pc' := 4) (j := 1) dL_gap_3 rfl rfl rfl ?_
  refine wp_load (pc' := 5) (j := 2) dL_gap_4 rfl rfl rfl ?_
  refine wp_v2 100 5000 dL_gap_5 ml_L_63 hK9.1 (Nat.le_of_ble_eq_true rfl) (by omega) (by omega) ?_
  refine q_gap (σ := zz σ) (show CH E own A F (zz σ) N G from ch_56 hH) (show INV (zz σ) F N T from hV).1 (by decide) (by decide) (fun X hx => ?_) ?_
  · replace hx : exO (K_gap s l) X := hx
    rcases hx with ⟨hc, rfl⟩ | ⟨hc, rfl⟩ | ⟨hc, rfl⟩
    · refine kt_h 13 (hf_1 rfl (by decide) cw_L_13 ca_IndexOutOfBoundsException) (fun q => ?_)
      refine wp_store (pc' := 15) (j := 4) (ls' := [_, _, _, _, _]) dL_gap_13 rfl (Nat.le_of_ble_eq_true rfl) rfl rfl ?_
      refine wp_iconst (pc' := 16) (1) dL_gap_15 rfl rfl ?_
      exact wp_iret dL_gap_16 rfl rfl (hB _ hc (by decide))
    · refine kt_h 17 (hf_n rfl (by decide) cw_L_13 (List.mem_of_getElem? (i := 1) rfl) (hf_1 rfl (by decide) cw_L_19 ca_IllegalArgumentException)) (fun q => ?_)
      refine wp_store (pc' := 19) (j := 4) (ls' := [_, _, _, _, _]) dL_gap_17 rfl (Nat.le_of_ble_eq_true rfl) rfl rfl ?_
      refine wp_iconst (pc' := 20) (2) dL_gap_19 rfl rfl ?_
      exact wp_iret dL_gap_20 rfl rfl (hB _ hc (by decide))
    · exact (mcode_3 hc).elim
  · rintro hK
    replace hK : K_gap s l = 0 := hK
    refine kt_v ?_
    refine wp_pure (pc' := 9) dL_gap_8 rfl rfl ?_
    refine wp_last (pc' := 10) dL_gap_9 (((show Fr0 own G G from fr0_rf) o (by rw [hOW.1]; decide)).trans ho) (show (0 : Int32) = nI 0 from rfl) (by decide) (by decide) rfl ?_
    refine wp_goto 21 dL_gap_10 rfl ?_
    refine wp_iconst (pc' := 22) (0) dL_gap_21 rfl rfl ?_
    refine wp_iret dL_gap_22 rfl rfl ?_
    have hQ := hP _ (tm_ok (f := f0) hOW hM (show CH E own A F (zz σ) N G from ch_56 hH) (show Fr0 own G G from fr0_rf) (inv_T (show INV (zz σ) F N T from hV) hTb) rfl hK rfl)
    rw [hK] at hQ
    exact hQ

set_option maxRecDepth 20000 in
set_option maxHeartbeats 2000000 in
theorem w_pay {E : XE} {P : Ps} {own aM : Nat → Nat} {m o x T : Nat} {σ : MS} {Q : (Nat → Int64) → Prop} {G : HP} (hOW : OW m o aM own) (hT : TM E own aM m o x σ σ T Q G) (hTb : T + 1 ≤ 1000) {i s f q : Int32} (hP : ∀ G', TM E own aM m o x σ (S_pay σ i s f q) (T + 1) (fun φ => K_pay σ i s f q = 0 → φ 0 = (q * σ.2.1 52 (ix s)).toInt64) G' → P (.inl (some (.int (K_pay σ i s f q)))) G') : Sp E 12 yL_pay 100 5000 [.ref x, .int i, .int s, .int f, .int q, .ref o] G P := by
  obtain ⟨hM, ⟨f0, ho, -⟩, A, F, N, hH, hV, rfl⟩ := hT
  obtain ⟨hON, hN, hK9, -⟩ := id hH
  obtain ⟨n0, n1, n2, n3, n4, n5, e7, e22, e29, e35, e40⟩ := id hN
  unfold S_pay at hP
  rw [show ix (σ.1 35) = N 4 from by rw [e35, ix_nI (by omega)]] at hP
  have hB : ∀ c, K_pay σ i s f q = c → ¬ c = 0 → P (.inl (some (.int c))) G := fun c hc h0 => by
    subst hc
    exact hP _ (tm_bad hM ho hH hV hTb h0 (fun z => absurd z h0))
  refine sp_intro bd_L_pay (v1_all rfl) (Nat.le_of_ble_eq_true rfl) ?_
  change WX _ _ _ _ _ _ 0 [some (.ref (A 0 0)), some (.int i), some (.int s), some (.int f), some (.int q), some (.ref o), none] [] _ 0 0
  refine wp_load (pc' := 2) (j := 5) dL_pay_0 rfl rfl rfl ?_
  refine wp_iconst (pc' := 3) (0) dL_pay_2 rfl rfl ?_
  refine wp_load (pc' := 4) (j := 0) dL_pay_3 rfl rfl rfl ?_
  refine wp_load (pc' := 5) (j := 1) dL_pay_4 rfl rfl rfl ?_
  refine wp_load (pc' := 6) (j := 2) dL_pay_5 rfl rfl rfl ?_
  refine wp_load (pc' := 7) (j := 3) dL_pay_6 rfl rfl rfl ?_
  refine wp_load (pc' := 9) (j := 4) dL_pay_7 rfl rfl rfl ?_
  refine wp_v4 100 5000 dL_pay_9 ml_L_66 hK9.1 (Nat.le_of_ble_eq_true rfl) (by omega) (by omega) ?_
  refine q_pay hH hV.1 (by decide) (by decide) (fun X hx => ?_) ?_
  · replace hx : exO (K_pay σ i s f q) X := hx
    rcases hx with ⟨hc, rfl⟩ | ⟨hc, rfl⟩ | ⟨hc, rfl⟩
    · refine kt_h 17 (hf_1 rfl (by decide) cw_L_13 ca_IndexOutOfBoundsException) (fun q => ?_)
      refine wp_store (pc' := 19) (j := 6) (ls' := [_, _, _, _, _, _, _]) dL_pay_17 rfl (Nat.le_of_ble_eq_true rfl) rfl rfl ?_
      refine wp_iconst (pc' := 20) (1) dL_pay_19 rfl rfl ?_
      exact wp_iret dL_pay_20 rfl rfl (hB _ hc (by decide))
    · refine kt_h 21 (hf_n rfl (by decide) cw_L_13 (List.mem_of_getElem? (i := 1) rfl) (hf_1 rfl (by decide) cw_L_19 ca_IllegalArgumentException)) (fun q => ?_)
      refine wp_store (pc' := 23) (j := 6) (ls' := [_, _, _, _, _, _, _]) dL_pay_21 rfl (Nat.le_of_ble_eq_true rfl) rfl rfl ?_
      refine wp_iconst (pc' := 24) (2) dL_pay_23 rfl rfl ?_
      exact wp_iret dL_pay_24 rfl rfl (hB _ hc (by decide))
    · refine kt_h 25 (hf_n rfl (by decide) cw_L_13 (List.mem_of_getElem? (i := 3) rfl) (hf_n rfl (by decide) cw_L_19 (List.mem_of_getElem? (i := 2) rfl) (hf_1 rfl (by decide) cw_L_29 ca_IllegalStateException))) (fun q => ?_)
      refine wp_store (pc' := 27) (j := 6) (ls' := [_, _, _, _, _, _, _]) dL_pay_25 rfl (Nat.le_of_ble_eq_true rfl) rfl rfl ?_
      refine wp_iconst (pc' := 28) (3) dL_pay_27 rfl rfl ?_
      exact wp_iret dL_pay_28 rfl rfl (hB _ hc (by decide))
  · rintro hK a ha rfl hn A2 G' h00 hW
    rw [ix_nI (show a < 2 ^ 31 by omega)] at hP
    refine kt_v ?_
    refine wp_pure (pc' := 13) dL_pay_12 rfl rfl ?_
    refine wp_last (pc' := 14) dL_pay_13 ((hW.2 o (by rw [hOW.1]; decide)).trans ho) (show (0 : Int32) = nI 0 from rfl) (by decide) (by decide) rfl ?_
    refine wp_goto 29 dL_pay_14 rfl ?_
    refine wp_iconst (pc' := 30) (0) dL_pay_29 rfl rfl ?_
    refine wp_iret dL_pay_30 rfl rfl ?_
    have hQ := hP _ (tm_ok (f := f0) hOW hM hW.1 hW.2 (inv_T (inv_pay hV) hTb) h00 hK rfl)
    rw [hK] at hQ
    exact hQ

set_option maxRecDepth 20000 in
set_option maxHeartbeats 2000000 in
theorem w_judge {E : XE} {P : Ps} {own aM : Nat → Nat} {m o x T : Nat} {σ : MS} {Q : (Nat → Int64) → Prop} {G : HP} (hOW : OW m o aM own) (hT : TM E own aM m o x σ σ T Q G) (hTb : T + 1 ≤ 1000) {i : Int32} (hP : ∀ G', TM E own aM m o x σ (S_judge σ i) (T + 1) (fun φ => K_car1 σ i = 0 → φ 0 = (if σ.2.1 25 (ix i) = -1 then -1 else judNow (zz σ) (ix i)).toInt64) G' → P (.inl (some (.int (K_car1 σ i)))) G') : Sp E 12 yL_judge 100 5000 [.ref x, .int i, .ref o] G P := by
  obtain ⟨hM, ⟨f0, ho, -⟩, A, F, N, hH, hV, rfl⟩ := hT
  obtain ⟨hON, hN, hK9, -⟩ := id hH
  obtain ⟨n0, n1, n2, n3, n4, n5, e7, e22, e29, e35, e40⟩ := id hN
  unfold S_judge at hP
  have hB : ∀ c, K_car1 σ i = c → ¬ c = 0 → P (.inl (some (.int c))) G := fun c hc h0 => by
    subst hc
    exact hP _ (tm_bad hM ho hH hV hTb h0 (fun z => absurd z h0))
  refine sp_intro bd_L_judge (v1_all rfl) (Nat.le_of_ble_eq_true rfl) ?_
  change WX _ _ _ _ _ _ 0 [some (.ref (A 0 0)), some (.int i), some (.ref o), none] [] _ 0 0
  refine wp_load (pc' := 1) (j := 2) dL_judge_0 rfl rfl rfl ?_
  refine wp_iconst (pc' := 2) (0) dL_judge_1 rfl rfl ?_
  refine wp_load (pc' := 3) (j := 0) dL_judge_2 rfl rfl rfl ?_
  refine wp_load (pc' := 4) (j := 1) dL_judge_3 rfl rfl rfl ?_
  refine wp_v1 100 5000 dL_judge_4 ml_L_70 hK9.1 (Nat.le_of_ble_eq_true rfl) (by omega) (by omega) ?_
  refine q_judge (σ := zz σ) (show CH E own A F (zz σ) N G from ch_56 hH) (show INV (zz σ) F N T from hV).1 (by decide) (by decide) (fun X hx => ?_) ?_
  · replace hx : exO (K_car1 σ i) X := hx
    rcases hx with ⟨hc, rfl⟩ | ⟨hc, rfl⟩ | ⟨hc, rfl⟩
    · refine kt_h 12 (hf_1 rfl (by decide) cw_L_13 ca_IndexOutOfBoundsException) (fun q => ?_)
      refine wp_store (pc' := 13) (j := 3) (ls' := [_, _, _, _]) dL_judge_12 rfl (Nat.le_of_ble_eq_true rfl) rfl rfl ?_
      refine wp_iconst (pc' := 14) (1) dL_judge_13 rfl rfl ?_
      exact wp_iret dL_judge_14 rfl rfl (hB _ hc (by decide))
    · exact (mcode_2 hc).elim
    · exact (mcode_3 hc).elim
  · rintro hK j hj rfl
    replace hK : K_car1 σ (nI j) = 0 := hK
    rw [ix_nI (show j < 2 ^ 31 by omega)] at hP
    refine kt_v ?_
    refine wp_pure (pc' := 8) dL_judge_7 rfl rfl ?_
    refine wp_last (pc' := 9) dL_judge_8 (((show Fr0 own G G from fr0_rf) o (by rw [hOW.1]; decide)).trans ho) (show (0 : Int32) = nI 0 from rfl) (by decide) (by decide) rfl ?_
    refine wp_goto 15 dL_judge_9 rfl ?_
    refine wp_iconst (pc' := 16) (0) dL_judge_15 rfl rfl ?_
    refine wp_iret dL_judge_16 rfl rfl ?_
    have hQ := hP _ (tm_ok (f := f0) hOW hM (show CH E own A F (zz σ) N G from ch_56 hH) (show Fr0 own G G from fr0_rf) (inv_T (show INV (zz σ) F N T from hV) hTb) rfl hK rfl)
    rw [hK] at hQ
    exact hQ

set_option maxRecDepth 20000 in
set_option maxHeartbeats 2000000 in
theorem w_look {E : XE} {P : Ps} {own aM : Nat → Nat} {m o x T : Nat} {σ : MS} {Q : (Nat → Int64) → Prop} {G : HP} (hOW : OW m o aM own) (hT : TM E own aM m o x σ σ T Q G) (hTb : T + 1 ≤ 1000) {s : Int32} (hP : ∀ G', TM E own aM m o x σ (S_look σ s) (T + 1) (fun φ => K_look s = 0 → φ 0 = ((lookF (zz σ) s (ix (σ.1 22))).1 40 - σ.1 40).toInt64) G' → P (.inl (some (.int (K_look s)))) G') : Sp E 12 yL_look 100 5000 [.ref x, .int s, .ref o] G P := by
  obtain ⟨hM, ⟨f0, ho, -⟩, A, F, N, hH, hV, rfl⟩ := hT
  obtain ⟨hON, hN, hK9, -⟩ := id hH
  obtain ⟨n0, n1, n2, n3, n4, n5, e7, e22, e29, e35, e40⟩ := id hN
  unfold S_look at hP
  rw [show ix (σ.1 22) = N 2 from by rw [e22, ix_nI (by omega)]] at hP
  have hB : ∀ c, K_look s = c → ¬ c = 0 → P (.inl (some (.int c))) G := fun c hc h0 => by
    subst hc
    exact hP _ (tm_bad hM ho hH hV hTb h0 (fun z => absurd z h0))
  refine sp_intro bd_L_look (v1_all rfl) (Nat.le_of_ble_eq_true rfl) ?_
  change WX _ _ _ _ _ _ 0 [some (.ref (A 0 0)), some (.int s), some (.ref o), none] [] _ 0 0
  refine wp_load (pc' := 1) (j := 2) dL_look_0 rfl rfl rfl ?_
  refine wp_iconst (pc' := 2) (0) dL_look_1 rfl rfl ?_
  refine wp_load (pc' := 3) (j := 0) dL_look_2 rfl rfl rfl ?_
  refine wp_load (pc' := 4) (j := 1) dL_look_3 rfl rfl rfl ?_
  refine wp_v1 100 5000 dL_look_4 ml_L_73 hK9.1 (Nat.le_of_ble_eq_true rfl) (by omega) (by omega) ?_
  refine q_look (σ := zz σ) (show CH E own A F (zz σ) N G from ch_56 hH) (show INV (zz σ) F N T from hV) (by decide) (by decide) (fun X hx => ?_) ?_
  · replace hx : exO (K_look s) X := hx
    rcases hx with ⟨hc, rfl⟩ | ⟨hc, rfl⟩ | ⟨hc, rfl⟩
    · refine kt_h 12 (hf_1 rfl (by decide) cw_L_13 ca_IndexOutOfBoundsException) (fun q => ?_)
      refine wp_store (pc' := 13) (j := 3) (ls' := [_, _, _, _]) dL_look_12 rfl (Nat.le_of_ble_eq_true rfl) rfl rfl ?_
      refine wp_iconst (pc' := 14) (1) dL_look_13 rfl rfl ?_
      exact wp_iret dL_look_14 rfl rfl (hB _ hc (by decide))
    · exact (mcode_2 hc).elim
    · exact (mcode_3 hc).elim
  · rintro hK a ha rfl A2 F2 N2 G' h00 hH2 hV2 hF2 -
    refine kt_v ?_
    refine wp_pure (pc' := 8) dL_look_7 rfl rfl ?_
    refine wp_last (pc' := 9) dL_look_8 ((hF2 o (by rw [hOW.1]; decide)).trans ho) (show (0 : Int32) = nI 0 from rfl) (by decide) (by decide) rfl ?_
    refine wp_goto 15 dL_look_9 rfl ?_
    refine wp_iconst (pc' := 16) (0) dL_look_15 rfl rfl ?_
    refine wp_iret dL_look_16 rfl rfl ?_
    have hQ := hP _ (tm_ok (f := f0) hOW hM hH2 hF2 (inv_T hV2 hTb) h00 hK (congrArg Int32.toInt64 (look_eq ha)))
    rw [hK] at hQ
    exact hQ

set_option maxRecDepth 20000 in
set_option maxHeartbeats 2000000 in
theorem w_appeal {E : XE} {P : Ps} {own aM : Nat → Nat} {m o x T : Nat} {σ : MS} {Q : (Nat → Int64) → Prop} {G : HP} (hOW : OW m o aM own) (hT : TM E own aM m o x σ σ T Q G) (hTb : T + 1 ≤ 1000) {i : Int32} (hP : ∀ G', TM E own aM m o x σ (S_appeal σ i) (T + 1) (fun φ => K_appeal σ i = 0 → φ 0 = (b2i (!σ.2.2 48 (ix i) && decide (judFine (mbr (zz σ) 49 (ix i) true) (ix i) = 0))).toInt64) G' → P (.inl (some (.int (K_appeal σ i)))) G') : Sp E 12 yL_appeal 100 5000 [.ref x, .int i, .ref o] G P := by
  obtain ⟨hM, ⟨f0, ho, -⟩, A, F, N, hH, hV, rfl⟩ := hT
  obtain ⟨hON, hN, hK9, -⟩ := id hH
  obtain ⟨n0, n1, n2, n3, n4, n5, e7, e22, e29, e35, e40⟩ := id hN
  unfold S_appeal at hP
  have hB : ∀ c, K_appeal σ i = c → ¬ c = 0 → P (.inl (some (.int c))) G := fun c hc h0 => by
    subst hc
    exact hP _ (tm_bad hM ho hH hV hTb h0 (fun z => absurd z h0))
  refine sp_intro bd_L_appeal (v1_all rfl) (Nat.le_of_ble_eq_true rfl) ?_
  change WX _ _ _ _ _ _ 0 [some (.ref (A 0 0)), some (.int i), some (.ref o), none] [] _ 0 0
  refine wp_load (pc' := 1) (j := 2) dL_appeal_0 rfl rfl rfl ?_
  refine wp_iconst (pc' := 2) (0) dL_appeal_1 rfl rfl ?_
  refine wp_load (pc' := 3) (j := 0) dL_appeal_2 rfl rfl rfl ?_
  refine wp_load (pc' := 4) (j := 1) dL_appeal_3 rfl rfl rfl ?_
  refine wp_v1 100 5000 dL_appeal_4 ml_L_76 hK9.1 (Nat.le_of_ble_eq_true rfl) (by omega) (by omega) ?_
  refine q_appeal hH hV.1 (by decide) (by decide) (fun X hx => ?_) ?_
  · replace hx : exQ (K_appeal σ i) X := hx
    rcases hx with ⟨hc, rfl⟩ | ⟨hc, rfl⟩
    · refine kt_h 19 (hf_1 rfl (by decide) cw_L_13 ca_IndexOutOfBoundsException) (fun q => ?_)
      refine wp_store (pc' := 20) (j := 3) (ls' := [_, _, _, _]) dL_appeal_19 rfl (Nat.le_of_ble_eq_true rfl) rfl rfl ?_
      refine wp_iconst (pc' := 21) (1) dL_appeal_20 rfl rfl ?_
      exact wp_iret dL_appeal_21 rfl rfl (hB _ hc (by decide))
    · refine kt_h 22 (hf_n rfl (by decide) cw_L_13 (List.mem_of_getElem? (i := 3) rfl) (hf_1 rfl (by decide) cw_L_29 ca_IllegalStateException)) (fun q => ?_)
      refine wp_store (pc' := 23) (j := 3) (ls' := [_, _, _, _]) dL_appeal_22 rfl (Nat.le_of_ble_eq_true rfl) rfl rfl ?_
      refine wp_iconst (pc' := 24) (2) dL_appeal_23 rfl rfl ?_
      exact wp_iret dL_appeal_24 rfl rfl (hB _ hc (by decide))
  · intro hK j hj he G' b hb hW
    subst he
    subst hb
    rw [ix_nI (show j < 2 ^ 31 by omega)] at hP
    refine kt_v ?_
    refine wp_ifeqB (pc' := 10) 14 dL_appeal_7 rfl rfl (fun hb0 => ?_) (fun hb0 => ?_)
    · skip
      refine wp_pure (pc' := 15) dL_appeal_14 rfl rfl ?_
      refine wp_last (pc' := 16) dL_appeal_15 ((hW.2 o (by rw [hOW.1]; decide)).trans ho) (show (0 : Int32) = nI 0 from rfl) (by decide) (by decide) rfl ?_
      refine wp_goto 25 dL_appeal_16 rfl ?_
      refine wp_iconst (pc' := 26) (0) dL_appeal_25 rfl rfl ?_
      refine wp_iret dL_appeal_26 rfl rfl ?_
      have hQ := hP _ (tm_ok (f := f0) hOW hM hW.1 hW.2 (inv_T (inv_appeal hV hj) hTb) rfl hK (by rw [hb0] <;> rfl))
      rw [hK] at hQ
      exact hQ
    · skip
      refine wp_pure (pc' := 11) dL_appeal_10 rfl rfl ?_
      refine wp_goto 15 dL_appeal_11 rfl ?_
      refine wp_last (pc' := 16) dL_appeal_15 ((hW.2 o (by rw [hOW.1]; decide)).trans ho) (show (0 : Int32) = nI 0 from rfl) (by decide) (by decide) rfl ?_
      refine wp_goto 25 dL_appeal_16 rfl ?_
      refine wp_iconst (pc' := 26) (0) dL_appeal_25 rfl rfl ?_
      refine wp_iret dL_appeal_26 rfl rfl ?_
      have hQ := hP _ (tm_ok (f := f0) hOW hM hW.1 hW.2 (inv_T (inv_appeal hV hj) hTb) rfl hK (by rw [hb0] <;> rfl))
      rw [hK] at hQ
      exact hQ

set_option maxRecDepth 20000 in
set_option maxHeartbeats 2000000 in
theorem w_payFine {E : XE} {P : Ps} {own aM : Nat → Nat} {m o x T : Nat} {σ : MS} {Q : (Nat → Int64) → Prop} {G : HP} (hOW : OW m o aM own) (hT : TM E own aM m o x σ σ T Q G) (hTb : T + 1 ≤ 1000) {i : Int32} (hP : ∀ G', TM E own aM m o x σ (S_payFine σ i) (T + 1) (fun φ => K_payFine σ i = 0 → φ 0 = (amoF σ (ix i)).toInt64) G' → P (.inl (some (.int (K_payFine σ i)))) G') : Sp E 12 yL_payFine 100 5000 [.ref x, .int i, .ref o] G P := by
  obtain ⟨hM, ⟨f0, ho, -⟩, A, F, N, hH, hV, rfl⟩ := hT
  obtain ⟨hON, hN, hK9, -⟩ := id hH
  obtain ⟨n0, n1, n2, n3, n4, n5, e7, e22, e29, e35, e40⟩ := id hN
  unfold S_payFine at hP
  have hB : ∀ c, K_payFine σ i = c → ¬ c = 0 → P (.inl (some (.int c))) G := fun c hc h0 => by
    subst hc
    exact hP _ (tm_bad hM ho hH hV hTb h0 (fun z => absurd z h0))
  refine sp_intro bd_L_payFine (v1_all rfl) (Nat.le_of_ble_eq_true rfl) ?_
  change WX _ _ _ _ _ _ 0 [some (.ref (A 0 0)), some (.int i), some (.ref o), none] [] _ 0 0
  refine wp_load (pc' := 1) (j := 2) dL_payFine_0 rfl rfl rfl ?_
  refine wp_iconst (pc' := 2) (0) dL_payFine_1 rfl rfl ?_
  refine wp_load (pc' := 3) (j := 0) dL_payFine_2 rfl rfl rfl ?_
  refine wp_load (pc' := 4) (j := 1) dL_payFine_3 rfl rfl rfl ?_
  refine wp_v1 100 5000 dL_payFine_4 ml_L_80 hK9.1 (Nat.le_of_ble_eq_true rfl) (by omega) (by omega) ?_
  refine q_payFine hH hV.1 (by decide) (by decide) (fun X hx => ?_) ?_
  · replace hx : exQ (K_payFine σ i) X := hx
    rcases hx with ⟨hc, rfl⟩ | ⟨hc, rfl⟩
    · refine kt_h 12 (hf_1 rfl (by decide) cw_L_13 ca_IndexOutOfBoundsException) (fun q => ?_)
      refine wp_store (pc' := 13) (j := 3) (ls' := [_, _, _, _]) dL_payFine_12 rfl (Nat.le_of_ble_eq_true rfl) rfl rfl ?_
      refine wp_iconst (pc' := 14) (1) dL_payFine_13 rfl rfl ?_
      exact wp_iret dL_payFine_14 rfl rfl (hB _ hc (by decide))
    · refine kt_h 15 (hf_n rfl (by decide) cw_L_13 (List.mem_of_getElem? (i := 3) rfl) (hf_1 rfl (by decide) cw_L_29 ca_IllegalStateException)) (fun q => ?_)
      refine wp_store (pc' := 16) (j := 3) (ls' := [_, _, _, _]) dL_payFine_15 rfl (Nat.le_of_ble_eq_true rfl) rfl rfl ?_
      refine wp_iconst (pc' := 17) (2) dL_payFine_16 rfl rfl ?_
      exact wp_iret dL_payFine_17 rfl rfl (hB _ hc (by decide))
  · rintro hK j hj rfl G' hW
    rw [ix_nI (show j < 2 ^ 31 by omega)] at hP
    refine kt_v ?_
    refine wp_pure (pc' := 8) dL_payFine_7 rfl rfl ?_
    refine wp_last (pc' := 9) dL_payFine_8 ((hW.2 o (by rw [hOW.1]; decide)).trans ho) (show (0 : Int32) = nI 0 from rfl) (by decide) (by decide) rfl ?_
    refine wp_goto 18 dL_payFine_9 rfl ?_
    refine wp_iconst (pc' := 19) (0) dL_payFine_18 rfl rfl ?_
    refine wp_iret dL_payFine_19 rfl rfl ?_
    have hQ := hP _ (tm_ok (f := f0) hOW hM hW.1 hW.2 (inv_T (inv_payFine hV hj) hTb) rfl hK rfl)
    rw [hK] at hQ
    exact hQ

set_option maxRecDepth 20000 in
set_option maxHeartbeats 2000000 in
theorem w_fine {E : XE} {P : Ps} {own aM : Nat → Nat} {m o x T : Nat} {σ : MS} {Q : (Nat → Int64) → Prop} {G : HP} (hOW : OW m o aM own) (hT : TM E own aM m o x σ σ T Q G) (hTb : T + 1 ≤ 1000) {i w : Int32} (hP : ∀ G', TM E own aM m o x σ (S_fine σ i w) (T + 1) (fun φ => K_fine σ i w = 0 → φ 0 = (fineV (zz σ) (ix i) w).toInt64) G' → P (.inl (some (.int (K_fine σ i w)))) G') : Sp E 12 yL_fine 100 5000 [.ref x, .int i, .int w, .ref o] G P := by
  obtain ⟨hM, ⟨f0, ho, -⟩, A, F, N, hH, hV, rfl⟩ := hT
  obtain ⟨hON, hN, hK9, -⟩ := id hH
  obtain ⟨n0, n1, n2, n3, n4, n5, e7, e22, e29, e35, e40⟩ := id hN
  unfold S_fine at hP
  have hB : ∀ c, K_fine σ i w = c → ¬ c = 0 → P (.inl (some (.int c))) G := fun c hc h0 => by
    subst hc
    exact hP _ (tm_bad hM ho hH hV hTb h0 (fun z => absurd z h0))
  refine sp_intro bd_L_fine (v1_all rfl) (Nat.le_of_ble_eq_true rfl) ?_
  change WX _ _ _ _ _ _ 0 [some (.ref (A 0 0)), some (.int i), some (.int w), some (.ref o), none] [] _ 0 0
  refine wp_load (pc' := 1) (j := 3) dL_fine_0 rfl rfl rfl ?_
  refine wp_iconst (pc' := 2) (0) dL_fine_1 rfl rfl ?_
  refine wp_load (pc' := 3) (j := 0) dL_fine_2 rfl rfl rfl ?_
  refine wp_load (pc' := 4) (j := 1) dL_fine_3 rfl rfl rfl ?_
  refine wp_load (pc' := 5) (j := 2) dL_fine_4 rfl rfl rfl ?_
  refine wp_v2 100 5000 dL_fine_5 ml_L_83 hK9.1 (Nat.le_of_ble_eq_true rfl) (by omega) (by omega) ?_
  refine q_fine (σ := zz σ) (show CH E own A F (zz σ) N G from ch_56 hH) (show INV (zz σ) F N T from hV).1 (by decide) (by decide) (fun X hx => ?_) ?_
  · replace hx : exO (K_fine σ i w) X := hx
    rcases hx with ⟨hc, rfl⟩ | ⟨hc, rfl⟩ | ⟨hc, rfl⟩
    · refine kt_h 13 (hf_1 rfl (by decide) cw_L_13 ca_IndexOutOfBoundsException) (fun q => ?_)
      refine wp_store (pc' := 15) (j := 4) (ls' := [_, _, _, _, _]) dL_fine_13 rfl (Nat.le_of_ble_eq_true rfl) rfl rfl ?_
      refine wp_iconst (pc' := 16) (1) dL_fine_15 rfl rfl ?_
      exact wp_iret dL_fine_16 rfl rfl (hB _ hc (by decide))
    · refine kt_h 17 (hf_n rfl (by decide) cw_L_13 (List.mem_of_getElem? (i := 1) rfl) (hf_1 rfl (by decide) cw_L_19 ca_IllegalArgumentException)) (fun q => ?_)
      refine wp_store (pc' := 19) (j := 4) (ls' := [_, _, _, _, _]) dL_fine_17 rfl (Nat.le_of_ble_eq_true rfl) rfl rfl ?_
      refine wp_iconst (pc' := 20) (2) dL_fine_19 rfl rfl ?_
      exact wp_iret dL_fine_20 rfl rfl (hB _ hc (by decide))
    · exact (mcode_3 hc).elim
  · rintro hK j hj rfl
    replace hK : K_fine σ (nI j) w = 0 := hK
    rw [ix_nI (show j < 2 ^ 31 by omega)] at hP
    refine kt_v ?_
    refine wp_pure (pc' := 9) dL_fine_8 rfl rfl ?_
    refine wp_last (pc' := 10) dL_fine_9 (((show Fr0 own G G from fr0_rf) o (by rw [hOW.1]; decide)).trans ho) (show (0 : Int32) = nI 0 from rfl) (by decide) (by decide) rfl ?_
    refine wp_goto 21 dL_fine_10 rfl ?_
    refine wp_iconst (pc' := 22) (0) dL_fine_21 rfl rfl ?_
    refine wp_iret dL_fine_22 rfl rfl ?_
    have hQ := hP _ (tm_ok (f := f0) hOW hM (show CH E own A F (zz σ) N G from ch_56 hH) (show Fr0 own G G from fr0_rf) (inv_T (show INV (zz σ) F N T from hV) hTb) rfl hK rfl)
    rw [hK] at hQ
    exact hQ

set_option maxRecDepth 20000 in
set_option maxHeartbeats 2000000 in
theorem w_debt {E : XE} {P : Ps} {own aM : Nat → Nat} {m o x T : Nat} {σ : MS} {Q : (Nat → Int64) → Prop} {G : HP} (hOW : OW m o aM own) (hT : TM E own aM m o x σ σ T Q G) (hTb : T + 1 ≤ 1000) {i : Int32} (hP : ∀ G', TM E own aM m o x σ (S_debt σ i) (T + 1) (fun φ => K_car1 σ i = 0 → φ 0 = (debtF (zz σ) (ix i) (ix (σ.1 40))).toInt64) G' → P (.inl (some (.int (K_car1 σ i)))) G') : Sp E 12 yL_debt 100 5000 [.ref x, .int i, .ref o] G P := by
  obtain ⟨hM, ⟨f0, ho, -⟩, A, F, N, hH, hV, rfl⟩ := hT
  obtain ⟨hON, hN, hK9, -⟩ := id hH
  obtain ⟨n0, n1, n2, n3, n4, n5, e7, e22, e29, e35, e40⟩ := id hN
  unfold S_debt at hP
  rw [show ix (σ.1 40) = N 5 from by rw [e40, ix_nI (by omega)]] at hP
  have hB : ∀ c, K_car1 σ i = c → ¬ c = 0 → P (.inl (some (.int c))) G := fun c hc h0 => by
    subst hc
    exact hP _ (tm_bad hM ho hH hV hTb h0 (fun z => absurd z h0))
  refine sp_intro bd_L_debt (v1_all rfl) (Nat.le_of_ble_eq_true rfl) ?_
  change WX _ _ _ _ _ _ 0 [some (.ref (A 0 0)), some (.int i), some (.ref o), none] [] _ 0 0
  refine wp_load (pc' := 1) (j := 2) dL_debt_0 rfl rfl rfl ?_
  refine wp_iconst (pc' := 2) (0) dL_debt_1 rfl rfl ?_
  refine wp_load (pc' := 3) (j := 0) dL_debt_2 rfl rfl rfl ?_
  refine wp_load (pc' := 4) (j := 1) dL_debt_3 rfl rfl rfl ?_
  refine wp_v1 100 5000 dL_debt_4 ml_L_86 hK9.1 (Nat.le_of_ble_eq_true rfl) (by omega) (by omega) ?_
  refine q_debt (σ := zz σ) (show CH E own A F (zz σ) N G from ch_56 hH) (show INV (zz σ) F N T from hV).1 (by decide) (by decide) (fun X hx => ?_) ?_
  · replace hx : exO (K_car1 σ i) X := hx
    rcases hx with ⟨hc, rfl⟩ | ⟨hc, rfl⟩ | ⟨hc, rfl⟩
    · refine kt_h 12 (hf_1 rfl (by decide) cw_L_13 ca_IndexOutOfBoundsException) (fun q => ?_)
      refine wp_store (pc' := 13) (j := 3) (ls' := [_, _, _, _]) dL_debt_12 rfl (Nat.le_of_ble_eq_true rfl) rfl rfl ?_
      refine wp_iconst (pc' := 14) (1) dL_debt_13 rfl rfl ?_
      exact wp_iret dL_debt_14 rfl rfl (hB _ hc (by decide))
    · exact (mcode_2 hc).elim
    · exact (mcode_3 hc).elim
  · rintro hK j hj rfl
    replace hK : K_car1 σ (nI j) = 0 := hK
    rw [ix_nI (show j < 2 ^ 31 by omega)] at hP
    refine kt_v ?_
    refine wp_pure (pc' := 8) dL_debt_7 rfl rfl ?_
    refine wp_last (pc' := 9) dL_debt_8 (((show Fr0 own G G from fr0_rf) o (by rw [hOW.1]; decide)).trans ho) (show (0 : Int32) = nI 0 from rfl) (by decide) (by decide) rfl ?_
    refine wp_goto 15 dL_debt_9 rfl ?_
    refine wp_iconst (pc' := 16) (0) dL_debt_15 rfl rfl ?_
    refine wp_iret dL_debt_16 rfl rfl ?_
    have hQ := hP _ (tm_ok (f := f0) hOW hM (show CH E own A F (zz σ) N G from ch_56 hH) (show Fr0 own G G from fr0_rf) (inv_T (show INV (zz σ) F N T from hV) hTb) rfl hK rfl)
    rw [hK] at hQ
    exact hQ

set_option maxRecDepth 20000 in
set_option maxHeartbeats 2000000 in
theorem w_tow {E : XE} {P : Ps} {own aM : Nat → Nat} {m o x T : Nat} {σ : MS} {Q : (Nat → Int64) → Prop} {G : HP} (hOW : OW m o aM own) (hT : TM E own aM m o x σ σ T Q G) (hTb : T + 1 ≤ 1000) {i : Int32} (hP : ∀ G', TM E own aM m o x σ (S_tow σ i) (T + 1) (fun φ => K_tow σ (ix (σ.1 40)) i = 0 → φ 0 = (debtF σ (ix i) (ix (σ.1 40))).toInt64) G' → P (.inl (some (.int (K_tow σ (ix (σ.1 40)) i)))) G') : Sp E 12 yL_tow 100 5000 [.ref x, .int i, .ref o] G P := by
  obtain ⟨hM, ⟨f0, ho, -⟩, A, F, N, hH, hV, rfl⟩ := hT
  obtain ⟨hON, hN, hK9, -⟩ := id hH
  obtain ⟨n0, n1, n2, n3, n4, n5, e7, e22, e29, e35, e40⟩ := id hN
  unfold S_tow at hP
  rw [show ix (σ.1 40) = N 5 from by rw [e40, ix_nI (by omega)]] at hP
  have hB : ∀ c, K_tow σ (N 5) i = c → ¬ c = 0 → P (.inl (some (.int c))) G := fun c hc h0 => by
    subst hc
    exact hP _ (tm_bad hM ho hH hV hTb h0 (fun z => absurd z h0))
  refine sp_intro bd_L_tow (v1_all rfl) (Nat.le_of_ble_eq_true rfl) ?_
  change WX _ _ _ _ _ _ 0 [some (.ref (A 0 0)), some (.int i), some (.ref o), none] [] _ 0 0
  refine wp_load (pc' := 1) (j := 2) dL_tow_0 rfl rfl rfl ?_
  refine wp_iconst (pc' := 2) (0) dL_tow_1 rfl rfl ?_
  refine wp_load (pc' := 3) (j := 0) dL_tow_2 rfl rfl rfl ?_
  refine wp_load (pc' := 4) (j := 1) dL_tow_3 rfl rfl rfl ?_
  refine wp_v1 100 5000 dL_tow_4 ml_L_89 hK9.1 (Nat.le_of_ble_eq_true rfl) (by omega) (by omega) ?_
  refine q_tow hH hV.1 (by decide) (by decide) (fun X hx => ?_) ?_
  · replace hx : exQ (K_tow σ (N 5) i) X := hx
    rcases hx with ⟨hc, rfl⟩ | ⟨hc, rfl⟩
    · refine kt_h 12 (hf_1 rfl (by decide) cw_L_13 ca_IndexOutOfBoundsException) (fun q => ?_)
      refine wp_store (pc' := 13) (j := 3) (ls' := [_, _, _, _]) dL_tow_12 rfl (Nat.le_of_ble_eq_true rfl) rfl rfl ?_
      refine wp_iconst (pc' := 14) (1) dL_tow_13 rfl rfl ?_
      exact wp_iret dL_tow_14 rfl rfl (hB _ hc (by decide))
    · refine kt_h 15 (hf_n rfl (by decide) cw_L_13 (List.mem_of_getElem? (i := 3) rfl) (hf_1 rfl (by decide) cw_L_29 ca_IllegalStateException)) (fun q => ?_)
      refine wp_store (pc' := 16) (j := 3) (ls' := [_, _, _, _]) dL_tow_15 rfl (Nat.le_of_ble_eq_true rfl) rfl rfl ?_
      refine wp_iconst (pc' := 17) (2) dL_tow_16 rfl rfl ?_
      exact wp_iret dL_tow_17 rfl rfl (hB _ hc (by decide))
  · rintro hK j hj rfl G' hW
    rw [ix_nI (show j < 2 ^ 31 by omega)] at hP
    refine kt_v ?_
    refine wp_pure (pc' := 8) dL_tow_7 rfl rfl ?_
    refine wp_last (pc' := 9) dL_tow_8 ((hW.2 o (by rw [hOW.1]; decide)).trans ho) (show (0 : Int32) = nI 0 from rfl) (by decide) (by decide) rfl ?_
    refine wp_goto 18 dL_tow_9 rfl ?_
    refine wp_iconst (pc' := 19) (0) dL_tow_18 rfl rfl ?_
    refine wp_iret dL_tow_19 rfl rfl ?_
    have hQ := hP _ (tm_ok (f := f0) hOW hM hW.1 hW.2 (inv_T (inv_off hV) hTb) rfl hK rfl)
    rw [hK] at hQ
    exact hQ

set_option maxRecDepth 20000 in
set_option maxHeartbeats 2000000 in
theorem w_streetIs {E : XE} {P : Ps} {own aM : Nat → Nat} {m o x T : Nat} {σ : MS} {Q : (Nat → Int64) → Prop} {G : HP} (hOW : OW m o aM own) (hT : TM E own aM m o x σ σ T Q G) (hTb : T + 1 ≤ 1000) {s w : Int32} (hP : ∀ G', TM E own aM m o x σ (S_streetIs σ s w) (T + 1) (fun φ => K_streetIs s w = 0 → φ 0 = (strV (zz σ) (ix s) (ix (σ.1 22)) w).toInt64) G' → P (.inl (some (.int (K_streetIs s w)))) G') : Sp E 12 yL_streetIs 100 5000 [.ref x, .int s, .int w, .ref o] G P := by
  obtain ⟨hM, ⟨f0, ho, -⟩, A, F, N, hH, hV, rfl⟩ := hT
  obtain ⟨hON, hN, hK9, -⟩ := id hH
  obtain ⟨n0, n1, n2, n3, n4, n5, e7, e22, e29, e35, e40⟩ := id hN
  unfold S_streetIs at hP
  rw [show ix (σ.1 22) = N 2 from by rw [e22, ix_nI (by omega)]] at hP
  have hB : ∀ c, K_streetIs s w = c → ¬ c = 0 → P (.inl (some (.int c))) G := fun c hc h0 => by
    subst hc
    exact hP _ (tm_bad hM ho hH hV hTb h0 (fun z => absurd z h0))
  refine sp_intro bd_L_streetIs (v1_all rfl) (Nat.le_of_ble_eq_true rfl) ?_
  change WX _ _ _ _ _ _ 0 [some (.ref (A 0 0)), some (.int s), some (.int w), some (.ref o), none] [] _ 0 0
  refine wp_load (pc' := 1) (j := 3) dL_streetIs_0 rfl rfl rfl ?_
  refine wp_iconst (pc' := 2) (0) dL_streetIs_1 rfl rfl ?_
  refine wp_load (pc' := 3) (j := 0) dL_streetIs_2 rfl rfl rfl ?_
  refine wp_load (pc' := 4) (j := 1) dL_streetIs_3 rfl rfl rfl ?_
  refine wp_load (pc' := 5) (j := 2) dL_streetIs_4 rfl rfl rfl ?_
  refine wp_v2 100 5000 dL_streetIs_5 ml_L_92 hK9.1 (Nat.le_of_ble_eq_true rfl) (by omega) (by omega) ?_
  refine q_streetIs (σ := zz σ) (show CH E own A F (zz σ) N G from ch_56 hH) (show INV (zz σ) F N T from hV).1 (by decide) (by decide) (fun X hx => ?_) ?_
  · replace hx : exO (K_streetIs s w) X := hx
    rcases hx with ⟨hc, rfl⟩ | ⟨hc, rfl⟩ | ⟨hc, rfl⟩
    · refine kt_h 13 (hf_1 rfl (by decide) cw_L_13 ca_IndexOutOfBoundsException) (fun q => ?_)
      refine wp_store (pc' := 15) (j := 4) (ls' := [_, _, _, _, _]) dL_streetIs_13 rfl (Nat.le_of_ble_eq_true rfl) rfl rfl ?_
      refine wp_iconst (pc' := 16) (1) dL_streetIs_15 rfl rfl ?_
      exact wp_iret dL_streetIs_16 rfl rfl (hB _ hc (by decide))
    · refine kt_h 17 (hf_n rfl (by decide) cw_L_13 (List.mem_of_getElem? (i := 1) rfl) (hf_1 rfl (by decide) cw_L_19 ca_IllegalArgumentException)) (fun q => ?_)
      refine wp_store (pc' := 19) (j := 4) (ls' := [_, _, _, _, _]) dL_streetIs_17 rfl (Nat.le_of_ble_eq_true rfl) rfl rfl ?_
      refine wp_iconst (pc' := 20) (2) dL_streetIs_19 rfl rfl ?_
      exact wp_iret dL_streetIs_20 rfl rfl (hB _ hc (by decide))
    · exact (mcode_3 hc).elim
  · rintro hK j hj rfl
    rw [ix_nI (show j < 2 ^ 31 by omega)] at hP
    refine kt_v ?_
    refine wp_pure (pc' := 9) dL_streetIs_8 rfl rfl ?_
    refine wp_last (pc' := 10) dL_streetIs_9 (((show Fr0 own G G from fr0_rf) o (by rw [hOW.1]; decide)).trans ho) (show (0 : Int32) = nI 0 from rfl) (by decide) (by decide) rfl ?_
    refine wp_goto 21 dL_streetIs_10 rfl ?_
    refine wp_iconst (pc' := 22) (0) dL_streetIs_21 rfl rfl ?_
    refine wp_iret dL_streetIs_22 rfl rfl ?_
    have hQ := hP _ (tm_ok (f := f0) hOW hM (show CH E own A F (zz σ) N G from ch_56 hH) (show Fr0 own G G from fr0_rf) (inv_T (show INV (zz σ) F N T from hV) hTb) rfl hK rfl)
    rw [hK] at hQ
    exact hQ

set_option maxRecDepth 20000 in
set_option maxHeartbeats 2000000 in
theorem w_pass {E : XE} {P : Ps} {own aM : Nat → Nat} {m o x T : Nat} {σ : MS} {Q : (Nat → Int64) → Prop} {G : HP} (hOW : OW m o aM own) (hT : TM E own aM m o x σ σ T Q G) (hTb : T + 1 ≤ 1000) {q : Int32} (hP : ∀ G', TM E own aM m o x σ (S_pass σ q) (T + 1) (fun φ => K_pass σ q = 0 → φ 0 = ((passF (zz σ) (ix (σ.1 22)) (ix q)).1 0).toInt64) G' → P (.inl (some (.int (K_pass σ q)))) G') : Sp E 12 yL_pass 100 5000 [.ref x, .int q, .ref o] G P := by
  obtain ⟨hM, ⟨f0, ho, -⟩, A, F, N, hH, hV, rfl⟩ := hT
  obtain ⟨hON, hN, hK9, -⟩ := id hH
  obtain ⟨n0, n1, n2, n3, n4, n5, e7, e22, e29, e35, e40⟩ := id hN
  unfold S_pass at hP
  rw [show ix (σ.1 22) = N 2 from by rw [e22, ix_nI (by omega)]] at hP
  have hB : ∀ c, K_pass σ q = c → ¬ c = 0 → P (.inl (some (.int c))) G := fun c hc h0 => by
    subst hc
    exact hP _ (tm_bad hM ho hH hV hTb h0 (fun z => absurd z h0))
  refine sp_intro bd_L_pass (v1_all rfl) (Nat.le_of_ble_eq_true rfl) ?_
  change WX _ _ _ _ _ _ 0 [some (.ref (A 0 0)), some (.int q), some (.ref o), none] [] _ 0 0
  refine wp_load (pc' := 1) (j := 2) dL_pass_0 rfl rfl rfl ?_
  refine wp_iconst (pc' := 2) (0) dL_pass_1 rfl rfl ?_
  refine wp_load (pc' := 3) (j := 0) dL_pass_2 rfl rfl rfl ?_
  refine wp_load (pc' := 4) (j := 1) dL_pass_3 rfl rfl rfl ?_
  refine wp_v1 100 5000 dL_pass_4 ml_L_95 hK9.1 (Nat.le_of_ble_eq_true rfl) (by omega) (by omega) ?_
  refine q_pass (σ := zz σ) (show CH E own A F (zz σ) N G from ch_56 hH) (show INV (zz σ) F N T from hV) (by decide) (by decide) (fun X hx => ?_) ?_
  · replace hx : exP (K_pass σ q) X := hx
    rcases hx with ⟨hc, rfl⟩ | ⟨hc, rfl⟩
    · refine kt_h 12 (hf_1 rfl (by decide) cw_L_19 ca_IllegalArgumentException) (fun q => ?_)
      refine wp_store (pc' := 13) (j := 3) (ls' := [_, _, _, _]) dL_pass_12 rfl (Nat.le_of_ble_eq_true rfl) rfl rfl ?_
      refine wp_iconst (pc' := 14) (1) dL_pass_13 rfl rfl ?_
      exact wp_iret dL_pass_14 rfl rfl (hB _ hc (by decide))
    · refine kt_h 15 (hf_n rfl (by decide) cw_L_19 (List.mem_of_getElem? (i := 2) rfl) (hf_1 rfl (by decide) cw_L_29 ca_IllegalStateException)) (fun q => ?_)
      refine wp_store (pc' := 16) (j := 3) (ls' := [_, _, _, _]) dL_pass_15 rfl (Nat.le_of_ble_eq_true rfl) rfl rfl ?_
      refine wp_iconst (pc' := 17) (2) dL_pass_16 rfl rfl ?_
      exact wp_iret dL_pass_17 rfl rfl (hB _ hc (by decide))
  · rintro hK j hj rfl G' hW hV2
    replace hK : K_pass σ (nI j) = 0 := hK
    rw [ix_nI (show j < 2 ^ 31 by omega)] at hP
    refine kt_v ?_
    refine wp_pure (pc' := 8) dL_pass_7 rfl rfl ?_
    refine wp_last (pc' := 9) dL_pass_8 ((hW.2 o (by rw [hOW.1]; decide)).trans ho) (show (0 : Int32) = nI 0 from rfl) (by decide) (by decide) rfl ?_
    refine wp_goto 18 dL_pass_9 rfl ?_
    refine wp_iconst (pc' := 19) (0) dL_pass_18 rfl rfl ?_
    refine wp_iret dL_pass_19 rfl rfl ?_
    have hQ := hP _ (tm_ok (f := f0) hOW hM hW.1 hW.2 (inv_T hV2 hTb) rfl hK rfl)
    rw [hK] at hQ
    exact hQ

