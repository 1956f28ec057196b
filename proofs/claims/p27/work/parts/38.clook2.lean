/-! the class: look -/
set_option maxRecDepth 20000 in
set_option maxHeartbeats 2000000 in
theorem l_clook {E : XE} {d0 d mc ms : Nat} {P : Ps} {own : Nat → Nat} {σ : MS} {nc T kb sa a : Nat} {bf : Int32} {G0 : HP} (hd : d = d0 + 8) (ha : a < 4) (hnc30 : nc ≤ 30) (hP : ∀ A F N G, A 0 0 = kb → CH E own A F (lookF σ (nI a) nc) N G → INV (lookF σ (nI a) nc) F N T → Fr0 own G0 G → N 2 = nc → P (.inl (some (.int ((lookF σ (nI a) nc).2.1 54 a - bf)))) G) : ∀ j k, k + j = nc → ∀ z5 : Option Value, ∀ (A : Nat → Nat → Nat), ∀ (F : Nat → Int32), ∀ (N : Nat → Nat), ∀ (G : HP), ∀ (kc : Nat), ∀ (kn : Nat), ∀ (hkc : kc + 2 * j ≤ mc), ∀ (hkn : kn + 110 * j ≤ ms), ∀ (hA0 : A 0 0 = kb), ∀ (hA3 : A 3 a = sa), ∀ (hnc : N 2 = nc), ∀ (hH : CH E own A F (lookF σ (nI a) k) N G), ∀ (hV : INV (lookF σ (nI a) k) F N T), ∀ (hFr : Fr0 own G0 G), WX E d (yX8_look, cX8_look, (some .int), []) mc ms P 14 [some (.ref kb), some (.int (nI a)), some (.ref sa), some (.int bf), some (.int (nI k)), z5] [] G kc kn
  | 0, k, hk, z5, A, F, N, G, kc, kn, hkc, hkn, hA0, hA3, hnc, hH, hV, hFr => by
    subst hd
    subst hA0
    subst hA3
    obtain ⟨hON, hN, hK, hL, hD, hT, hS, hW, hC, hPm, hY, hF⟩ := id hH
    obtain ⟨n0, n1, n2, n3, n4, n5, e7, e22, e29, e35, e40⟩ := id hN
    obtain ⟨mo2, hl2⟩ := (hL 2 (by decide)).1.1
    
    refine wp_load (pc' := 16) (j := 4) dX8_look_14 rfl rfl rfl ?_
    refine wp_load (pc' := 17) (j := 0) dX8_look_16 rfl rfl rfl ?_
    refine wp_get (pc' := 20) dX8_look_17 fl_X8_19 hK.1 rfl rfl ?_
    refine wp_v0 0 0 dX8_look_20 ml_X8_88 hl2 (Nat.le_of_ble_eq_true rfl) (by omega) (by omega) ?_
    refine k_size (hL 2 (by decide)).1 ?_
    refine kt_v ?_
    refine wp_icmpT 70 dX8_look_23 rfl (cgeT (n := nc) (by rw [hnc]) (by omega) (by omega)) ?_
    refine wp_load (pc' := 71) (j := 2) dX8_look_70 rfl rfl rfl ?_
    refine wp_get (pc' := 74) dX8_look_71 fl_X8_224 (hT a ha).1.1 rfl rfl ?_
    refine wp_load (pc' := 75) (j := 3) dX8_look_74 rfl rfl rfl ?_
    refine wp_pure (pc' := 76) dX8_look_75 rfl rfl ?_
    refine wp_iret dX8_look_76 rfl rfl ?_
    obtain rfl : k = nc := by omega
    exact hP A F N G rfl hH hV hFr hnc
  | j + 1, k, hk, z5, A, F, N, G, kc, kn, hkc, hkn, hA0, hA3, hnc, hH, hV, hFr => by
    have ih := l_clook (E := E) (d := d) (mc := mc) (ms := ms) (T := T) (kb := kb) (sa := sa) hd ha hnc30 hP j (k + 1) (by omega)
    subst hd
    subst hA0
    subst hA3
    obtain ⟨hON, hN, hK, hL, hD, hT, hS, hW, hC, hPm, hY, hF⟩ := id hH
    obtain ⟨n0, n1, n2, n3, n4, n5, e7, e22, e29, e35, e40⟩ := id hN
    obtain ⟨mo2, hl2⟩ := (hL 2 (by decide)).1.1
    
    refine wp_load (pc' := 16) (j := 4) dX8_look_14 rfl rfl rfl ?_
    refine wp_load (pc' := 17) (j := 0) dX8_look_16 rfl rfl rfl ?_
    refine wp_get (pc' := 20) dX8_look_17 fl_X8_19 hK.1 rfl rfl ?_
    refine wp_v0 0 0 dX8_look_20 ml_X8_88 hl2 (Nat.le_of_ble_eq_true rfl) (by omega) (by omega) ?_
    refine k_size (hL 2 (by decide)).1 ?_
    refine kt_v ?_
    refine wp_icmpF (pc' := 26) 70 dX8_look_23 rfl rfl (cgeF (n := nc) (by rw [hnc]) (by omega) (by omega)) ?_
    refine wp_load (pc' := 27) (j := 0) dX8_look_26 rfl rfl rfl ?_
    refine wp_get (pc' := 30) dX8_look_27 fl_X8_19 hK.1 rfl rfl ?_
    refine wp_load (pc' := 32) (j := 4) dX8_look_30 rfl rfl rfl ?_
    refine wp_v1 0 0 dX8_look_32 ml_X8_122 hl2 (Nat.le_of_ble_eq_true rfl) (by omega) (by omega) ?_
    refine k_get (hL 2 (by decide)).1 (show k < N 2 from by omega) (by omega) ?_
    refine kt_v ?_
    refine wp_cast (pc' := 38) dX8_look_35 cw_X8_141 (hC k (by omega)).1.1 rfl rfl rfl ?_
    refine wp_get (pc' := 41) dX8_look_38 fl_X8_169 (hC k (by omega)).1.1 rfl rfl ?_
    by_cases hs5 : (lookF σ (nI a) k).2.1 25 k = -1
    · skip
      rw [show stV A (lookF σ (nI a) k) k = .null from if_pos hs5]
      have hne : ¬ (lookF σ (nI a) k).2.1 25 k = nI a := by
        rw [hs5]; exact fun z => nI_nm1 (show a < 2 ^ 31 by omega) z.symm
      refine wp_store (pc' := 43) (j := 5) (ls' := [_, _, _, _, _, _]) dX8_look_41 rfl (Nat.le_of_ble_eq_true rfl) rfl rfl ?_
      refine wp_load (pc' := 45) (j := 5) dX8_look_43 rfl rfl rfl ?_
      refine wp_nul 64 dX8_look_45 rfl ?_
      have hne2 : ¬ (lookF σ (nI a) k).2.1 25 k = nI a := by assumption
      have e : lookF σ (nI a) (k + 1) = lookF σ (nI a) k := by
        show look1 _ _ _ = _
        unfold look1
        rw [if_neg]
        simp only [hne2, Bool.false_eq_true, decide_true, decide_false, Bool.not_true, Bool.not_false, Bool.and_true, Bool.true_and, Bool.and_false, Bool.false_and, Bool.or_true, Bool.true_or, Bool.or_false, Bool.false_or, if_true, if_false, ite_true, ite_false, not_false_eq_true]
      refine wp_iinc (pc' := 67) (j := 4) (ls' := [_, _, _, _, _, _]) (nI (k + 1)) dX8_look_64 rfl (nI_1 k) rfl rfl ?_
      refine wp_goto 14 dX8_look_67 rfl ?_
      exact ih _ A F N G _ _ (by omega) (by omega) rfl rfl hnc (by rw [e]; exact hH) (by rw [e]; exact hV) hFr
    · skip
      rw [show stV A (lookF σ (nI a) k) k = .ref (A 12 k) from if_neg hs5]
      refine wp_store (pc' := 43) (j := 5) (ls' := [_, _, _, _, _, _]) dX8_look_41 rfl (Nat.le_of_ble_eq_true rfl) rfl rfl ?_
      refine wp_load (pc' := 45) (j := 5) dX8_look_43 rfl rfl rfl ?_
      refine wp_nulR (pc' := 48) dX8_look_45 rfl ?_
      refine wp_load (pc' := 50) (j := 5) dX8_look_48 rfl rfl rfl ?_
      refine wp_get (pc' := 53) dX8_look_50 fl_X8_226 ((hC k (by omega)).2 hs5).1 rfl rfl ?_
      refine wp_load (pc' := 54) (j := 1) dX8_look_53 rfl rfl rfl ?_
      refine wp_icmp_ne (pc' := 57) 64 dX8_look_54 rfl rfl (fun h54 => ?_) (fun h54 => ?_)
      · skip
        have hne2 : ¬ (lookF σ (nI a) k).2.1 25 k = nI a := by assumption
        have e : lookF σ (nI a) (k + 1) = lookF σ (nI a) k := by
          show look1 _ _ _ = _
          unfold look1
          rw [if_neg]
          simp only [hne2, Bool.false_eq_true, decide_true, decide_false, Bool.not_true, Bool.not_false, Bool.and_true, Bool.true_and, Bool.and_false, Bool.false_and, Bool.or_true, Bool.true_or, Bool.or_false, Bool.false_or, if_true, if_false, ite_true, ite_false, not_false_eq_true]
        refine wp_iinc (pc' := 67) (j := 4) (ls' := [_, _, _, _, _, _]) (nI (k + 1)) dX8_look_64 rfl (nI_1 k) rfl rfl ?_
        refine wp_goto 14 dX8_look_67 rfl ?_
        exact ih _ A F N G _ _ (by omega) (by omega) rfl rfl hnc (by rw [e]; exact hH) (by rw [e]; exact hV) hFr
      · skip
        refine wp_load (pc' := 58) (j := 0) dX8_look_57 rfl rfl rfl ?_
        refine wp_load (pc' := 60) (j := 5) dX8_look_58 rfl rfl rfl ?_
        refine wp_load (pc' := 61) (j := 2) dX8_look_60 rfl rfl rfl ?_
        refine wp_v2 2 110 dX8_look_61 ml_X8_229 hK.1 (Nat.le_of_ble_eq_true rfl) (by omega) (by omega) ?_
        obtain ⟨hI, hR, hO, -⟩ := id hV
        refine c_lookAt hH hI hR (show k < N 2 by omega) hs5 ha h54 (hf_eq hI hO (by omega) hs5) (by omega) (by omega) (fun e1 => ?_) (fun e1 hlt hj A2 G2 hW2 hrow => ?_)
        · refine kt_u ?_
          have e : lookF σ (nI a) (k + 1) = lookF σ (nI a) k := e1
          refine wp_iinc (pc' := 67) (j := 4) (ls' := [_, _, _, _, _, _]) (nI (k + 1)) dX8_look_64 rfl (nI_1 k) rfl rfl ?_
          refine wp_goto 14 dX8_look_67 rfl ?_
          exact ih _ A F N G _ _ (by omega) (by omega) rfl rfl hnc (by rw [e]; exact hH) (by rw [e]; exact hV) hFr
        · refine kt_u ?_
          have e : lookF σ (nI a) (k + 1) = givF (lookF σ (nI a) k) k (judNow (lookF σ (nI a) k) k) := e1
          have hV2 := inv_giv hN hV (show k < N 2 by omega) hs5 hj
          rw [← e] at hV2
          refine wp_iinc (pc' := 67) (j := 4) (ls' := [_, _, _, _, _, _]) (nI (k + 1)) dX8_look_64 rfl (nI_1 k) rfl rfl ?_
          refine wp_goto 14 dX8_look_67 rfl ?_
          
          exact ih _ A2 _ (va_up N 5 (N 5 + 1)) G2 _ _ (by omega) (by omega) (by rw [hrow 0 (Or.inl rfl)]) (by rw [hrow 3 (Or.inr rfl)]) hnc (by rw [e]; exact hW2.1) hV2 (fr0_tr hFr hW2.2)

set_option maxRecDepth 20000 in
set_option maxHeartbeats 2000000 in
theorem q_look {E : XE} {d mc ms : Nat} {P : Ps} {G : HP} {own : Nat → Nat} {A : Nat → Nat → Nat} {F : Nat → Int32} {σ : MS} {N : Nat → Nat} (hH : CH E own A F σ N G) {T : Nat} (hV : INV σ F N T) {s : Int32} (hmc : 100 ≤ mc) (hms : 5000 ≤ ms) (hX : ∀ X, exO (K_look s) X → P (.inr X) G) (hT2 : K_look s = 0 → ∀ a, a < 4 → s = nI a → ∀ A' F' N' G', A' 0 0 = A 0 0 → CH E own A' F' (lookF σ (nI a) (N 2)) N' G' → INV (lookF σ (nI a) (N 2)) F' N' T → Fr0 own G G' → N' 2 = N 2 → P (.inl (some (.int ((lookF σ (nI a) (N 2)).2.1 54 a - σ.2.1 54 a)))) G') : Sp E (d + 11) yX8_look mc ms [.ref (A 0 0), .int s] G P := by
  obtain ⟨hON, hN, hK, hL, hD, hT, hS, hW, hC, hPm, hY, hF⟩ := id hH
  obtain ⟨n0, n1, n2, n3, n4, n5, e7, e22, e29, e35, e40⟩ := id hN
  refine sp_intro bd_X8_look (v1_all rfl) (Nat.le_of_ble_eq_true rfl) ?_
  change WX _ _ _ _ _ _ 0 [some (.ref (A 0 0)), some (.int s), none, none, none, none] [] _ 0 0
  refine wp_load (pc' := 1) (j := 0) dX8_look_0 rfl rfl rfl ?_
  refine wp_load (pc' := 2) (j := 1) dX8_look_1 rfl rfl rfl ?_
  refine wp_v1 1 6 dX8_look_2 ml_X8_49 hK.1 (Nat.le_of_ble_eq_true rfl) (by omega) (by omega) ?_
  refine c_streetOf hH (by omega) (by omega) (fun h2 => kt_x rfl (hX _ (ex1 (by simp only [mcode, K_look, e7, e22, e29, e35, e40, if_true, h2, Bool.false_eq_true, decide_true, decide_false, Bool.not_true, Bool.not_false, Bool.and_true, Bool.true_and, Bool.and_false, Bool.false_and, Bool.or_true, Bool.true_or, Bool.or_false, Bool.false_or, if_true, if_false, ite_true, ite_false])))) (fun s2 hs2 es2 h2 => ?_)
  obtain rfl := es2
  have ix2 : ix (nI s2) = s2 := ix_nI (by omega)
  refine kt_v ?_
  refine wp_store (pc' := 6) (j := 2) (ls' := [_, _, _, _, _, _]) dX8_look_5 rfl (Nat.le_of_ble_eq_true rfl) rfl rfl ?_
  refine wp_load (pc' := 7) (j := 2) dX8_look_6 rfl rfl rfl ?_
  refine wp_get (pc' := 10) dX8_look_7 fl_X8_224 (hT s2 hs2).1.1 rfl rfl ?_
  refine wp_store (pc' := 11) (j := 3) (ls' := [_, _, _, _, _, _]) dX8_look_10 rfl (Nat.le_of_ble_eq_true rfl) rfl rfl ?_
  refine wp_iconst (pc' := 12) (0) dX8_look_11 rfl rfl ?_
  refine wp_store (pc' := 14) (j := 4) (ls' := [_, _, _, _, _, _]) dX8_look_12 rfl (Nat.le_of_ble_eq_true rfl) rfl rfl ?_
  exact l_clook rfl hs2 n2 (hT2 (by simp only [mcode, K_look, h2, ix2, Bool.false_eq_true, decide_true, decide_false, Bool.not_true, Bool.not_false, Bool.and_true, Bool.true_and, Bool.and_false, Bool.false_and, Bool.or_true, Bool.true_or, Bool.or_false, Bool.false_or, if_true, if_false, ite_true, ite_false]) _ hs2 rfl) (N 2) 0 (by omega) none A F N G _ _ (by omega) (by omega) rfl rfl rfl hH hV fr0_rf

