/-! the class: permit, pay -/
theorem inB_rng {t : Int32} {a b : Nat} (h : inB t (nI a) (nI b) = true) (ha : a < 2 ^ 31) (hb : b < 2 ^ 31) : ∃ c, a ≤ c ∧ c ≤ b ∧ t = nI c := by
  have h2 := inB_iff.1 h
  rw [nI_toInt ha, nI_toInt hb] at h2
  obtain ⟨c, hc, e⟩ : ∃ c, c < 2 ^ 31 ∧ t = nI c := nI_of (fun z => by rw [Int32.lt_iff_toInt_lt] at z; change _ < (0 : Int) at z; omega)
  rw [e, nI_toInt hc] at h2
  exact ⟨c, by omega, by omega, e⟩
theorem max_eq {x : Int32} {t : Nat} (h : x = nI t) (ht : t ≤ 49999) : (if (0 : Int32) < x - 96 then x - 96 else 0) = if 96 ≤ x then x - 96 else 0 := by
  subst h
  rcases Nat.lt_or_ge t 96 with q | q
  · rw [if_neg (show ¬ (96 : Int32) ≤ nI t from nI_ge (b := 96) q (by decide))]
    revert q
    have : ∀ t, t < 96 → (if (0 : Int32) < nI t - 96 then nI t - 96 else 0) = 0 := by decide +kernel
    exact this t
  · rw [if_pos (show (96 : Int32) ≤ nI t from nI_le (a := 96) q (by omega))]
    obtain ⟨u, rfl⟩ : ∃ u, t = u + 96 := ⟨t - 96, by omega⟩
    rw [show nI (u + 96) - 96 = nI u from by rw [← nI_add]; exact Int32.add_sub_cancel _ _]
    split
    · rfl
    · next z =>
      rcases Nat.eq_zero_or_pos u with y | y
      · rw [y]; rfl
      · exact absurd (show nI 0 < nI u from nI_lt y (by omega)) z
set_option maxRecDepth 20000 in
set_option maxHeartbeats 2000000 in
theorem q_permit {E : XE} {d mc ms : Nat} {P : Ps} {G : HP} {own : Nat → Nat} {A : Nat → Nat → Nat} {F : Nat → Int32} {σ : MS} {N : Nat → Nat} (hH : CH E own A F σ N G) {T : Nat} (hI : PI σ N T) {i s h f t : Int32} (hmc : 10 ≤ mc) (hms : 1000 ≤ ms) (hX : ∀ X, exO (K_permit σ (N 3) i s h f t) X → P (.inr X) G) (hT2 : K_permit σ (N 3) i s h f t = 0 → N 3 < 40 → ∀ A' G', A' 0 0 = A 0 0 → CW E own A' F (perF σ (N 3) i s h f t) (va_up N 3 (N 3 + 1)) G G' → P (.inl (some (.int (nI (N 3 + 1) - 1)))) G') : Sp E (d + 11) yX8_permit mc ms [.ref (A 0 0), .int i, .int s, .int h, .int f, .int t] G P := by
  obtain ⟨hON, hN, hK, hL, hD, hT, hS, hW, hC, hPm, hY, hF⟩ := id hH
  obtain ⟨n0, n1, n2, n3, n4, n5, e7, e22, e29, e35, e40⟩ := id hN
  obtain ⟨mo3, hl3⟩ := (hL 3 (by decide)).1.1
  refine sp_intro bd_X8_permit (v1_all rfl) (Nat.le_of_ble_eq_true rfl) ?_
  change WX _ _ _ _ _ _ 0 [some (.ref (A 0 0)), some (.int i), some (.int s), some (.int h), some (.int f), some (.int t), none] [] _ 0 0
  refine wp_load (pc' := 1) (j := 0) dX8_permit_0 rfl rfl rfl ?_
  refine wp_load (pc' := 2) (j := 1) dX8_permit_1 rfl rfl rfl ?_
  refine wp_v1 1 6 dX8_permit_2 ml_X8_146 hK.1 (Nat.le_of_ble_eq_true rfl) (by omega) (by omega) ?_
  refine c_carOf hH (by omega) (by omega) (fun h2 => kt_x rfl (hX _ (ex1 (by simp only [mcode, K_permit, e7, e22, e29, e35, e40, if_true, h2, Bool.false_eq_true, decide_true, decide_false, Bool.not_true, Bool.not_false, Bool.and_true, Bool.true_and, Bool.and_false, Bool.false_and, Bool.or_true, Bool.true_or, Bool.or_false, Bool.false_or, if_true, if_false, ite_true, ite_false])))) (fun s2 hs2 es2 h2 => ?_)
  obtain rfl := es2
  have ix2 : ix (nI s2) = s2 := ix_nI (by omega)
  refine kt_v ?_
  refine wp_store (pc' := 7) (j := 6) (ls' := [_, _, _, _, _, _, _]) dX8_permit_5 rfl (Nat.le_of_ble_eq_true rfl) rfl rfl ?_
  refine wp_load (pc' := 8) (j := 0) dX8_permit_7 rfl rfl rfl ?_
  refine wp_load (pc' := 9) (j := 2) dX8_permit_8 rfl rfl rfl ?_
  refine wp_v1 1 6 dX8_permit_9 ml_X8_49 hK.1 (Nat.le_of_ble_eq_true rfl) (by omega) (by omega) ?_
  refine c_streetOf hH (by omega) (by omega) (fun h9 => kt_x rfl (hX _ (ex1 (by simp only [mcode, K_permit, e7, e22, e29, e35, e40, h2, ix2, h9, Bool.false_eq_true, decide_true, decide_false, Bool.not_true, Bool.not_false, Bool.and_true, Bool.true_and, Bool.and_false, Bool.false_and, Bool.or_true, Bool.true_or, Bool.or_false, Bool.false_or, if_true, if_false, ite_true, ite_false])))) (fun s9 hs9 es9 h9 => ?_)
  obtain rfl := es9
  have ix9 : ix (nI s9) = s9 := ix_nI (by omega)
  refine kt_v ?_
  refine wp_pop (pc' := 13) dX8_permit_12 rfl rfl ?_
  refine wp_load (pc' := 14) (j := 3) dX8_permit_13 rfl rfl rfl ?_
  refine wp_bipush (pc' := 16) (10) dX8_permit_14 rfl rfl ?_
  refine wp_s2 0 0 dX8_permit_16 ml_X8_111 (Nat.le_of_ble_eq_true rfl) (by omega) (by omega) ?_
  refine c_isIndex _ (n := 10) rfl (by decide) ?_
  rw [show (nI 10 - 1 : Int32) = 9 from by decide]
  refine kt_v ?_
  refine wp_ifneB (pc' := 22) 32 dX8_permit_19 rfl rfl (fun h19 => ?_) (fun h19 => ?_)
  · skip
    refine wp_load (pc' := 34) (j := 4) dX8_permit_32 rfl rfl rfl ?_
    refine wp_iconst (pc' := 35) (0) dX8_permit_34 rfl rfl ?_
    refine wp_sipush (pc' := 38) (520) dX8_permit_35 rfl rfl ?_
    refine wp_s3 0 0 dX8_permit_38 ml_X8_65 (Nat.le_of_ble_eq_true rfl) (by omega) (by omega) ?_
    refine c_isIn _ _ _ ?_
    refine kt_v ?_
    refine wp_ifeqB (pc' := 44) 61 dX8_permit_41 rfl rfl (fun h41 => ?_) (fun h41 => ?_)
    · skip
      refine wp_iconst (pc' := 62) (0) dX8_permit_61 rfl rfl ?_
      refine wp_s1 1 6 dX8_permit_62 ml_X8_69 (Nat.le_of_ble_eq_true rfl) (by omega) (by omega) ?_
      refine c_need0 (by omega) (by omega) (kt_x rfl ?_)
      exact hX _ (ex2 (by simp only [mcode, K_permit, e7, e22, e29, e35, e40, h2, ix2, h9, ix9, h19, h41, Bool.false_eq_true, decide_true, decide_false, Bool.not_true, Bool.not_false, Bool.and_true, Bool.true_and, Bool.and_false, Bool.false_and, Bool.or_true, Bool.true_or, Bool.or_false, Bool.false_or, if_true, if_false, ite_true, ite_false]))
    · skip
      refine wp_load (pc' := 46) (j := 5) dX8_permit_44 rfl rfl rfl ?_
      refine wp_load (pc' := 48) (j := 4) dX8_permit_46 rfl rfl rfl ?_
      refine wp_sipush (pc' := 51) (520) dX8_permit_48 rfl rfl ?_
      refine wp_s3 0 0 dX8_permit_51 ml_X8_65 (Nat.le_of_ble_eq_true rfl) (by omega) (by omega) ?_
      refine c_isIn _ _ _ ?_
      refine kt_v ?_
      refine wp_ifeqB (pc' := 57) 61 dX8_permit_54 rfl rfl (fun h54 => ?_) (fun h54 => ?_)
      · skip
        refine wp_iconst (pc' := 62) (0) dX8_permit_61 rfl rfl ?_
        refine wp_s1 1 6 dX8_permit_62 ml_X8_69 (Nat.le_of_ble_eq_true rfl) (by omega) (by omega) ?_
        refine c_need0 (by omega) (by omega) (kt_x rfl ?_)
        exact hX _ (ex2 (by simp only [mcode, K_permit, e7, e22, e29, e35, e40, h2, ix2, h9, ix9, h19, h41, h54, Bool.false_eq_true, decide_true, decide_false, Bool.not_true, Bool.not_false, Bool.and_true, Bool.true_and, Bool.and_false, Bool.false_and, Bool.or_true, Bool.true_or, Bool.or_false, Bool.false_or, if_true, if_false, ite_true, ite_false]))
      · skip
        refine wp_iconst (pc' := 58) (1) dX8_permit_57 rfl rfl ?_
        refine wp_goto 62 dX8_permit_58 rfl ?_
        refine wp_s1 1 6 dX8_permit_62 ml_X8_69 (Nat.le_of_ble_eq_true rfl) (by omega) (by omega) ?_
        refine c_need1 ?_
        refine kt_u ?_
        refine wp_load (pc' := 66) (j := 0) dX8_permit_65 rfl rfl rfl ?_
        refine wp_get (pc' := 69) dX8_permit_66 fl_X8_22 hK.1 rfl rfl ?_
        refine wp_v0 0 0 dX8_permit_69 ml_X8_88 hl3 (Nat.le_of_ble_eq_true rfl) (by omega) (by omega) ?_
        refine k_size (hL 3 (by decide)).1 ?_
        refine kt_v ?_
        refine wp_bipush (pc' := 74) (40) dX8_permit_72 rfl rfl ?_
        refine wp_icmp_ge (pc' := 77) 93 dX8_permit_74 rfl rfl (fun h74 => ?_) (fun h74 => ?_)
        · skip
          refine wp_iconst (pc' := 94) (0) dX8_permit_93 rfl rfl ?_
          refine wp_s1 1 6 dX8_permit_94 ml_X8_92 (Nat.le_of_ble_eq_true rfl) (by omega) (by omega) ?_
          refine c_needState0 (by omega) (by omega) (kt_x rfl ?_)
          exact hX _ (ex3 (by simp only [mcode, K_permit, e7, e22, e29, e35, e40, h2, ix2, h9, ix9, h19, h41, h54, h74, Bool.false_eq_true, decide_true, decide_false, Bool.not_true, Bool.not_false, Bool.and_true, Bool.true_and, Bool.and_false, Bool.false_and, Bool.or_true, Bool.true_or, Bool.or_false, Bool.false_or, if_true, if_false, ite_true, ite_false]))
        · skip
          refine wp_load (pc' := 78) (j := 0) dX8_permit_77 rfl rfl rfl ?_
          refine wp_load (pc' := 79) (j := 3) dX8_permit_78 rfl rfl rfl ?_
          refine wp_load (pc' := 81) (j := 4) dX8_permit_79 rfl rfl rfl ?_
          refine wp_load (pc' := 83) (j := 5) dX8_permit_81 rfl rfl rfl ?_
          refine wp_v3 0 0 dX8_permit_83 ml_X8_152 hK.1 (Nat.le_of_ble_eq_true rfl) (by omega) (by omega) ?_
          obtain ⟨fa, hfa, rfl⟩ := clt_nI (n := 521) (show inB f 0 (nI 521 - 1) = true from by rw [show (nI 521 - 1 : Int32) = 520 from by decide]; exact h41) (by decide)
          obtain ⟨tb, hft, htb, rfl⟩ := inB_rng (b := 520) h54 (by omega) (by decide)
          have ixfa : ix (nI fa) = fa := ix_nI (by omega)
          have ixtb : ix (nI tb) = tb := ix_nI (by omega)
          refine c_full hH ?_
          rw [full_eq (by omega) hft htb]
          refine kt_v ?_
          refine wp_ifneB (pc' := 89) 93 dX8_permit_86 rfl rfl (fun h86 => ?_) (fun h86 => ?_)
          · skip
            have h86 : roomF σ (N 3) h fa (tb + 1 - fa) = false := by simpa using h86
            refine wp_iconst (pc' := 94) (0) dX8_permit_93 rfl rfl ?_
            refine wp_s1 1 6 dX8_permit_94 ml_X8_92 (Nat.le_of_ble_eq_true rfl) (by omega) (by omega) ?_
            refine c_needState0 (by omega) (by omega) (kt_x rfl ?_)
            exact hX _ (ex3 (by simp only [mcode, K_permit, e7, e22, e29, e35, e40, h2, ix2, h9, ix9, h19, h41, h54, h74, ixfa, ixtb, h86, Bool.false_eq_true, decide_true, decide_false, Bool.not_true, Bool.not_false, Bool.and_true, Bool.true_and, Bool.and_false, Bool.false_and, Bool.or_true, Bool.true_or, Bool.or_false, Bool.false_or, if_true, if_false, ite_true, ite_false]))
          · skip
            have h86 : roomF σ (N 3) h fa (tb + 1 - fa) = true := by simpa using h86
            refine wp_iconst (pc' := 90) (1) dX8_permit_89 rfl rfl ?_
            refine wp_goto 94 dX8_permit_90 rfl ?_
            refine wp_s1 1 6 dX8_permit_94 ml_X8_92 (Nat.le_of_ble_eq_true rfl) (by omega) (by omega) ?_
            refine c_needState1 ?_
            refine kt_u ?_
            refine wp_load (pc' := 98) (j := 0) dX8_permit_97 rfl rfl rfl ?_
            refine wp_get (pc' := 101) dX8_permit_98 fl_X8_22 hK.1 rfl rfl ?_
            refine wp_newL (pc' := 104) 5 dX8_permit_101 nw_X8_155 rfl (by omega) (by omega) rfl (fun b hb => ?_)
            have kp0 : Kp (fun _ => false) G (hu G b (hO 4 [.int 0, .int 0, .int 0, .int 0, .int 0])) := kp_new hb
            refine wp_dup (pc' := 105) dX8_permit_104 rfl rfl ?_
            refine wp_load (pc' := 107) (j := 6) dX8_permit_105 rfl rfl rfl ?_
            refine wp_get (pc' := 110) dX8_permit_107 fl_X8_145 (kp0 _ _ (hC s2 hs2).1.1 rfl) rfl rfl ?_
            refine wp_load (pc' := 111) (j := 2) dX8_permit_110 rfl rfl rfl ?_
            refine wp_load (pc' := 112) (j := 3) dX8_permit_111 rfl rfl rfl ?_
            refine wp_load (pc' := 114) (j := 4) dX8_permit_112 rfl rfl rfl ?_
            refine wp_load (pc' := 116) (j := 5) dX8_permit_114 rfl rfl rfl ?_
            refine wp_i5 0 0 dX8_permit_116 ml_X8_157 (Nat.le_of_ble_eq_true rfl) (by omega) (by omega) ?_
            refine c_perI hu_s (fun G2 hb2 hk2 => ?_)
            refine kt_u ?_
            have kp2 : Kp (fun _ => false) G G2 := kp_newF hb (fun q hq => (hk2 q hq).trans (hu_n hq))
            have fr2 : Fr0 own G G2 := fr0_putF (own_new hON hb) (fun q hq => (hk2 q hq).trans (hu_n hq))
            refine wp_v1 1 400 dX8_permit_119 ml_X8_45 (kp2 _ _ hl3 rfl) (Nat.le_of_ble_eq_true rfl) (by omega) (by omega) ?_
            have hnb : b ≠ A 1 3 := fun e => by rw [e, hl3] at hb; exact nomatch hb
            refine k_add (al_kp (hL 3 (by decide)).1 kp2 rfl rfl) (fun i hi => ⟨_, kp2 _ _ (hPm i hi).1 rfl⟩) rfl co_X3 (by omega) hb2 hnb (fun i hi => ne_kd (hPm i hi).1 hl3 (Nat.ne_of_beq_eq_false rfl)) (by omega) (by omega) (fun ar G3 ka1 ka2 ka3 => ?_)
            refine kt_v ?_
            obtain ⟨hL3, hD3, kpA, frA⟩ := add_L (A' := (aAdd A 3 ar b (N 3))) (kL hL kp2 rfl rfl) hD (on_fr hON fr2) (show 3 < 6 by decide) (fun i hi e => by have := (hPm i hi).1; rw [show A (3 + 3) i = b from e] at this; rw [hb] at this; exact nomatch this) ka1 ka2 ka3 rfl rfl aAdd_3 rfl
            have kp := kp_tr kp2 kpA
            have fr := fr0_tr fr2 frA
            obtain ⟨⟨mo9, hl9⟩, -⟩ := (hL3 3 (by decide)).1
            refine wp_pop (pc' := 123) dX8_permit_122 rfl rfl ?_
            refine wp_load (pc' := 124) (j := 0) dX8_permit_123 rfl rfl rfl ?_
            refine wp_get (pc' := 127) dX8_permit_124 fl_X8_22 (kp _ _ hK.1 rfl) rfl rfl ?_
            refine wp_v0 0 0 dX8_permit_127 ml_X8_88 hl9 (Nat.le_of_ble_eq_true rfl) (by omega) (by omega) ?_
            refine k_size (hL3 3 (by decide)).1 ?_
            refine kt_v ?_
            refine wp_iconst (pc' := 131) (1) dX8_permit_130 rfl rfl ?_
            refine wp_pure (pc' := 132) dX8_permit_131 rfl rfl ?_
            refine wp_iret dX8_permit_132 rfl rfl ?_
            have hlt : N 3 < 40 := by
              rcases Nat.lt_or_ge (N 3) 40 with q | q
              · exact q
              · exact absurd (show (40 : Int32) ≤ nI (N 3) from nI_le q (by omega)) h74
            refine hT2 (by simp only [mcode, K_permit, e7, e22, e29, e35, e40, h2, ix2, h9, ix9, h19, h41, h54, h74, ixfa, ixtb, h86, Bool.false_eq_true, decide_true, decide_false, Bool.not_true, Bool.not_false, Bool.and_true, Bool.true_and, Bool.and_false, Bool.false_and, Bool.or_true, Bool.true_or, Bool.or_false, Bool.false_or, if_true, if_false, ite_true, ite_false]) hlt (aAdd A 3 ar b (N 3)) _ rfl ⟨⟨on_fr hON fr, ⟨n0, n1, n2, hlt, n4, n5, e7, e22, (show σ.1 29 + 1 = nI (N 3 + 1) by rw [e29, nI_1]), e35, e40⟩, kK hK kp rfl, hL3, hD3, kT hT kp rfl rfl rfl rfl rfl rfl rfl rfl rfl, kS hS kp rfl rfl, kWn hW kp rfl, kC hC kp rfl rfl, ?_, kY hY kp rfl, kF hF kp rfl rfl⟩, fr⟩
            · intro i hi
              have hi2 : i < N 3 + 1 := hi
              show Cl own G3 (va_up (A 6) (N 3) b i) (hO 4 [.int (va_up (σ.2.1 30) (N 3) (nI s2) i), .int (va_up (σ.2.1 31) (N 3) (nI s9) i), .int (va_up (σ.2.1 32) (N 3) h i), .int (va_up (σ.2.1 33) (N 3) (nI fa) i), .int (va_up (σ.2.1 34) (N 3) (nI tb) i)])
              by_cases e : i = N 3
              · simp only [e, up_s]
                exact ⟨kpA _ _ hb2 rfl, own_new hON hb⟩
              · simp only [up_n e]
                exact cl_kp (hPm i (by omega)) kp rfl
  · skip
    refine wp_thr dX8_permit_22 dX8_permit_25 (Or.inl ⟨dX8_permit_26, dX8_permit_28, dX8_permit_31⟩) th_X8_150 rfl (by omega) (Nat.le_of_ble_eq_true rfl) (by omega) (by omega) ?_
    exact hX _ (ex1 (by simp only [mcode, K_permit, h2, ix2, h9, ix9, h19, Bool.false_eq_true, decide_true, decide_false, Bool.not_true, Bool.not_false, Bool.and_true, Bool.true_and, Bool.and_false, Bool.false_and, Bool.or_true, Bool.true_or, Bool.or_false, Bool.false_or, if_true, if_false, ite_true, ite_false]))

set_option maxRecDepth 20000 in
set_option maxHeartbeats 2000000 in
theorem q_pay {E : XE} {d mc ms : Nat} {P : Ps} {G : HP} {own : Nat → Nat} {A : Nat → Nat → Nat} {F : Nat → Int32} {σ : MS} {N : Nat → Nat} (hH : CH E own A F σ N G) {T : Nat} (hI : PI σ N T) {i s f q : Int32} (hmc : 10 ≤ mc) (hms : 1000 ≤ ms) (hX : ∀ X, exO (K_pay σ i s f q) X → P (.inr X) G) (hT2 : K_pay σ i s f q = 0 → ∀ a, a < 4 → s = nI a → N 4 < 200 → ∀ A' G', A' 0 0 = A 0 0 → CW E own A' F (payF σ (N 4) i s f q a) (va_up N 4 (N 4 + 1)) G G' → P (.inl (some (.int (q * σ.2.1 52 a)))) G') : Sp E (d + 11) yX8_pay mc ms [.ref (A 0 0), .int i, .int s, .int f, .int q] G P := by
  obtain ⟨hON, hN, hK, hL, hD, hT, hS, hW, hC, hPm, hY, hF⟩ := id hH
  obtain ⟨n0, n1, n2, n3, n4, n5, e7, e22, e29, e35, e40⟩ := id hN
  obtain ⟨mo4, hl4⟩ := (hL 4 (by decide)).1.1
  obtain ⟨⟨t, ht, et, -⟩, -⟩ := id hI
  have hmx := max_eq et ht
  refine sp_intro bd_X8_pay (v1_all rfl) (Nat.le_of_ble_eq_true rfl) ?_
  change WX _ _ _ _ _ _ 0 [some (.ref (A 0 0)), some (.int i), some (.int s), some (.int f), some (.int q), none, none, none] [] _ 0 0
  refine wp_load (pc' := 1) (j := 0) dX8_pay_0 rfl rfl rfl ?_
  refine wp_load (pc' := 2) (j := 1) dX8_pay_1 rfl rfl rfl ?_
  refine wp_v1 1 6 dX8_pay_2 ml_X8_146 hK.1 (Nat.le_of_ble_eq_true rfl) (by omega) (by omega) ?_
  refine c_carOf hH (by omega) (by omega) (fun h2 => kt_x rfl (hX _ (ex1 (by simp only [mcode, K_pay, hmx, e7, e22, e29, e35, e40, if_true, h2, Bool.false_eq_true, decide_true, decide_false, Bool.not_true, Bool.not_false, Bool.and_true, Bool.true_and, Bool.and_false, Bool.false_and, Bool.or_true, Bool.true_or, Bool.or_false, Bool.false_or, if_true, if_false, ite_true, ite_false])))) (fun s2 hs2 es2 h2 => ?_)
  obtain rfl := es2
  have ix2 : ix (nI s2) = s2 := ix_nI (by omega)
  refine kt_v ?_
  refine wp_store (pc' := 7) (j := 5) (ls' := [_, _, _, _, _, _, _, _]) dX8_pay_5 rfl (Nat.le_of_ble_eq_true rfl) rfl rfl ?_
  refine wp_load (pc' := 8) (j := 0) dX8_pay_7 rfl rfl rfl ?_
  refine wp_load (pc' := 9) (j := 2) dX8_pay_8 rfl rfl rfl ?_
  refine wp_v1 1 6 dX8_pay_9 ml_X8_49 hK.1 (Nat.le_of_ble_eq_true rfl) (by omega) (by omega) ?_
  refine c_streetOf hH (by omega) (by omega) (fun h9 => kt_x rfl (hX _ (ex1 (by simp only [mcode, K_pay, hmx, e7, e22, e29, e35, e40, h2, ix2, h9, Bool.false_eq_true, decide_true, decide_false, Bool.not_true, Bool.not_false, Bool.and_true, Bool.true_and, Bool.and_false, Bool.false_and, Bool.or_true, Bool.true_or, Bool.or_false, Bool.false_or, if_true, if_false, ite_true, ite_false])))) (fun s9 hs9 es9 h9 => ?_)
  obtain rfl := es9
  have ix9 : ix (nI s9) = s9 := ix_nI (by omega)
  refine kt_v ?_
  refine wp_store (pc' := 14) (j := 6) (ls' := [_, _, _, _, _, _, _, _]) dX8_pay_12 rfl (Nat.le_of_ble_eq_true rfl) rfl rfl ?_
  refine wp_load (pc' := 15) (j := 3) dX8_pay_14 rfl rfl rfl ?_
  refine wp_iconst (pc' := 16) (0) dX8_pay_15 rfl rfl ?_
  refine wp_load (pc' := 17) (j := 0) dX8_pay_16 rfl rfl rfl ?_
  refine wp_get (pc' := 20) dX8_pay_17 fl_X8_38 hK.1 rfl rfl ?_
  refine wp_bipush (pc' := 22) (96) dX8_pay_20 rfl rfl ?_
  refine wp_pure (pc' := 23) dX8_pay_22 rfl rfl ?_
  refine wp_max (pc' := 26) dX8_pay_23 mxl_X8_199 (by omega) (Nat.le_of_ble_eq_true rfl) rfl ?_
  refine wp_load (pc' := 27) (j := 0) dX8_pay_26 rfl rfl rfl ?_
  refine wp_get (pc' := 30) dX8_pay_27 fl_X8_38 hK.1 rfl rfl ?_
  refine wp_s3 0 0 dX8_pay_30 ml_X8_65 (Nat.le_of_ble_eq_true rfl) (by omega) (by omega) ?_
  refine c_isIn _ _ _ ?_
  rw [hmx]
  refine kt_v ?_
  refine wp_ifeqB (pc' := 36) 51 dX8_pay_33 rfl rfl (fun h33 => ?_) (fun h33 => ?_)
  · skip
    refine wp_iconst (pc' := 52) (0) dX8_pay_51 rfl rfl ?_
    refine wp_s1 1 6 dX8_pay_52 ml_X8_69 (Nat.le_of_ble_eq_true rfl) (by omega) (by omega) ?_
    refine c_need0 (by omega) (by omega) (kt_x rfl ?_)
    exact hX _ (ex2 (by simp only [mcode, K_pay, hmx, e7, e22, e29, e35, e40, h2, ix2, h9, ix9, h33, Bool.false_eq_true, decide_true, decide_false, Bool.not_true, Bool.not_false, Bool.and_true, Bool.true_and, Bool.and_false, Bool.false_and, Bool.or_true, Bool.true_or, Bool.or_false, Bool.false_or, if_true, if_false, ite_true, ite_false]))
  · skip
    refine wp_load (pc' := 38) (j := 4) dX8_pay_36 rfl rfl rfl ?_
    refine wp_iconst (pc' := 39) (1) dX8_pay_38 rfl rfl ?_
    refine wp_bipush (pc' := 41) (96) dX8_pay_39 rfl rfl ?_
    refine wp_s3 0 0 dX8_pay_41 ml_X8_65 (Nat.le_of_ble_eq_true rfl) (by omega) (by omega) ?_
    refine c_isIn _ _ _ ?_
    refine kt_v ?_
    refine wp_ifeqB (pc' := 47) 51 dX8_pay_44 rfl rfl (fun h44 => ?_) (fun h44 => ?_)
    · skip
      refine wp_iconst (pc' := 52) (0) dX8_pay_51 rfl rfl ?_
      refine wp_s1 1 6 dX8_pay_52 ml_X8_69 (Nat.le_of_ble_eq_true rfl) (by omega) (by omega) ?_
      refine c_need0 (by omega) (by omega) (kt_x rfl ?_)
      exact hX _ (ex2 (by simp only [mcode, K_pay, hmx, e7, e22, e29, e35, e40, h2, ix2, h9, ix9, h33, h44, Bool.false_eq_true, decide_true, decide_false, Bool.not_true, Bool.not_false, Bool.and_true, Bool.true_and, Bool.and_false, Bool.false_and, Bool.or_true, Bool.true_or, Bool.or_false, Bool.false_or, if_true, if_false, ite_true, ite_false]))
    · skip
      refine wp_iconst (pc' := 48) (1) dX8_pay_47 rfl rfl ?_
      refine wp_goto 52 dX8_pay_48 rfl ?_
      refine wp_s1 1 6 dX8_pay_52 ml_X8_69 (Nat.le_of_ble_eq_true rfl) (by omega) (by omega) ?_
      refine c_need1 ?_
      refine kt_u ?_
      refine wp_load (pc' := 56) (j := 0) dX8_pay_55 rfl rfl rfl ?_
      refine wp_get (pc' := 59) dX8_pay_56 fl_X8_25 hK.1 rfl rfl ?_
      refine wp_v0 0 0 dX8_pay_59 ml_X8_88 hl4 (Nat.le_of_ble_eq_true rfl) (by omega) (by omega) ?_
      refine k_size (hL 4 (by decide)).1 ?_
      refine kt_v ?_
      refine wp_sipush (pc' := 65) (200) dX8_pay_62 rfl rfl ?_
      refine wp_icmp_ge (pc' := 68) 72 dX8_pay_65 rfl rfl (fun h65 => ?_) (fun h65 => ?_)
      · skip
        refine wp_iconst (pc' := 73) (0) dX8_pay_72 rfl rfl ?_
        refine wp_s1 1 6 dX8_pay_73 ml_X8_92 (Nat.le_of_ble_eq_true rfl) (by omega) (by omega) ?_
        refine c_needState0 (by omega) (by omega) (kt_x rfl ?_)
        exact hX _ (ex3 (by simp only [mcode, K_pay, hmx, e7, e22, e29, e35, e40, h2, ix2, h9, ix9, h33, h44, h65, Bool.false_eq_true, decide_true, decide_false, Bool.not_true, Bool.not_false, Bool.and_true, Bool.true_and, Bool.and_false, Bool.false_and, Bool.or_true, Bool.true_or, Bool.or_false, Bool.false_or, if_true, if_false, ite_true, ite_false]))
      · skip
        refine wp_iconst (pc' := 69) (1) dX8_pay_68 rfl rfl ?_
        refine wp_goto 73 dX8_pay_69 rfl ?_
        refine wp_s1 1 6 dX8_pay_73 ml_X8_92 (Nat.le_of_ble_eq_true rfl) (by omega) (by omega) ?_
        refine c_needState1 ?_
        refine kt_u ?_
        refine wp_load (pc' := 77) (j := 0) dX8_pay_76 rfl rfl rfl ?_
        refine wp_get (pc' := 80) dX8_pay_77 fl_X8_25 hK.1 rfl rfl ?_
        refine wp_newL (pc' := 83) 4 dX8_pay_80 nw_X8_205 rfl (by omega) (by omega) rfl (fun b hb => ?_)
        have kp0 : Kp (fun _ => false) G (hu G b (hO 3 [.int 0, .int 0, .int 0, .int 0])) := kp_new hb
        refine wp_dup (pc' := 84) dX8_pay_83 rfl rfl ?_
        refine wp_load (pc' := 86) (j := 5) dX8_pay_84 rfl rfl rfl ?_
        refine wp_get (pc' := 89) dX8_pay_86 fl_X8_145 (kp0 _ _ (hC s2 hs2).1.1 rfl) rfl rfl ?_
        refine wp_load (pc' := 90) (j := 2) dX8_pay_89 rfl rfl rfl ?_
        refine wp_load (pc' := 91) (j := 3) dX8_pay_90 rfl rfl rfl ?_
        refine wp_load (pc' := 93) (j := 4) dX8_pay_91 rfl rfl rfl ?_
        refine wp_i4 0 0 dX8_pay_93 ml_X8_207 (Nat.le_of_ble_eq_true rfl) (by omega) (by omega) ?_
        refine c_payI hu_s (fun G2 hb2 hk2 => ?_)
        refine kt_u ?_
        have kp2 : Kp (fun _ => false) G G2 := kp_newF hb (fun q hq => (hk2 q hq).trans (hu_n hq))
        have fr2 : Fr0 own G G2 := fr0_putF (own_new hON hb) (fun q hq => (hk2 q hq).trans (hu_n hq))
        refine wp_v1 1 400 dX8_pay_96 ml_X8_45 (kp2 _ _ hl4 rfl) (Nat.le_of_ble_eq_true rfl) (by omega) (by omega) ?_
        have hnb : b ≠ A 1 4 := fun e => by rw [e, hl4] at hb; exact nomatch hb
        refine k_add (al_kp (hL 4 (by decide)).1 kp2 rfl rfl) (fun i hi => ⟨_, kp2 _ _ (hY i hi).1 rfl⟩) rfl co_X2 (by omega) hb2 hnb (fun i hi => ne_kd (hY i hi).1 hl4 (Nat.ne_of_beq_eq_false rfl)) (by omega) (by omega) (fun ar G3 ka1 ka2 ka3 => ?_)
        refine kt_v ?_
        obtain ⟨hL3, hD3, kpA, frA⟩ := add_L (A' := (aAdd A 4 ar b (N 4))) (kL hL kp2 rfl rfl) hD (on_fr hON fr2) (show 4 < 6 by decide) (fun i hi e => by have := (hY i hi).1; rw [show A (3 + 4) i = b from e] at this; rw [hb] at this; exact nomatch this) ka1 ka2 ka3 rfl rfl aAdd_3 rfl
        have kp := kp_tr kp2 kpA
        have fr := fr0_tr fr2 frA
        refine wp_pop (pc' := 100) dX8_pay_99 rfl rfl ?_
        refine wp_load (pc' := 102) (j := 4) dX8_pay_100 rfl rfl rfl ?_
        refine wp_load (pc' := 104) (j := 6) dX8_pay_102 rfl rfl rfl ?_
        refine wp_get (pc' := 107) dX8_pay_104 fl_X8_210 (kp _ _ (hT s9 hs9).1.1 rfl) rfl rfl ?_
        refine wp_pure (pc' := 108) dX8_pay_107 rfl rfl ?_
        refine wp_store (pc' := 110) (j := 7) (ls' := [_, _, _, _, _, _, _, _]) dX8_pay_108 rfl (Nat.le_of_ble_eq_true rfl) rfl rfl ?_
        refine wp_load (pc' := 112) (j := 6) dX8_pay_110 rfl rfl rfl ?_
        refine wp_dup (pc' := 113) dX8_pay_112 rfl rfl ?_
        refine wp_get (pc' := 116) dX8_pay_113 fl_X8_213 (kp _ _ (hT s9 hs9).1.1 rfl) rfl rfl ?_
        refine wp_load (pc' := 118) (j := 7) dX8_pay_116 rfl rfl rfl ?_
        refine wp_pure (pc' := 119) dX8_pay_118 rfl rfl ?_
        refine wp_put (pc' := 122) (fs' := [_, _, _, _, _, _]) dX8_pay_119 fl_X8_213 (kp _ _ (hT s9 hs9).1.1 rfl) (Nat.le_of_ble_eq_true rfl) rfl rfl rfl rfl ?_
        refine wp_load (pc' := 124) (j := 7) dX8_pay_122 rfl rfl rfl ?_
        refine wp_iret dX8_pay_124 rfl rfl ?_
        have hlt : N 4 < 200 := by
          rcases Nat.lt_or_ge (N 4) 200 with z | z
          · exact z
          · exact absurd (show (200 : Int32) ≤ nI (N 4) from nI_le z (by omega)) h65
        have kp3 := kp
        have kp4 := kp_put (e1 := hO 7 [.ref (A 11 s9), .int (σ.2.1 52 s9), .int (takenF σ (nI s9) (N 2)), .int (σ.2.1 55 s9), .int (σ.2.1 53 s9 + q * σ.2.1 52 s9), .int (σ.2.1 54 s9)]) (kp _ _ (hT s9 hs9).1.1 rfl) rfl
        have hL3 := kL hL3 kp4 rfl rfl
        have kp := kp_tr kp kp4
        have fr := fr0_tr fr (fr0_put (e := hO 7 [.ref (A 11 s9), .int (σ.2.1 52 s9), .int (takenF σ (nI s9) (N 2)), .int (σ.2.1 55 s9), .int (σ.2.1 53 s9 + q * σ.2.1 52 s9), .int (σ.2.1 54 s9)]) (hT s9 hs9).1.2)
        refine hT2 (by simp only [mcode, K_pay, hmx, e7, e22, e29, e35, e40, h2, ix2, h9, ix9, h33, h44, h65, Bool.false_eq_true, decide_true, decide_false, Bool.not_true, Bool.not_false, Bool.and_true, Bool.true_and, Bool.and_false, Bool.false_and, Bool.or_true, Bool.true_or, Bool.or_false, Bool.false_or, if_true, if_false, ite_true, ite_false]) _ hs9 rfl hlt (aAdd A 4 ar b (N 4)) _ rfl ⟨⟨on_fr hON fr, ⟨n0, n1, n2, n3, hlt, n5, e7, e22, e29, (show σ.1 35 + 1 = nI (N 4 + 1) by rw [e35, nI_1]), e40⟩, kK hK kp rfl, hL3, hD3, ?_, kS hS kp rfl rfl, kWn hW kp rfl, kC hC kp rfl rfl, kPm hPm kp rfl, ?_, kF hF kp rfl rfl⟩, fr⟩
        · intro a ha
          have et := taken_ext (σ := σ) (τ := payF σ (N 4) (nI s2) (nI s9) f q s9) (s := nI a) (N 2) (fun i hi => ⟨rfl, rfl⟩)
          show Cl own _ (A 3 a) (hO 7 [_, .int (σ.2.1 52 a), .int (takenF (payF σ (N 4) (nI s2) (nI s9) f q s9) (nI a) (N 2)), .int (σ.2.1 55 a), .int (va_up (σ.2.1 53) s9 (σ.2.1 53 s9 + q * σ.2.1 52 s9) a), .int (σ.2.1 54 a)]) ∧ _
          rw [et]
          refine ⟨?_, (hT a ha).2.imp (fun _ z => ⟨cl_kp z.1 kp rfl, z.2⟩)⟩
          by_cases e : a = s9
          · subst e
            rw [up_s]
            exact ⟨hu_s, (hT a ha).1.2⟩
          · rw [up_n e]
            exact ⟨(hu_n (fun z => e (hD.2.1 0 (by decide) a s9 (by omega) (by omega) z))).trans (kp3 _ _ (hT a ha).1.1 rfl), (hT a ha).1.2⟩
        · intro i hi
          have hi2 : i < N 4 + 1 := hi
          show Cl own _ (va_up (A 7) (N 4) b i) (hO 3 [.int (va_up (σ.2.1 36) (N 4) (nI s2) i), .int (va_up (σ.2.1 37) (N 4) (nI s9) i), .int (va_up (σ.2.1 38) (N 4) f i), .int (va_up (σ.2.1 39) (N 4) q i)])
          by_cases e : i = N 4
          · simp only [e, up_s]
            exact ⟨kp4 _ _ (kpA _ _ hb2 rfl) rfl, own_new hON hb⟩
          · simp only [up_n e]
            exact cl_kp (hY i (by omega)) kp rfl

