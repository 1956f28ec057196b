/-! the law pays -/
set_option maxRecDepth 20000 in
set_option maxHeartbeats 4000000 in
theorem s_pay {E : XE} {d0 d mc ms : Nat} {P : Ps} {own : Nat → Nat} {x ag al au aT k : Nat} {σ : MS} {N : Nat → Nat} {G : HP} (hd : d = d0 + 12) (hO : OWN own ag al au aT) (hk : k < 60) (hW : LW E own x ag al au aT σ N k G) (hP : ∀ σ' N' G', LW E own x ag al au aT σ' N' (k + 1) G' → P (.inl (some (.int 1))) G') {a b : Int32} (hmc : 100 ≤ mc) (hms : 6000 ≤ ms) {rc rs rf rq t0 : Nat} (hrc : rc < N 2) (hrs : rs < 4) (hrf : rf < 120) (hrq : rq < 96) (et0 : σ.1 0 = nI t0) (ht0 : t0 ≤ 49999) {z8 z9 : Option Value} : WX E d (yL_pays, cL_pays, (some .boolean), []) mc ms P 43 [some (.ref x), some (.ref ag), some (.int a), some (.int b), some (.int (nI rc)), some (.int (nI rs)), some (.int (nI t0 - nI rf)), some (.int (nI (1 + rq))), z8, z9] [] G 0 0 := by
  subst hd
  obtain ⟨o1, o2, o3, o4, o5, o6, o7, o8, o9, o10⟩ := id hO
  obtain ⟨hT, hX, ⟨g, hg, g0, g1, g2, g3, g4, g5⟩, ⟨l, hl, ll⟩, ⟨u, hu, uu⟩, ⟨t, ht, t1, t2⟩⟩ := id hW
  have hN := tk_N hT
  have hI := tk_I hT
  obtain ⟨n0, n1, n2, n3, n4, n5, e7, e22, e29, e35, e40⟩ := id hN
  have q9 := hX.2.2.1 rs hrs
  obtain ⟨c0, hc0, ec0⟩ := q9
  obtain ⟨-, -, -, -, -, p7⟩ := id hI
  obtain ⟨r0, hr0, er0⟩ := p7 rs hrs
  have x2 := hX.2.1
  rcases Nat.lt_or_ge t0 rf with hA | hA
  rotate_left
  rcases Nat.lt_or_ge 96 rf with hB | hB
  · skip
    have ef : nI t0 - nI rf = nI (t0 - rf) := pk_sub hA
    rw [ef]
    have kx : K_pay σ (nI rc) (nI rs) (nI (t0 - rf)) (nI (1 + rq)) = 2 := by
      rw [K_py hN hrc hrs et0 ht0 (show t0 - rf ≤ t0 by omega) (by omega) (by omega) (by omega), if_neg (by omega)]
    refine wp_load (pc' := 44) (j := 0) dL_pays_43 rfl rfl rfl ?_
    refine wp_load (pc' := 46) (j := 5) dL_pays_44 rfl rfl rfl ?_
    refine wp_iconst (pc' := 47) (2) dL_pays_46 rfl rfl ?_
    refine wp_s3 10 60 dL_pays_47 ml_L_115 (Nat.le_of_ble_eq_true rfl) (by omega) (by omega) ?_
    refine w_streetIs hT (Nat.le_refl _) (Nat.le_refl _) (nI c0) (s_ans hrs (w := 2) (by decide) (sv2.trans ec0)) ?_
    refine kt_v ?_
    refine wp_store (pc' := 52) (j := 8) (ls' := [_, _, _, _, _, _, _, _, _, _]) dL_pays_50 rfl (Nat.le_of_ble_eq_true rfl) rfl rfl ?_
    refine wp_load (pc' := 53) (j := 0) dL_pays_52 rfl rfl rfl ?_
    refine wp_load (pc' := 55) (j := 4) dL_pays_53 rfl rfl rfl ?_
    refine wp_load (pc' := 57) (j := 5) dL_pays_55 rfl rfl rfl ?_
    refine wp_load (pc' := 59) (j := 6) dL_pays_57 rfl rfl rfl ?_
    refine wp_load (pc' := 61) (j := 7) dL_pays_59 rfl rfl rfl ?_
    refine wp_s5 10 1000 dL_pays_61 ml_L_142 (Nat.le_of_ble_eq_true rfl) (by omega) (by omega) ?_
    refine w_pay hT (Nat.le_refl _) (Nat.le_refl _) (fun z => ?_) (fun z => absurd (z.symm.trans (kx)) (by decide))
    rw [rsO_2 (kx)]
    refine kt_v ?_
    refine wp_store (pc' := 66) (j := 9) (ls' := [_, _, _, _, _, _, _, _, _, _]) dL_pays_64 rfl (Nat.le_of_ble_eq_true rfl) rfl rfl ?_
    refine wp_load (pc' := 68) (j := 6) dL_pays_66 rfl rfl rfl ?_
    refine wp_ifF (pc' := 71) 82 dL_pays_68 rfl rfl (nI_pos (by omega)) ?_
    refine wp_load (pc' := 72) (j := 1) dL_pays_71 rfl rfl rfl ?_
    refine wp_iconst (pc' := 73) (0) dL_pays_72 rfl rfl ?_
    refine wp_iald (pc' := 74) dL_pays_73 hg rfl (by decide) (by decide) rfl ?_
    rw [g0, et0]
    refine wp_load (pc' := 76) (j := 6) dL_pays_74 rfl rfl rfl ?_
    refine wp_pure (pc' := 77) dL_pays_76 rfl rfl ?_
    rw [pk_sub (show t0 - rf ≤ t0 by omega), show t0 - (t0 - rf) = rf from by omega]
    refine wp_bipush (pc' := 79) (96) dL_pays_77 rfl rfl ?_
    refine wp_icmpF (pc' := 82) 95 dL_pays_79 rfl rfl (show ¬ nI rf ≤ nI 96 from nI_ge hB (by omega)) ?_
    refine wp_load (pc' := 84) (j := 9) dL_pays_82 rfl rfl rfl ?_
    refine wp_ldc (pc' := 86) dL_pays_84 kw_L_25 rfl ?_
    refine wp_icmpF (pc' := 89) 93 dL_pays_86 rfl rfl (cmpF rfl) ?_
    refine wp_iconst (pc' := 90) (1) dL_pays_89 rfl rfl ?_
    refine wp_goto 94 dL_pays_90 rfl ?_
    refine wp_iret dL_pays_94 rfl rfl ?_
    exact hP _ _ _ (lw_up hk hW)
  · skip
    have ef : nI t0 - nI rf = nI (t0 - rf) := pk_sub hA
    rw [ef]
    have kx : K_pay σ (nI rc) (nI rs) (nI (t0 - rf)) (nI (1 + rq)) = 0 := by
      rw [K_py hN hrc hrs et0 ht0 (show t0 - rf ≤ t0 by omega) (by omega) (by omega) (by omega), if_pos (by omega)]
    refine wp_load (pc' := 44) (j := 0) dL_pays_43 rfl rfl rfl ?_
    refine wp_load (pc' := 46) (j := 5) dL_pays_44 rfl rfl rfl ?_
    refine wp_iconst (pc' := 47) (2) dL_pays_46 rfl rfl ?_
    refine wp_s3 10 60 dL_pays_47 ml_L_115 (Nat.le_of_ble_eq_true rfl) (by omega) (by omega) ?_
    refine w_streetIs hT (Nat.le_refl _) (Nat.le_refl _) (nI c0) (s_ans hrs (w := 2) (by decide) (sv2.trans ec0)) ?_
    refine kt_v ?_
    refine wp_store (pc' := 52) (j := 8) (ls' := [_, _, _, _, _, _, _, _, _, _]) dL_pays_50 rfl (Nat.le_of_ble_eq_true rfl) rfl rfl ?_
    refine wp_load (pc' := 53) (j := 0) dL_pays_52 rfl rfl rfl ?_
    refine wp_load (pc' := 55) (j := 4) dL_pays_53 rfl rfl rfl ?_
    refine wp_load (pc' := 57) (j := 5) dL_pays_55 rfl rfl rfl ?_
    refine wp_load (pc' := 59) (j := 6) dL_pays_57 rfl rfl rfl ?_
    refine wp_load (pc' := 61) (j := 7) dL_pays_59 rfl rfl rfl ?_
    refine wp_s5 10 1000 dL_pays_61 ml_L_142 (Nat.le_of_ble_eq_true rfl) (by omega) (by omega) ?_
    refine w_pay hT (Nat.le_refl _) (Nat.le_refl _) (fun z => absurd (kx) z) (fun hK0 j hj he hn4 G1 hT1 hF1 => ?_)
    have ej : j = rs := ((nI_eq (show rs < 2 ^ 31 by omega) (show j < 2 ^ 31 by omega)).1 he).symm
    rw [ej] at hT1
    rw [ej, er0]
    refine kt_v ?_
    have hg1 := (hF1 ag o1).trans hg
    have hl1 := (hF1 al o2).trans hl
    have hu1 := (hF1 au o3).trans hu
    have ht1 := (hF1 aT o4).trans ht
    refine wp_store (pc' := 66) (j := 9) (ls' := [_, _, _, _, _, _, _, _, _, _]) dL_pays_64 rfl (Nat.le_of_ble_eq_true rfl) rfl rfl ?_
    refine wp_load (pc' := 68) (j := 6) dL_pays_66 rfl rfl rfl ?_
    refine wp_ifF (pc' := 71) 82 dL_pays_68 rfl rfl (nI_pos (by omega)) ?_
    refine wp_load (pc' := 72) (j := 1) dL_pays_71 rfl rfl rfl ?_
    refine wp_iconst (pc' := 73) (0) dL_pays_72 rfl rfl ?_
    refine wp_iald (pc' := 74) dL_pays_73 hg1 rfl (by decide) (by decide) rfl ?_
    rw [g0, et0]
    refine wp_load (pc' := 76) (j := 6) dL_pays_74 rfl rfl rfl ?_
    refine wp_pure (pc' := 77) dL_pays_76 rfl rfl ?_
    rw [pk_sub (show t0 - rf ≤ t0 by omega), show t0 - (t0 - rf) = rf from by omega]
    refine wp_bipush (pc' := 79) (96) dL_pays_77 rfl rfl ?_
    refine wp_icmpT 95 dL_pays_79 rfl (show nI rf ≤ nI 96 from nI_le hB (by decide)) ?_
    refine wp_load (pc' := 96) (j := 1) dL_pays_95 rfl rfl rfl ?_
    refine wp_iconst (pc' := 97) (4) dL_pays_96 rfl rfl ?_
    refine wp_dup2 (pc' := 98) dL_pays_97 rfl rfl rfl ?_
    refine wp_iald (pc' := 99) dL_pays_98 hg1 rfl (by decide) (by decide) rfl ?_
    rw [g4]
    refine wp_iconst (pc' := 100) (1) dL_pays_99 rfl rfl ?_
    refine wp_pure (pc' := 101) dL_pays_100 rfl rfl ?_
    rw [nI_1]
    refine wp_iaw (pc' := 102) dL_pays_101 hg1 rfl (by decide) (by decide) rfl (fun G2 hw2 hr2 => ?_)
    have hl2 := (hr2 al o5.symm).trans hl1
    have hu2 := (hr2 au o6.symm).trans hu1
    have ht2 := (hr2 aT o7.symm).trans ht1
    have hT2 := tk_put o1 hw2 hr2 hT1
    refine wp_load (pc' := 104) (j := 9) dL_pays_102 rfl rfl rfl ?_
    refine wp_load (pc' := 106) (j := 7) dL_pays_104 rfl rfl rfl ?_
    refine wp_load (pc' := 107) (j := 0) dL_pays_106 rfl rfl rfl ?_
    refine wp_load (pc' := 109) (j := 5) dL_pays_107 rfl rfl rfl ?_
    refine wp_iconst (pc' := 110) (0) dL_pays_109 rfl rfl ?_
    refine wp_s3 10 60 dL_pays_110 ml_L_115 (Nat.le_of_ble_eq_true rfl) (by omega) (by omega) ?_
    refine w_streetIs hT2 (Nat.le_refl _) (Nat.le_refl _) (nI r0) (s_ans hrs (w := 0) (by decide) (sv0.trans er0)) ?_
    refine kt_v ?_
    refine wp_pure (pc' := 114) dL_pays_113 rfl rfl ?_
    refine wp_icmpF (pc' := 117) 136 dL_pays_114 rfl rfl (fun z => z rfl) ?_
    refine wp_load (pc' := 118) (j := 0) dL_pays_117 rfl rfl rfl ?_
    refine wp_load (pc' := 120) (j := 5) dL_pays_118 rfl rfl rfl ?_
    refine wp_iconst (pc' := 121) (2) dL_pays_120 rfl rfl ?_
    refine wp_s3 10 60 dL_pays_121 ml_L_115 (Nat.le_of_ble_eq_true rfl) (by omega) (by omega) ?_
    refine w_streetIs hT2 (Nat.le_refl _) (Nat.le_refl _) (nI c0 + nI (1 + rq) * nI r0) (s_ans hrs (w := 2) (by decide) (sv2.trans ((up_s (f := σ.2.1 53)).trans (by rw [ec0, er0])))) ?_
    refine kt_v ?_
    refine wp_load (pc' := 126) (j := 8) dL_pays_124 rfl rfl rfl ?_
    refine wp_load (pc' := 128) (j := 9) dL_pays_126 rfl rfl rfl ?_
    refine wp_pure (pc' := 129) dL_pays_128 rfl rfl ?_
    refine wp_icmpF (pc' := 132) 136 dL_pays_129 rfl rfl (fun z => z rfl) ?_
    refine wp_iconst (pc' := 133) (1) dL_pays_132 rfl rfl ?_
    refine wp_goto 137 dL_pays_133 rfl ?_
    refine wp_iret dL_pays_137 rfl rfl ?_
    exact hP _ _ _ ⟨tk_T hT2 (by omega), xi_up (by omega) (Nat.le_refl _) (xi_pay hX (show 1 + rq ≤ 96 by omega) hr0 er0 hrs), ⟨_, hw2, (up_n (by decide)).trans g0, (up_n (by decide)).trans g1, (up_n (by decide)).trans g2, (up_n (by decide)).trans g3, up_s, (up_n (by decide)).trans g5⟩, ⟨_, hl2, ll⟩, ⟨_, hu2, uu⟩, ⟨_, ht2, t1, t2⟩⟩
  · skip
    have hneg : nI t0 - nI rf < 0 := pk_sneg (show rf < 2 ^ 30 by omega) hA
    have kx : K_pay σ (nI rc) (nI rs) (nI t0 - nI rf) (nI (1 + rq)) = 2 := K_py_n hN hrc hrs hneg ⟨t0, ht0, et0⟩
    refine wp_load (pc' := 44) (j := 0) dL_pays_43 rfl rfl rfl ?_
    refine wp_load (pc' := 46) (j := 5) dL_pays_44 rfl rfl rfl ?_
    refine wp_iconst (pc' := 47) (2) dL_pays_46 rfl rfl ?_
    refine wp_s3 10 60 dL_pays_47 ml_L_115 (Nat.le_of_ble_eq_true rfl) (by omega) (by omega) ?_
    refine w_streetIs hT (Nat.le_refl _) (Nat.le_refl _) (nI c0) (s_ans hrs (w := 2) (by decide) (sv2.trans ec0)) ?_
    refine kt_v ?_
    refine wp_store (pc' := 52) (j := 8) (ls' := [_, _, _, _, _, _, _, _, _, _]) dL_pays_50 rfl (Nat.le_of_ble_eq_true rfl) rfl rfl ?_
    refine wp_load (pc' := 53) (j := 0) dL_pays_52 rfl rfl rfl ?_
    refine wp_load (pc' := 55) (j := 4) dL_pays_53 rfl rfl rfl ?_
    refine wp_load (pc' := 57) (j := 5) dL_pays_55 rfl rfl rfl ?_
    refine wp_load (pc' := 59) (j := 6) dL_pays_57 rfl rfl rfl ?_
    refine wp_load (pc' := 61) (j := 7) dL_pays_59 rfl rfl rfl ?_
    refine wp_s5 10 1000 dL_pays_61 ml_L_142 (Nat.le_of_ble_eq_true rfl) (by omega) (by omega) ?_
    refine w_pay hT (Nat.le_refl _) (Nat.le_refl _) (fun z => ?_) (fun z => absurd (z.symm.trans (kx)) (by decide))
    rw [rsO_2 (kx)]
    refine kt_v ?_
    refine wp_store (pc' := 66) (j := 9) (ls' := [_, _, _, _, _, _, _, _, _, _]) dL_pays_64 rfl (Nat.le_of_ble_eq_true rfl) rfl rfl ?_
    refine wp_load (pc' := 68) (j := 6) dL_pays_66 rfl rfl rfl ?_
    refine wp_ifT 82 dL_pays_68 rfl hneg ?_
    refine wp_load (pc' := 84) (j := 9) dL_pays_82 rfl rfl rfl ?_
    refine wp_ldc (pc' := 86) dL_pays_84 kw_L_25 rfl ?_
    refine wp_icmpF (pc' := 89) 93 dL_pays_86 rfl rfl (cmpF rfl) ?_
    refine wp_iconst (pc' := 90) (1) dL_pays_89 rfl rfl ?_
    refine wp_goto 94 dL_pays_90 rfl ?_
    refine wp_iret dL_pays_94 rfl rfl ?_
    exact hP _ _ _ (lw_up hk hW)

set_option maxRecDepth 20000 in
set_option maxHeartbeats 2000000 in
theorem t_pays {E : XE} {d mc ms : Nat} {P : Ps} {own : Nat → Nat} {x ag al au aT k : Nat} {σ : MS} {N : Nat → Nat} {G : HP} (hO : OWN own ag al au aT) (hk : k < 60) (hW : LW E own x ag al au aT σ N k G) (hP : ∀ σ' N' G', LW E own x ag al au aT σ' N' (k + 1) G' → P (.inl (some (.int 1))) G') {a b : Int32} (hmc : 100 ≤ mc) (hms : 6000 ≤ ms) (h0 : 0 < N 2) : Sp E (d + 13) yL_pays mc ms [.ref x, .ref ag, .int a, .int b] G P := by
  obtain ⟨o1, o2, o3, o4, o5, o6, o7, o8, o9, o10⟩ := id hO
  obtain ⟨hT, hX, ⟨g, hg, g0, g1, g2, g3, g4, g5⟩, ⟨l, hl, ll⟩, ⟨u, hu, uu⟩, ⟨t, ht, t1, t2⟩⟩ := id hW
  have hN := tk_N hT
  have hI := tk_I hT
  obtain ⟨n0, n1, n2, n3, n4, n5, e7, e22, e29, e35, e40⟩ := id hN
  obtain ⟨⟨t0, ht0, et0, -⟩, -⟩ := id hX
  refine sp_intro bd_L_pays (v1_all rfl) (Nat.le_of_ble_eq_true rfl) ?_
  change WX _ _ _ _ _ _ 0 [some (.ref x), some (.ref ag), some (.int a), some (.int b), none, none, none, none, none, none] [] _ 0 0
  refine wp_load (pc' := 1) (j := 2) dL_pays_0 rfl rfl rfl ?_
  refine wp_load (pc' := 2) (j := 1) dL_pays_1 rfl rfl rfl ?_
  refine wp_iconst (pc' := 3) (2) dL_pays_2 rfl rfl ?_
  refine wp_iald (pc' := 4) dL_pays_3 hg rfl (by decide) (by decide) rfl ?_
  rw [g2]
  refine wp_s2 0 0 dL_pays_4 ml_L_104 (Nat.le_of_ble_eq_true rfl) (by omega) (by omega) ?_
  refine w_low _ (n := (N 2)) h0 (by omega) (fun rc hrc erc => ?_)
  refine kt_v ?_
  refine wp_store (pc' := 9) (j := 4) (ls' := [_, _, _, _, _, _, _, _, _, _]) dL_pays_7 rfl (Nat.le_of_ble_eq_true rfl) rfl rfl ?_
  refine wp_load (pc' := 10) (j := 2) dL_pays_9 rfl rfl rfl ?_
  refine wp_iconst (pc' := 11) (5) dL_pays_10 rfl rfl ?_
  refine wp_pure (pc' := 12) dL_pays_11 rfl rfl ?_
  refine wp_iconst (pc' := 13) (4) dL_pays_12 rfl rfl ?_
  refine wp_s2 0 0 dL_pays_13 ml_L_104 (Nat.le_of_ble_eq_true rfl) (by omega) (by omega) ?_
  refine w_low _ (n := 4) (by decide) (by decide) (fun rs hrs ers => ?_)
  refine kt_v ?_
  refine wp_store (pc' := 18) (j := 5) (ls' := [_, _, _, _, _, _, _, _, _, _]) dL_pays_16 rfl (Nat.le_of_ble_eq_true rfl) rfl rfl ?_
  refine wp_load (pc' := 19) (j := 1) dL_pays_18 rfl rfl rfl ?_
  refine wp_iconst (pc' := 20) (0) dL_pays_19 rfl rfl ?_
  refine wp_iald (pc' := 21) dL_pays_20 hg rfl (by decide) (by decide) rfl ?_
  rw [g0, et0]
  refine wp_load (pc' := 22) (j := 3) dL_pays_21 rfl rfl rfl ?_
  refine wp_bipush (pc' := 24) (120) dL_pays_22 rfl rfl ?_
  refine wp_s2 0 0 dL_pays_24 ml_L_104 (Nat.le_of_ble_eq_true rfl) (by omega) (by omega) ?_
  refine w_low _ (n := 120) (by decide) (by decide) (fun rf hrf erf => ?_)
  refine kt_v ?_
  refine wp_pure (pc' := 28) dL_pays_27 rfl rfl ?_
  refine wp_store (pc' := 30) (j := 6) (ls' := [_, _, _, _, _, _, _, _, _, _]) dL_pays_28 rfl (Nat.le_of_ble_eq_true rfl) rfl rfl ?_
  refine wp_iconst (pc' := 31) (1) dL_pays_30 rfl rfl ?_
  refine wp_load (pc' := 32) (j := 3) dL_pays_31 rfl rfl rfl ?_
  refine wp_bipush (pc' := 34) (7) dL_pays_32 rfl rfl ?_
  refine wp_pure (pc' := 35) dL_pays_34 rfl rfl ?_
  refine wp_bipush (pc' := 37) (96) dL_pays_35 rfl rfl ?_
  refine wp_s2 0 0 dL_pays_37 ml_L_104 (Nat.le_of_ble_eq_true rfl) (by omega) (by omega) ?_
  refine w_low _ (n := 96) (by decide) (by decide) (fun rq hrq erq => ?_)
  refine kt_v ?_
  refine wp_pure (pc' := 41) dL_pays_40 rfl rfl ?_
  rw [show (1 : Int32) + nI rq = nI (1 + rq) from nI_add 1 rq]
  refine wp_store (pc' := 43) (j := 7) (ls' := [_, _, _, _, _, _, _, _, _, _]) dL_pays_41 rfl (Nat.le_of_ble_eq_true rfl) rfl rfl ?_
  exact s_pay rfl hO hk hW hP hmc hms hrc hrs hrf hrq et0 (by omega)

