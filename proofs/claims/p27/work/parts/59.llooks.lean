/-! the law looks -/
theorem jn_0 {σ : MS} {c : Nat} (h : judNow σ c ≤ 0) : judNow σ c = 0 := by
  rcases judNow_c (σ := σ) (N := fun _ => 0) (fun _ _ => trivial) (c := c) with e | e | e | e | e
  · exact e
  all_goals
    rw [e] at h
    exact absurd h (by decide)
set_option maxRecDepth 20000 in
set_option maxHeartbeats 4000000 in
theorem s_look {E : XE} {d0 d mc ms : Nat} {P : Ps} {own : Nat → Nat} {x ag al au aT k : Nat} {σ : MS} {N : Nat → Nat} {G : HP} (hd : d = d0 + 12) (hO : OWN own ag al au aT) (hk : k < 60) (hW : LW E own x ag al au aT σ N k G) (hP : ∀ σ' N' G', LW E own x ag al au aT σ' N' (k + 1) G' → P (.inl (some (.int 1))) G') {a : Int32} {rs : Nat} (hrs : rs < 4) {c n : Nat} (hc : c + 300 ≤ mc) (hn : n + 11000 ≤ ms) {z6 : Option Value} : WX E d (yL_looks, cL_looks, (some .boolean), []) mc ms P 55 [some (.ref x), some (.ref ag), some (.ref aT), some (.int a), some (.int (nI rs)), some (.int (nI (mstF σ (nI rs) (N 2)))), z6] [] G c n := by
  subst hd
  obtain ⟨o1, o2, o3, o4, o5, o6, o7, o8, o9, o10⟩ := id hO
  obtain ⟨hT, hX, ⟨g, hg, g0, g1, g2, g3, g4, g5⟩, ⟨l, hl, ll⟩, ⟨u, hu, uu⟩, ⟨t, ht, t1, t2⟩⟩ := id hW
  have hN := tk_N hT
  have hI := tk_I hT
  obtain ⟨n0, n1, n2, n3, n4, n5, e7, e22, e29, e35, e40⟩ := id hN
  obtain ⟨F0, hV⟩ : ∃ F0, INV σ F0 N k := by
    obtain ⟨A, F, -, h2, -⟩ := hT
    exact ⟨F, h2⟩
  obtain ⟨m, F1, m1, m2, m3, m4, m5, m6, m7, m8, m9, m10⟩ := look_all hN hV hX hrs (N 2) (Nat.le_refl _)
  have mle := mst_le (σ := σ) (s := nI rs) (N 2)
  have ea : (lookF σ (nI rs) (N 2)).2.1 54 rs - σ.2.1 54 rs = nI (m - N 5) := by
    rw [look_eq hrs, m4, e40, pk_sub m1]
  have es : nI (N 5) + nI (m - N 5) = nI m := by
    rw [nI_add, show N 5 + (m - N 5) = m from by omega]
  have eag := look_again m2 m4 m8 m10
  obtain ⟨k1, k2, k3, k4, k5⟩ := id m8
  refine wp_load (pc' := 56) (j := 0) dL_looks_55 rfl rfl rfl ?_
  refine wp_load (pc' := 58) (j := 4) dL_looks_56 rfl rfl rfl ?_
  refine wp_s2 100 5000 dL_looks_58 ml_L_145 (Nat.le_of_ble_eq_true rfl) (by omega) (by omega) ?_
  refine w_look hT (Nat.le_refl _) (Nat.le_refl _) (fun z => absurd (K_lk_0 hrs) z) (fun hK0 j hj he N1 G1 hT1 hF1 hN1 => ?_)
  have ej : j = rs := ((nI_eq (show rs < 2 ^ 31 by omega) (show j < 2 ^ 31 by omega)).1 he).symm
  rw [ej] at hT1
  rw [ej, ea]
  obtain ⟨y1, y2, y3, y4, y5⟩ := cN_eq m5 (tk_N hT1)
  replace y1 : N1 1 = N 1 := y1
  replace y2 : N1 2 = N 2 := y2
  replace y3 : N1 3 = N 3 := y3
  replace y4 : N1 4 = N 4 := y4
  replace y5 : N1 5 = m := y5
  have hg1 := (hF1 ag o1).trans hg
  have hl1 := (hF1 al o2).trans hl
  have hu1 := (hF1 au o3).trans hu
  have ht1 := (hF1 aT o4).trans ht
  refine kt_v ?_
  refine wp_store (pc' := 63) (j := 6) (ls' := [_, _, _, _, _, _, _]) dL_looks_61 rfl (Nat.le_of_ble_eq_true rfl) rfl rfl ?_
  refine wp_load (pc' := 64) (j := 1) dL_looks_63 rfl rfl rfl ?_
  refine wp_iconst (pc' := 65) (5) dL_looks_64 rfl rfl ?_
  refine wp_dup2 (pc' := 66) dL_looks_65 rfl rfl rfl ?_
  refine wp_iald (pc' := 67) dL_looks_66 hg1 rfl (by decide) (by decide) rfl ?_
  rw [g5]
  refine wp_load (pc' := 69) (j := 6) dL_looks_67 rfl rfl rfl ?_
  refine wp_pure (pc' := 70) dL_looks_69 rfl rfl ?_
  rw [es]
  refine wp_iaw (pc' := 71) dL_looks_70 hg1 rfl (by decide) (by decide) rfl (fun G2 hw2 hr2 => ?_)
  have hl2 := (hr2 al o5.symm).trans hl1
  have hu2 := (hr2 au o6.symm).trans hu1
  have ht2 := (hr2 aT o7.symm).trans ht1
  have hT2 := tk_put o1 hw2 hr2 hT1
  refine wp_load (pc' := 73) (j := 6) dL_looks_71 rfl rfl rfl ?_
  refine wp_ifF (pc' := 76) 140 dL_looks_73 rfl rfl (nI_pos (by omega)) ?_
  refine wp_load (pc' := 78) (j := 6) dL_looks_76 rfl rfl rfl ?_
  refine wp_load (pc' := 80) (j := 5) dL_looks_78 rfl rfl rfl ?_
  refine wp_icmpF (pc' := 83) 140 dL_looks_80 rfl rfl (nI_nlt (show m - N 5 ≤ mstF σ (nI rs) (N 2) by omega) (by omega)) ?_
  refine wp_load (pc' := 84) (j := 1) dL_looks_83 rfl rfl rfl ?_
  refine wp_iconst (pc' := 85) (5) dL_looks_84 rfl rfl ?_
  refine wp_iald (pc' := 86) dL_looks_85 hw2 rfl (by decide) (by decide) rfl ?_
  rw [up_s]
  refine wp_bipush (pc' := 88) (60) dL_looks_86 rfl rfl ?_
  refine wp_icmpF (pc' := 91) 140 dL_looks_88 rfl rfl (show ¬ nI 60 < nI m from nI_nlt m2 (by decide)) ?_
  refine wp_load (pc' := 93) (j := 6) dL_looks_91 rfl rfl rfl ?_
  refine wp_if_eq (pc' := 96) 127 dL_looks_93 rfl rfl (fun h93 => ?_) (fun h93 => ?_)
  · skip
    skip
    refine wp_load (pc' := 128) (j := 0) dL_looks_127 rfl rfl rfl ?_
    refine wp_load (pc' := 130) (j := 4) dL_looks_128 rfl rfl rfl ?_
    refine wp_s2 100 5000 dL_looks_130 ml_L_145 (Nat.le_of_ble_eq_true rfl) (by omega) (by omega) ?_
    refine w_look hT2 (Nat.le_refl _) (Nat.le_refl _) (fun z => absurd (K_lk_0 hrs) z) (fun hK0 j3 hj3 he3 N3 G3 hT3 hF3 hN3 => ?_)
    have ej3 : j3 = rs := ((nI_eq (show rs < 2 ^ 31 by omega) (show j3 < 2 ^ 31 by omega)).1 he3).symm
    rw [ej3, y2, eag] at hT3
    rw [ej3, y2, eag, Int32.sub_self]
    obtain ⟨v1, v2, v3, v4, v5⟩ := cN_eq (tk_N hT1) (tk_N hT3)
    
    refine kt_v ?_
    refine wp_ifF (pc' := 136) 140 dL_looks_133 rfl rfl (fun z => z rfl) ?_
    refine wp_iconst (pc' := 137) (1) dL_looks_136 rfl rfl ?_
    refine wp_goto 141 dL_looks_137 rfl ?_
    refine wp_iret dL_looks_141 rfl rfl ?_
    exact hP _ _ _ (lw_end hk hT3 (xi_N (N := va_up N 5 m) (v2.trans y2) (v3.trans y3) (v4.trans y4) (v5.trans y5) m7) ⟨_, (hF3 ag o1).trans hw2, (up_n (by decide)).trans (g0.trans k5.symm), (up_n (by decide)).trans (g1.trans (by rw [v1, y1])), (up_n (by decide)).trans (g2.trans (by rw [v2, y2])), (up_n (by decide)).trans (g3.trans (by rw [v3, y3])), (up_n (by decide)).trans (g4.trans (by rw [v4, y4])), up_s.trans (by rw [v5, y5])⟩ ⟨_, (hF3 al o2).trans hl2, fun i hi => (ll i (by omega)).trans (by rw [k3])⟩ ⟨_, (hF3 au o3).trans hu2, fun i hi => (uu i (by omega)).trans (by rw [k4])⟩ ⟨_, (hF3 aT o4).trans ht2, fun i hi => (t1 i (by omega)).trans (by rw [k2]), fun i hi h2 => t2 i hi (by omega)⟩)
  · skip
    have hmN : N 5 < m := Nat.lt_of_not_le (fun z => h93 (by rw [show m - N 5 = 0 from by omega]; rfl))
    refine wp_load (pc' := 97) (j := 0) dL_looks_96 rfl rfl rfl ?_
    refine wp_load (pc' := 98) (j := 1) dL_looks_97 rfl rfl rfl ?_
    refine wp_iconst (pc' := 99) (5) dL_looks_98 rfl rfl ?_
    refine wp_iald (pc' := 100) dL_looks_99 hw2 rfl (by decide) (by decide) rfl ?_
    rw [up_s]
    refine wp_iconst (pc' := 101) (1) dL_looks_100 rfl rfl ?_
    refine wp_pure (pc' := 102) dL_looks_101 rfl rfl ?_
    rw [show nI m - 1 = nI (m - 1) from pk_sub (show 1 ≤ m by omega)]
    refine wp_iconst (pc' := 103) (1) dL_looks_102 rfl rfl ?_
    refine wp_s3 10 60 dL_looks_103 ml_L_118 (Nat.le_of_ble_eq_true rfl) (by omega) (by omega) ?_
    refine w_fine hT2 (Nat.le_refl _) (Nat.le_refl _) (nI rs) (f_ans (tk_N hT2) (show m - 1 < N1 5 by omega) (w := 1) (by decide) (fv1.trans (m9 hmN).1)) ?_
    refine kt_v ?_
    refine wp_load (pc' := 108) (j := 4) dL_looks_106 rfl rfl rfl ?_
    refine wp_icmpF (pc' := 111) 140 dL_looks_108 rfl rfl (fun z => z rfl) ?_
    refine wp_load (pc' := 112) (j := 0) dL_looks_111 rfl rfl rfl ?_
    refine wp_load (pc' := 113) (j := 1) dL_looks_112 rfl rfl rfl ?_
    refine wp_iconst (pc' := 114) (5) dL_looks_113 rfl rfl ?_
    refine wp_iald (pc' := 115) dL_looks_114 hw2 rfl (by decide) (by decide) rfl ?_
    rw [up_s]
    refine wp_iconst (pc' := 116) (1) dL_looks_115 rfl rfl ?_
    refine wp_pure (pc' := 117) dL_looks_116 rfl rfl ?_
    rw [show nI m - 1 = nI (m - 1) from pk_sub (show 1 ≤ m by omega)]
    refine wp_iconst (pc' := 118) (2) dL_looks_117 rfl rfl ?_
    refine wp_s3 10 60 dL_looks_118 ml_L_118 (Nat.le_of_ble_eq_true rfl) (by omega) (by omega) ?_
    refine w_fine hT2 (Nat.le_refl _) (Nat.le_refl _) (σ.1 0) (f_ans (tk_N hT2) (show m - 1 < N1 5 by omega) (w := 2) (by decide) (fv2.trans (m9 hmN).2)) ?_
    refine kt_v ?_
    refine wp_load (pc' := 122) (j := 1) dL_looks_121 rfl rfl rfl ?_
    refine wp_iconst (pc' := 123) (0) dL_looks_122 rfl rfl ?_
    refine wp_iald (pc' := 124) dL_looks_123 hw2 rfl (by decide) (by decide) rfl ?_
    rw [up_n (by decide), g0]
    refine wp_icmpF (pc' := 127) 140 dL_looks_124 rfl rfl (fun z => z rfl) ?_
    refine wp_load (pc' := 128) (j := 0) dL_looks_127 rfl rfl rfl ?_
    refine wp_load (pc' := 130) (j := 4) dL_looks_128 rfl rfl rfl ?_
    refine wp_s2 100 5000 dL_looks_130 ml_L_145 (Nat.le_of_ble_eq_true rfl) (by omega) (by omega) ?_
    refine w_look hT2 (Nat.le_refl _) (Nat.le_refl _) (fun z => absurd (K_lk_0 hrs) z) (fun hK0 j3 hj3 he3 N3 G3 hT3 hF3 hN3 => ?_)
    have ej3 : j3 = rs := ((nI_eq (show rs < 2 ^ 31 by omega) (show j3 < 2 ^ 31 by omega)).1 he3).symm
    rw [ej3, y2, eag] at hT3
    rw [ej3, y2, eag, Int32.sub_self]
    obtain ⟨v1, v2, v3, v4, v5⟩ := cN_eq (tk_N hT1) (tk_N hT3)
    
    refine kt_v ?_
    refine wp_ifF (pc' := 136) 140 dL_looks_133 rfl rfl (fun z => z rfl) ?_
    refine wp_iconst (pc' := 137) (1) dL_looks_136 rfl rfl ?_
    refine wp_goto 141 dL_looks_137 rfl ?_
    refine wp_iret dL_looks_141 rfl rfl ?_
    exact hP _ _ _ (lw_end hk hT3 (xi_N (N := va_up N 5 m) (v2.trans y2) (v3.trans y3) (v4.trans y4) (v5.trans y5) m7) ⟨_, (hF3 ag o1).trans hw2, (up_n (by decide)).trans (g0.trans k5.symm), (up_n (by decide)).trans (g1.trans (by rw [v1, y1])), (up_n (by decide)).trans (g2.trans (by rw [v2, y2])), (up_n (by decide)).trans (g3.trans (by rw [v3, y3])), (up_n (by decide)).trans (g4.trans (by rw [v4, y4])), up_s.trans (by rw [v5, y5])⟩ ⟨_, (hF3 al o2).trans hl2, fun i hi => (ll i (by omega)).trans (by rw [k3])⟩ ⟨_, (hF3 au o3).trans hu2, fun i hi => (uu i (by omega)).trans (by rw [k4])⟩ ⟨_, (hF3 aT o4).trans ht2, fun i hi => (t1 i (by omega)).trans (by rw [k2]), fun i hi h2 => t2 i hi (by omega)⟩)

set_option maxRecDepth 20000 in
set_option maxHeartbeats 2000000 in
theorem l_looks {E : XE} {d0 d mc ms : Nat} {P : Ps} {own : Nat → Nat} {x ag al au aT w : Nat} {σ : MS} {N : Nat → Nat} {G : HP} (hd : d = d0 + 12) (hO : OWN own ag al au aT) (hk9 : w < 60) (hW : LW E own x ag al au aT σ N w G) (hP : ∀ σ' N' G', LW E own x ag al au aT σ' N' (w + 1) G' → P (.inl (some (.int 1))) G') {a : Int32} {rs : Nat} (hrs : rs < 4) : ∀ j k, k + j = N 2 → ∀ (c : Nat), ∀ (n : Nat), ∀ (hc : c + 10 * j + 300 ≤ mc), ∀ (hn : n + 60 * j + 11000 ≤ ms), WX E d (yL_looks, cL_looks, (some .boolean), []) mc ms P 13 [some (.ref x), some (.ref ag), some (.ref aT), some (.int a), some (.int (nI rs)), some (.int (nI (mstF σ (nI rs) k))), some (.int (nI k))] [] G c n
  | 0, k, hk, c, n, hc, hn => by
    subst hd
    obtain ⟨o1, o2, o3, o4, o5, o6, o7, o8, o9, o10⟩ := id hO
    obtain ⟨hT, hX, ⟨g, hg, g0, g1, g2, g3, g4, g5⟩, ⟨l, hl, ll⟩, ⟨u, hu, uu⟩, ⟨t, ht, t1, t2⟩⟩ := id hW
    have hN := tk_N hT
    have hI := tk_I hT
    obtain ⟨n0, n1, n2, n3, n4, n5, e7, e22, e29, e35, e40⟩ := id hN
    obtain rfl : k = N 2 := by omega
    refine wp_load (pc' := 15) (j := 6) dL_looks_13 rfl rfl rfl ?_
    refine wp_load (pc' := 16) (j := 1) dL_looks_15 rfl rfl rfl ?_
    refine wp_iconst (pc' := 17) (2) dL_looks_16 rfl rfl ?_
    refine wp_iald (pc' := 18) dL_looks_17 hg rfl (by decide) (by decide) rfl ?_
    rw [g2]
    refine wp_icmpT 55 dL_looks_18 rfl (cgeT rfl (by omega) (by omega)) ?_
    exact s_look rfl hO hk9 hW hP hrs (by omega) (by omega)
  | j + 1, k, hk, c, n, hc, hn => by
    have ih := l_looks (E := E) (d := d) (mc := mc) (ms := ms) hd hO hk9 hW hP (a := a) hrs j (k + 1) (by omega)
    subst hd
    obtain ⟨o1, o2, o3, o4, o5, o6, o7, o8, o9, o10⟩ := id hO
    obtain ⟨hT, hX, ⟨g, hg, g0, g1, g2, g3, g4, g5⟩, ⟨l, hl, ll⟩, ⟨u, hu, uu⟩, ⟨t, ht, t1, t2⟩⟩ := id hW
    have hN := tk_N hT
    have hI := tk_I hT
    obtain ⟨n0, n1, n2, n3, n4, n5, e7, e22, e29, e35, e40⟩ := id hN
    refine wp_load (pc' := 15) (j := 6) dL_looks_13 rfl rfl rfl ?_
    refine wp_load (pc' := 16) (j := 1) dL_looks_15 rfl rfl rfl ?_
    refine wp_iconst (pc' := 17) (2) dL_looks_16 rfl rfl ?_
    refine wp_iald (pc' := 18) dL_looks_17 hg rfl (by decide) (by decide) rfl ?_
    rw [g2]
    refine wp_icmpF (pc' := 21) 55 dL_looks_18 rfl rfl (cgeF rfl (by omega) (by omega)) ?_
    refine wp_load (pc' := 23) (j := 5) dL_looks_21 rfl rfl rfl ?_
    refine wp_load (pc' := 24) (j := 2) dL_looks_23 rfl rfl rfl ?_
    refine wp_load (pc' := 26) (j := 6) dL_looks_24 rfl rfl rfl ?_
    refine wp_iald (pc' := 27) dL_looks_26 ht rfl (show k < 30 by omega) (by decide) rfl ?_
    rw [t1 k (by omega)]
    refine wp_load (pc' := 29) (j := 4) dL_looks_27 rfl rfl rfl ?_
    refine wp_icmp_ne (pc' := 32) 45 dL_looks_29 rfl rfl (fun h29 => ?_) (fun h29 => ?_)
    · skip
      have em : nI (mstF σ (nI rs) k) + 0 = nI (mstF σ (nI rs) (k + 1)) := by
        rw [mstF, if_neg (fun z => h29 z.1)]
        exact Int32.add_zero _
      refine wp_iconst (pc' := 46) (0) dL_looks_45 rfl rfl ?_
      refine wp_pure (pc' := 47) dL_looks_46 rfl rfl ?_
      refine wp_store (pc' := 49) (j := 5) (ls' := [_, _, _, _, _, _, _]) dL_looks_47 rfl (Nat.le_of_ble_eq_true rfl) rfl rfl ?_
      refine wp_iinc (pc' := 52) (j := 6) (ls' := [_, _, _, _, _, _, _]) (nI (k + 1)) dL_looks_49 rfl (nI_1 k) rfl rfl ?_
      refine wp_goto 13 dL_looks_52 rfl ?_
      rw [em]
      exact ih _ _ (by omega) (by omega)
    · skip
      skip
      refine wp_load (pc' := 33) (j := 0) dL_looks_32 rfl rfl rfl ?_
      refine wp_load (pc' := 35) (j := 6) dL_looks_33 rfl rfl rfl ?_
      refine wp_s2 10 60 dL_looks_35 ml_L_125 (Nat.le_of_ble_eq_true rfl) (by omega) (by omega) ?_
      refine w_judge hT (Nat.le_refl _) (Nat.le_refl _) (judNow σ k) (j_ans hN (show k < N 2 by omega) (if_neg (fun z => nI_nm1 (show rs < 2 ^ 31 by omega) (h29.symm.trans z)))) ?_
      refine kt_v ?_
      refine wp_if_le (pc' := 41) 45 dL_looks_38 rfl rfl (fun h38 => ?_) (fun h38 => ?_)
      · skip
        have em : nI (mstF σ (nI rs) k) + 0 = nI (mstF σ (nI rs) (k + 1)) := by
          rw [mstF, if_neg (fun z => z.2 (jn_0 h38))]
          exact Int32.add_zero _
        refine wp_iconst (pc' := 46) (0) dL_looks_45 rfl rfl ?_
        refine wp_pure (pc' := 47) dL_looks_46 rfl rfl ?_
        refine wp_store (pc' := 49) (j := 5) (ls' := [_, _, _, _, _, _, _]) dL_looks_47 rfl (Nat.le_of_ble_eq_true rfl) rfl rfl ?_
        refine wp_iinc (pc' := 52) (j := 6) (ls' := [_, _, _, _, _, _, _]) (nI (k + 1)) dL_looks_49 rfl (nI_1 k) rfl rfl ?_
        refine wp_goto 13 dL_looks_52 rfl ?_
        rw [em]
        exact ih _ _ (by omega) (by omega)
      · skip
        have em : nI (mstF σ (nI rs) k) + 1 = nI (mstF σ (nI rs) (k + 1)) := by
          rw [mstF, if_pos ⟨h29, fun z => h38 (by rw [z]; decide)⟩]
          exact nI_1 _
        refine wp_iconst (pc' := 42) (1) dL_looks_41 rfl rfl ?_
        refine wp_goto 46 dL_looks_42 rfl ?_
        refine wp_pure (pc' := 47) dL_looks_46 rfl rfl ?_
        refine wp_store (pc' := 49) (j := 5) (ls' := [_, _, _, _, _, _, _]) dL_looks_47 rfl (Nat.le_of_ble_eq_true rfl) rfl rfl ?_
        refine wp_iinc (pc' := 52) (j := 6) (ls' := [_, _, _, _, _, _, _]) (nI (k + 1)) dL_looks_49 rfl (nI_1 k) rfl rfl ?_
        refine wp_goto 13 dL_looks_52 rfl ?_
        rw [em]
        exact ih _ _ (by omega) (by omega)

set_option maxRecDepth 20000 in
set_option maxHeartbeats 2000000 in
theorem t_looks {E : XE} {d mc ms : Nat} {P : Ps} {own : Nat → Nat} {x ag al au aT k : Nat} {σ : MS} {N : Nat → Nat} {G : HP} (hO : OWN own ag al au aT) (hk : k < 60) (hW : LW E own x ag al au aT σ N k G) (hP : ∀ σ' N' G', LW E own x ag al au aT σ' N' (k + 1) G' → P (.inl (some (.int 1))) G') {a : Int32} (hmc : 700 ≤ mc) (hms : 13000 ≤ ms) : Sp E (d + 13) yL_looks mc ms [.ref x, .ref ag, .ref aT, .int a] G P := by
  obtain ⟨o1, o2, o3, o4, o5, o6, o7, o8, o9, o10⟩ := id hO
  obtain ⟨hT, hX, ⟨g, hg, g0, g1, g2, g3, g4, g5⟩, ⟨l, hl, ll⟩, ⟨u, hu, uu⟩, ⟨t, ht, t1, t2⟩⟩ := id hW
  have hN := tk_N hT
  have hI := tk_I hT
  obtain ⟨n0, n1, n2, n3, n4, n5, e7, e22, e29, e35, e40⟩ := id hN
  refine sp_intro bd_L_looks (v1_all rfl) (Nat.le_of_ble_eq_true rfl) ?_
  change WX _ _ _ _ _ _ 0 [some (.ref x), some (.ref ag), some (.ref aT), some (.int a), none, none, none] [] _ 0 0
  refine wp_load (pc' := 1) (j := 3) dL_looks_0 rfl rfl rfl ?_
  refine wp_iconst (pc' := 2) (4) dL_looks_1 rfl rfl ?_
  refine wp_s2 0 0 dL_looks_2 ml_L_104 (Nat.le_of_ble_eq_true rfl) (by omega) (by omega) ?_
  refine w_low _ (n := 4) (by decide) (by decide) (fun rs hrs ers => ?_)
  refine kt_v ?_
  refine wp_store (pc' := 7) (j := 4) (ls' := [_, _, _, _, _, _, _]) dL_looks_5 rfl (Nat.le_of_ble_eq_true rfl) rfl rfl ?_
  refine wp_iconst (pc' := 8) (0) dL_looks_7 rfl rfl ?_
  refine wp_store (pc' := 10) (j := 5) (ls' := [_, _, _, _, _, _, _]) dL_looks_8 rfl (Nat.le_of_ble_eq_true rfl) rfl rfl ?_
  refine wp_iconst (pc' := 11) (0) dL_looks_10 rfl rfl ?_
  refine wp_store (pc' := 13) (j := 6) (ls' := [_, _, _, _, _, _, _]) dL_looks_11 rfl (Nat.le_of_ble_eq_true rfl) rfl rfl ?_
  exact l_looks rfl hO hk hW hP hrs (N 2) 0 (by omega) _ _ (by omega) (by omega)

