/-! the law tells of cars and signs -/
set_option maxRecDepth 20000 in
set_option maxHeartbeats 4000000 in
theorem s_car {E : XE} {d0 d mc ms : Nat} {P : Ps} {own : Nat → Nat} {x ag al au aT k : Nat} {σ : MS} {N : Nat → Nat} {G : HP} (hd : d = d0 + 12) (hO : OWN own ag al au aT) (hk : k < 60) (hW : LW E own x ag al au aT σ N k G) (hP : ∀ σ' N' G', LW E own x ag al au aT σ' N' (k + 1) G' → P (.inl (some (.int 1))) G') {a b : Int32} (hmc : 60 ≤ mc) (hms : 2000 ≤ ms) {z6 z7 z8 z9 : Option Value} : WX E d (yL_tells, cL_tells, (some .boolean), []) mc ms P 21 [some (.ref x), some (.ref ag), some (.ref al), some (.ref au), some (.int a), some (.int b), z6, z7, z8, z9] [] G 0 0 := by
  subst hd
  obtain ⟨o1, o2, o3, o4, o5, o6, o7, o8, o9, o10⟩ := id hO
  obtain ⟨hT, hX, ⟨g, hg, g0, g1, g2, g3, g4, g5⟩, ⟨l, hl, ll⟩, ⟨u, hu, uu⟩, ⟨t, ht, t1, t2⟩⟩ := id hW
  have hN := tk_N hT
  have hI := tk_I hT
  obtain ⟨n0, n1, n2, n3, n4, n5, e7, e22, e29, e35, e40⟩ := id hN
  rcases Nat.lt_or_ge (N 2) 30 with hlt | hge
  · skip
    skip
    refine wp_iconst (pc' := 22) (3) dL_tells_21 rfl rfl ?_
    refine wp_load (pc' := 24) (j := 5) dL_tells_22 rfl rfl rfl ?_
    refine wp_bipush (pc' := 26) (10) dL_tells_24 rfl rfl ?_
    refine wp_s2 0 0 dL_tells_26 ml_L_104 (Nat.le_of_ble_eq_true rfl) (by omega) (by omega) ?_
    refine w_low _ (n := 10) (by decide) (by decide) (fun rl hrl erl => ?_)
    refine kt_v ?_
    refine wp_pure (pc' := 30) dL_tells_29 rfl rfl ?_
    rw [show (3 : Int32) + nI rl = nI (3 + rl) from nI_add 3 rl]
    refine wp_store (pc' := 32) (j := 7) (ls' := [_, _, _, _, _, _, _, _, _, _]) dL_tells_30 rfl (Nat.le_of_ble_eq_true rfl) rfl rfl ?_
    refine wp_load (pc' := 34) (j := 5) dL_tells_32 rfl rfl rfl ?_
    refine wp_iconst (pc' := 35) (4) dL_tells_34 rfl rfl ?_
    refine wp_pure (pc' := 36) dL_tells_35 rfl rfl ?_
    refine wp_iconst (pc' := 37) (5) dL_tells_36 rfl rfl ?_
    refine wp_s2 0 0 dL_tells_37 ml_L_104 (Nat.le_of_ble_eq_true rfl) (by omega) (by omega) ?_
    refine w_low _ (n := 5) (by decide) (by decide) (fun ru hru eru => ?_)
    refine kt_v ?_
    refine wp_store (pc' := 42) (j := 8) (ls' := [_, _, _, _, _, _, _, _, _, _]) dL_tells_40 rfl (Nat.le_of_ble_eq_true rfl) rfl rfl ?_
    refine wp_load (pc' := 43) (j := 0) dL_tells_42 rfl rfl rfl ?_
    refine wp_load (pc' := 45) (j := 7) dL_tells_43 rfl rfl rfl ?_
    refine wp_load (pc' := 47) (j := 8) dL_tells_45 rfl rfl rfl ?_
    refine wp_s3 10 1000 dL_tells_47 ml_L_123 (Nat.le_of_ble_eq_true rfl) (by omega) (by omega) ?_
    refine w_car hT (Nat.le_refl _) (Nat.le_refl _) (fun z => absurd (K_car_0 hN (show 3 ≤ 3 + rl by omega) (by omega) (by omega) hlt) z) (fun hK0 hn G1 hT1 hF1 => ?_)
    refine kt_v ?_
    have hg1 := (hF1 ag o1).trans hg
    have hl1 := (hF1 al o2).trans hl
    have hu1 := (hF1 au o3).trans hu
    have ht1 := (hF1 aT o4).trans ht
    refine wp_store (pc' := 52) (j := 9) (ls' := [_, _, _, _, _, _, _, _, _, _]) dL_tells_50 rfl (Nat.le_of_ble_eq_true rfl) rfl rfl ?_
    refine wp_load (pc' := 53) (j := 1) dL_tells_52 rfl rfl rfl ?_
    refine wp_iconst (pc' := 54) (2) dL_tells_53 rfl rfl ?_
    refine wp_iald (pc' := 55) dL_tells_54 hg1 rfl (by decide) (by decide) rfl ?_
    rw [g2]
    refine wp_bipush (pc' := 57) (30) dL_tells_55 rfl rfl ?_
    refine wp_icmpT 73 dL_tells_57 rfl (fun z => absurd ((nI_eq (show N 2 < 2 ^ 31 by omega) (show 30 < 2 ^ 31 by decide)).1 z) (by omega)) ?_
    refine wp_load (pc' := 74) (j := 2) dL_tells_73 rfl rfl rfl ?_
    refine wp_load (pc' := 75) (j := 1) dL_tells_74 rfl rfl rfl ?_
    refine wp_iconst (pc' := 76) (2) dL_tells_75 rfl rfl ?_
    refine wp_iald (pc' := 77) dL_tells_76 hg1 rfl (by decide) (by decide) rfl ?_
    rw [g2]
    refine wp_load (pc' := 79) (j := 7) dL_tells_77 rfl rfl rfl ?_
    refine wp_iaw (pc' := 80) dL_tells_79 hl1 rfl hlt (by decide) rfl (fun G2 hw2 hr2 => ?_)
    have hg2 := (hr2 ag o5).trans hg1
    have hu2 := (hr2 au o8.symm).trans hu1
    have ht2 := (hr2 aT o9.symm).trans ht1
    have hT2 := tk_put o2 hw2 hr2 hT1
    refine wp_load (pc' := 81) (j := 3) dL_tells_80 rfl rfl rfl ?_
    refine wp_load (pc' := 82) (j := 1) dL_tells_81 rfl rfl rfl ?_
    refine wp_iconst (pc' := 83) (2) dL_tells_82 rfl rfl ?_
    refine wp_iald (pc' := 84) dL_tells_83 hg2 rfl (by decide) (by decide) rfl ?_
    rw [g2]
    refine wp_load (pc' := 86) (j := 8) dL_tells_84 rfl rfl rfl ?_
    refine wp_iaw (pc' := 87) dL_tells_86 hu2 rfl hlt (by decide) rfl (fun G3 hw3 hr3 => ?_)
    have hg3 := (hr3 ag o6).trans hg2
    have hl3 := (hr3 al o8).trans hw2
    have ht3 := (hr3 aT o10.symm).trans ht2
    have hT3 := tk_put o3 hw3 hr3 hT2
    refine wp_load (pc' := 88) (j := 1) dL_tells_87 rfl rfl rfl ?_
    refine wp_iconst (pc' := 89) (2) dL_tells_88 rfl rfl ?_
    refine wp_dup2 (pc' := 90) dL_tells_89 rfl rfl rfl ?_
    refine wp_iald (pc' := 91) dL_tells_90 hg3 rfl (by decide) (by decide) rfl ?_
    rw [g2]
    refine wp_iconst (pc' := 92) (1) dL_tells_91 rfl rfl ?_
    refine wp_pure (pc' := 93) dL_tells_92 rfl rfl ?_
    rw [nI_1]
    refine wp_iaw (pc' := 94) dL_tells_93 hg3 rfl (by decide) (by decide) rfl (fun G4 hw4 hr4 => ?_)
    have hl4 := (hr4 al o5.symm).trans hl3
    have hu4 := (hr4 au o6.symm).trans hw3
    have ht4 := (hr4 aT o7.symm).trans ht3
    have hT4 := tk_put o1 hw4 hr4 hT3
    refine wp_load (pc' := 96) (j := 9) dL_tells_94 rfl rfl rfl ?_
    refine wp_load (pc' := 97) (j := 1) dL_tells_96 rfl rfl rfl ?_
    refine wp_iconst (pc' := 98) (2) dL_tells_97 rfl rfl ?_
    refine wp_iald (pc' := 99) dL_tells_98 hw4 rfl (by decide) (by decide) rfl ?_
    rw [up_s]
    refine wp_iconst (pc' := 100) (1) dL_tells_99 rfl rfl ?_
    refine wp_pure (pc' := 101) dL_tells_100 rfl rfl ?_
    rw [nI_pred]
    refine wp_icmpF (pc' := 104) 139 dL_tells_101 rfl rfl (fun z => z rfl) ?_
    refine wp_load (pc' := 105) (j := 0) dL_tells_104 rfl rfl rfl ?_
    refine wp_load (pc' := 107) (j := 9) dL_tells_105 rfl rfl rfl ?_
    refine wp_s2 10 60 dL_tells_107 ml_L_125 (Nat.le_of_ble_eq_true rfl) (by omega) (by omega) ?_
    refine w_judge hT4 (Nat.le_refl _) (Nat.le_refl _) (-1) (j_ans (tk_N hT4) (Nat.lt_succ_self _) (if_pos (show (carF σ (N 2) (nI (3 + rl)) (nI ru)).2.1 25 (N 2) = -1 from up_s))) ?_
    refine kt_v ?_
    refine wp_iconst (pc' := 111) (-1) dL_tells_110 rfl rfl ?_
    refine wp_icmpF (pc' := 114) 139 dL_tells_111 rfl rfl (cmpF rfl) ?_
    refine wp_load (pc' := 115) (j := 0) dL_tells_114 rfl rfl rfl ?_
    refine wp_load (pc' := 117) (j := 9) dL_tells_115 rfl rfl rfl ?_
    refine wp_iconst (pc' := 118) (0) dL_tells_117 rfl rfl ?_
    refine wp_s3 10 60 dL_tells_118 ml_L_127 (Nat.le_of_ble_eq_true rfl) (by omega) (by omega) ?_
    refine w_countsAs hT4 (Nat.le_refl _) (Nat.le_refl _) (if nI ru = 0 then 4 else nI ru) (c_ans (tk_N hT4) (Nat.lt_succ_self _) (a := 0) (by decide) (cs_new hX n2)) ?_
    refine kt_v ?_
    refine wp_load (pc' := 123) (j := 8) dL_tells_121 rfl rfl rfl ?_
    refine wp_if_ne (pc' := 126) 130 dL_tells_123 rfl rfl (fun h123 => ?_) (fun h123 => ?_)
    · skip
      skip
      refine wp_load (pc' := 132) (j := 8) dL_tells_130 rfl rfl rfl ?_
      refine wp_icmpF (pc' := 135) 139 dL_tells_132 rfl rfl (fun z => z (by first | exact if_neg h123 | exact if_pos h123)) ?_
      refine wp_iconst (pc' := 136) (1) dL_tells_135 rfl rfl ?_
      refine wp_goto 140 dL_tells_136 rfl ?_
      refine wp_iret dL_tells_140 rfl rfl ?_
      exact hP _ _ _ (lw_end hk hT4 (xi_car hX) ⟨_, hw4, (up_n (by decide)).trans g0, (up_n (by decide)).trans g1, up_s, (up_n (by decide)).trans g3, (up_n (by decide)).trans g4, (up_n (by decide)).trans g5⟩ ⟨_, hl4, la_up ll⟩ ⟨_, hu4, la_up uu⟩ ⟨_, ht4, ta_up t1 (t2 (N 2) hlt (Nat.le_refl _)), fun i hi h2 => t2 i hi (Nat.le_of_succ_le h2)⟩)
    · skip
      skip
      refine wp_iconst (pc' := 127) (4) dL_tells_126 rfl rfl ?_
      refine wp_goto 132 dL_tells_127 rfl ?_
      refine wp_icmpF (pc' := 135) 139 dL_tells_132 rfl rfl (fun z => z (by first | exact if_neg h123 | exact if_pos h123)) ?_
      refine wp_iconst (pc' := 136) (1) dL_tells_135 rfl rfl ?_
      refine wp_goto 140 dL_tells_136 rfl ?_
      refine wp_iret dL_tells_140 rfl rfl ?_
      exact hP _ _ _ (lw_end hk hT4 (xi_car hX) ⟨_, hw4, (up_n (by decide)).trans g0, (up_n (by decide)).trans g1, up_s, (up_n (by decide)).trans g3, (up_n (by decide)).trans g4, (up_n (by decide)).trans g5⟩ ⟨_, hl4, la_up ll⟩ ⟨_, hu4, la_up uu⟩ ⟨_, ht4, ta_up t1 (t2 (N 2) hlt (Nat.le_refl _)), fun i hi h2 => t2 i hi (Nat.le_of_succ_le h2)⟩)
  · skip
    have h30 : N 2 = 30 := by omega
    refine wp_iconst (pc' := 22) (3) dL_tells_21 rfl rfl ?_
    refine wp_load (pc' := 24) (j := 5) dL_tells_22 rfl rfl rfl ?_
    refine wp_bipush (pc' := 26) (10) dL_tells_24 rfl rfl ?_
    refine wp_s2 0 0 dL_tells_26 ml_L_104 (Nat.le_of_ble_eq_true rfl) (by omega) (by omega) ?_
    refine w_low _ (n := 10) (by decide) (by decide) (fun rl hrl erl => ?_)
    refine kt_v ?_
    refine wp_pure (pc' := 30) dL_tells_29 rfl rfl ?_
    rw [show (3 : Int32) + nI rl = nI (3 + rl) from nI_add 3 rl]
    refine wp_store (pc' := 32) (j := 7) (ls' := [_, _, _, _, _, _, _, _, _, _]) dL_tells_30 rfl (Nat.le_of_ble_eq_true rfl) rfl rfl ?_
    refine wp_load (pc' := 34) (j := 5) dL_tells_32 rfl rfl rfl ?_
    refine wp_iconst (pc' := 35) (4) dL_tells_34 rfl rfl ?_
    refine wp_pure (pc' := 36) dL_tells_35 rfl rfl ?_
    refine wp_iconst (pc' := 37) (5) dL_tells_36 rfl rfl ?_
    refine wp_s2 0 0 dL_tells_37 ml_L_104 (Nat.le_of_ble_eq_true rfl) (by omega) (by omega) ?_
    refine w_low _ (n := 5) (by decide) (by decide) (fun ru hru eru => ?_)
    refine kt_v ?_
    refine wp_store (pc' := 42) (j := 8) (ls' := [_, _, _, _, _, _, _, _, _, _]) dL_tells_40 rfl (Nat.le_of_ble_eq_true rfl) rfl rfl ?_
    refine wp_load (pc' := 43) (j := 0) dL_tells_42 rfl rfl rfl ?_
    refine wp_load (pc' := 45) (j := 7) dL_tells_43 rfl rfl rfl ?_
    refine wp_load (pc' := 47) (j := 8) dL_tells_45 rfl rfl rfl ?_
    refine wp_s3 10 1000 dL_tells_47 ml_L_123 (Nat.le_of_ble_eq_true rfl) (by omega) (by omega) ?_
    refine w_car hT (Nat.le_refl _) (Nat.le_refl _) (fun z => ?_) (fun z => absurd (z.symm.trans (K_car_2 hN (show 3 ≤ 3 + rl by omega) (by omega) (by omega) h30)) (by decide))
    rw [rsP_2 (K_car_2 hN (show 3 ≤ 3 + rl by omega) (by omega) (by omega) h30)]
    refine kt_v ?_
    refine wp_store (pc' := 52) (j := 9) (ls' := [_, _, _, _, _, _, _, _, _, _]) dL_tells_50 rfl (Nat.le_of_ble_eq_true rfl) rfl rfl ?_
    refine wp_load (pc' := 53) (j := 1) dL_tells_52 rfl rfl rfl ?_
    refine wp_iconst (pc' := 54) (2) dL_tells_53 rfl rfl ?_
    refine wp_iald (pc' := 55) dL_tells_54 hg rfl (by decide) (by decide) rfl ?_
    rw [g2]
    refine wp_bipush (pc' := 57) (30) dL_tells_55 rfl rfl ?_
    refine wp_icmpF (pc' := 60) 73 dL_tells_57 rfl rfl (fun z => z (by rw [h30]; rfl)) ?_
    refine wp_load (pc' := 62) (j := 9) dL_tells_60 rfl rfl rfl ?_
    refine wp_ldc (pc' := 64) dL_tells_62 kw_L_36 rfl ?_
    refine wp_icmpF (pc' := 67) 71 dL_tells_64 rfl rfl (cmpF rfl) ?_
    refine wp_iconst (pc' := 68) (1) dL_tells_67 rfl rfl ?_
    refine wp_goto 72 dL_tells_68 rfl ?_
    refine wp_iret dL_tells_72 rfl rfl ?_
    exact hP _ _ _ (lw_up hk hW)

set_option maxRecDepth 20000 in
set_option maxHeartbeats 4000000 in
theorem s_sign2 {E : XE} {d0 d mc ms : Nat} {P : Ps} {own : Nat → Nat} {x ag al au aT k : Nat} {σ : MS} {N : Nat → Nat} {G : HP} (hd : d = d0 + 12) (hO : OWN own ag al au aT) (hk : k < 60) (hW : LW E own x ag al au aT σ N k G) (hP : ∀ σ' N' G', LW E own x ag al au aT σ' N' (k + 1) G' → P (.inl (some (.int 1))) G') {a b : Int32} (hmc : 60 ≤ mc) (hms : 2000 ≤ ms) {z6 z9 : Option Value} {rf rt rs rv ry : Nat} {fee tmp : Bool} (hrf : rf < 60) (hrt : rt < 60) (hrs : rs < 4) (hrv : rv < 32) (hry : ry < 10) : WX E d (yL_tells, cL_tells, (some .boolean), []) mc ms P 235 [some (.ref x), some (.ref ag), some (.ref al), some (.ref au), some (.int a), some (.int b), z6, some (.int (nI rf)), some (.int (nI rt)), z9] [.int (b2i tmp), .int (b2i fee), .int (nI ry), .int (nI rv), .int (nI rt), .int (nI rf), .int (nI rs), .ref x] G 0 0 := by
  subst hd
  obtain ⟨o1, o2, o3, o4, o5, o6, o7, o8, o9, o10⟩ := id hO
  obtain ⟨hT, hX, ⟨g, hg, g0, g1, g2, g3, g4, g5⟩, ⟨l, hl, ll⟩, ⟨u, hu, uu⟩, ⟨t, ht, t1, t2⟩⟩ := id hW
  have hN := tk_N hT
  have hI := tk_I hT
  obtain ⟨n0, n1, n2, n3, n4, n5, e7, e22, e29, e35, e40⟩ := id hN
  rcases Nat.lt_or_ge rt rf with hA | hA
  rotate_left
  rcases Nat.lt_or_ge (N 1) 30 with hB | hB
  · skip
    skip
    refine wp_s8 10 1000 dL_tells_235 ml_L_129 (Nat.le_of_ble_eq_true rfl) (by omega) (by omega) ?_
    refine w_sign hT (Nat.le_refl _) (Nat.le_refl _) (fun z => absurd (K_sg_0 hN hrs hrf hrt hrv hry hA hB) z) (fun hK0 hn G1 hT1 hF1 => ?_)
    refine kt_v ?_
    have hg1 := (hF1 ag o1).trans hg
    have hl1 := (hF1 al o2).trans hl
    have hu1 := (hF1 au o3).trans hu
    have ht1 := (hF1 aT o4).trans ht
    refine wp_store (pc' := 240) (j := 9) (ls' := [_, _, _, _, _, _, _, _, _, _]) dL_tells_238 rfl (Nat.le_of_ble_eq_true rfl) rfl rfl ?_
    refine wp_load (pc' := 242) (j := 7) dL_tells_240 rfl rfl rfl ?_
    refine wp_load (pc' := 244) (j := 8) dL_tells_242 rfl rfl rfl ?_
    refine wp_icmpF (pc' := 247) 255 dL_tells_244 rfl rfl (nI_nlt hA (by omega)) ?_
    refine wp_load (pc' := 248) (j := 1) dL_tells_247 rfl rfl rfl ?_
    refine wp_iconst (pc' := 249) (1) dL_tells_248 rfl rfl ?_
    refine wp_iald (pc' := 250) dL_tells_249 hg1 rfl (by decide) (by decide) rfl ?_
    rw [g1]
    refine wp_bipush (pc' := 252) (30) dL_tells_250 rfl rfl ?_
    refine wp_icmpT 280 dL_tells_252 rfl (fun z => absurd ((nI_eq (show N 1 < 2 ^ 31 by omega) (show 30 < 2 ^ 31 by decide)).1 z) (by omega)) ?_
    refine wp_load (pc' := 281) (j := 1) dL_tells_280 rfl rfl rfl ?_
    refine wp_iconst (pc' := 282) (1) dL_tells_281 rfl rfl ?_
    refine wp_dup2 (pc' := 283) dL_tells_282 rfl rfl rfl ?_
    refine wp_iald (pc' := 284) dL_tells_283 hg1 rfl (by decide) (by decide) rfl ?_
    rw [g1]
    refine wp_iconst (pc' := 285) (1) dL_tells_284 rfl rfl ?_
    refine wp_pure (pc' := 286) dL_tells_285 rfl rfl ?_
    rw [nI_1]
    refine wp_iaw (pc' := 287) dL_tells_286 hg1 rfl (by decide) (by decide) rfl (fun G2 hw2 hr2 => ?_)
    have hl2 := (hr2 al o5.symm).trans hl1
    have hu2 := (hr2 au o6.symm).trans hu1
    have ht2 := (hr2 aT o7.symm).trans ht1
    have hT2 := tk_put o1 hw2 hr2 hT1
    refine wp_load (pc' := 289) (j := 9) dL_tells_287 rfl rfl rfl ?_
    refine wp_load (pc' := 290) (j := 1) dL_tells_289 rfl rfl rfl ?_
    refine wp_iconst (pc' := 291) (1) dL_tells_290 rfl rfl ?_
    refine wp_iald (pc' := 292) dL_tells_291 hw2 rfl (by decide) (by decide) rfl ?_
    rw [up_s]
    refine wp_iconst (pc' := 293) (1) dL_tells_292 rfl rfl ?_
    refine wp_pure (pc' := 294) dL_tells_293 rfl rfl ?_
    rw [nI_pred]
    refine wp_icmpF (pc' := 297) 301 dL_tells_294 rfl rfl (fun z => z rfl) ?_
    refine wp_iconst (pc' := 298) (1) dL_tells_297 rfl rfl ?_
    refine wp_goto 302 dL_tells_298 rfl ?_
    refine wp_iret dL_tells_302 rfl rfl ?_
    exact hP _ _ _ (lw_end hk hT2 (xi_sgn hX) ⟨_, hw2, (up_n (by decide)).trans g0, up_s, (up_n (by decide)).trans g2, (up_n (by decide)).trans g3, (up_n (by decide)).trans g4, (up_n (by decide)).trans g5⟩ ⟨_, hl2, ll⟩ ⟨_, hu2, uu⟩ ⟨_, ht2, t1, t2⟩)
  · skip
    skip
    refine wp_s8 10 1000 dL_tells_235 ml_L_129 (Nat.le_of_ble_eq_true rfl) (by omega) (by omega) ?_
    refine w_sign hT (Nat.le_refl _) (Nat.le_refl _) (fun z => ?_) (fun z => absurd (z.symm.trans (K_sg_3 hN hrs hrf hrt hrv hry hA hB)) (by decide))
    rw [rsO_3 (K_sg_3 hN hrs hrf hrt hrv hry hA hB)]
    refine kt_v ?_
    refine wp_store (pc' := 240) (j := 9) (ls' := [_, _, _, _, _, _, _, _, _, _]) dL_tells_238 rfl (Nat.le_of_ble_eq_true rfl) rfl rfl ?_
    refine wp_load (pc' := 242) (j := 7) dL_tells_240 rfl rfl rfl ?_
    refine wp_load (pc' := 244) (j := 8) dL_tells_242 rfl rfl rfl ?_
    refine wp_icmpF (pc' := 247) 255 dL_tells_244 rfl rfl (nI_nlt hA (by omega)) ?_
    refine wp_load (pc' := 248) (j := 1) dL_tells_247 rfl rfl rfl ?_
    refine wp_iconst (pc' := 249) (1) dL_tells_248 rfl rfl ?_
    refine wp_iald (pc' := 250) dL_tells_249 hg rfl (by decide) (by decide) rfl ?_
    rw [g1]
    refine wp_bipush (pc' := 252) (30) dL_tells_250 rfl rfl ?_
    refine wp_icmpF (pc' := 255) 280 dL_tells_252 rfl rfl (fun z => z (by rw [show N 1 = 30 by omega]; rfl)) ?_
    refine wp_load (pc' := 257) (j := 9) dL_tells_255 rfl rfl rfl ?_
    refine wp_load (pc' := 259) (j := 7) dL_tells_257 rfl rfl rfl ?_
    refine wp_load (pc' := 261) (j := 8) dL_tells_259 rfl rfl rfl ?_
    refine wp_icmpT 269 dL_tells_261 rfl (nI_le hA (by omega)) ?_
    refine wp_ldc (pc' := 271) dL_tells_269 kw_L_36 rfl ?_
    refine wp_icmpF (pc' := 274) 278 dL_tells_271 rfl rfl (cmpF rfl) ?_
    refine wp_iconst (pc' := 275) (1) dL_tells_274 rfl rfl ?_
    refine wp_goto 279 dL_tells_275 rfl ?_
    refine wp_iret dL_tells_279 rfl rfl ?_
    exact hP _ _ _ (lw_up hk hW)
  · skip
    skip
    refine wp_s8 10 1000 dL_tells_235 ml_L_129 (Nat.le_of_ble_eq_true rfl) (by omega) (by omega) ?_
    refine w_sign hT (Nat.le_refl _) (Nat.le_refl _) (fun z => ?_) (fun z => absurd (z.symm.trans (K_sg_2 hN hrs hrf hrt hrv hry hA)) (by decide))
    rw [rsO_2 (K_sg_2 hN hrs hrf hrt hrv hry hA)]
    refine kt_v ?_
    refine wp_store (pc' := 240) (j := 9) (ls' := [_, _, _, _, _, _, _, _, _, _]) dL_tells_238 rfl (Nat.le_of_ble_eq_true rfl) rfl rfl ?_
    refine wp_load (pc' := 242) (j := 7) dL_tells_240 rfl rfl rfl ?_
    refine wp_load (pc' := 244) (j := 8) dL_tells_242 rfl rfl rfl ?_
    refine wp_icmpT 255 dL_tells_244 rfl (nI_lt hA (by omega)) ?_
    refine wp_load (pc' := 257) (j := 9) dL_tells_255 rfl rfl rfl ?_
    refine wp_load (pc' := 259) (j := 7) dL_tells_257 rfl rfl rfl ?_
    refine wp_load (pc' := 261) (j := 8) dL_tells_259 rfl rfl rfl ?_
    refine wp_icmpF (pc' := 264) 269 dL_tells_261 rfl rfl (nI_ge hA (by omega)) ?_
    refine wp_ldc (pc' := 266) dL_tells_264 kw_L_25 rfl ?_
    refine wp_goto 271 dL_tells_266 rfl ?_
    refine wp_icmpF (pc' := 274) 278 dL_tells_271 rfl rfl (cmpF rfl) ?_
    refine wp_iconst (pc' := 275) (1) dL_tells_274 rfl rfl ?_
    refine wp_goto 279 dL_tells_275 rfl ?_
    refine wp_iret dL_tells_279 rfl rfl ?_
    exact hP _ _ _ (lw_up hk hW)

set_option maxRecDepth 20000 in
set_option maxHeartbeats 4000000 in
theorem s_sign {E : XE} {d0 d mc ms : Nat} {P : Ps} {own : Nat → Nat} {x ag al au aT k : Nat} {σ : MS} {N : Nat → Nat} {G : HP} (hd : d = d0 + 12) (hO : OWN own ag al au aT) (hk : k < 60) (hW : LW E own x ag al au aT σ N k G) (hP : ∀ σ' N' G', LW E own x ag al au aT σ' N' (k + 1) G' → P (.inl (some (.int 1))) G') {a b : Int32} (hmc : 60 ≤ mc) (hms : 2000 ≤ ms) {z6 z7 z8 z9 : Option Value} : WX E d (yL_tells, cL_tells, (some .boolean), []) mc ms P 147 [some (.ref x), some (.ref ag), some (.ref al), some (.ref au), some (.int a), some (.int b), z6, z7, z8, z9] [] G 0 0 := by
  subst hd
  refine wp_load (pc' := 149) (j := 5) dL_tells_147 rfl rfl rfl ?_
  refine wp_bipush (pc' := 151) (60) dL_tells_149 rfl rfl ?_
  refine wp_s2 0 0 dL_tells_151 ml_L_104 (Nat.le_of_ble_eq_true rfl) (by omega) (by omega) ?_
  refine w_low _ (n := 60) (by decide) (by decide) (fun rf hrf erf => ?_)
  refine kt_v ?_
  refine wp_store (pc' := 156) (j := 7) (ls' := [_, _, _, _, _, _, _, _, _, _]) dL_tells_154 rfl (Nat.le_of_ble_eq_true rfl) rfl rfl ?_
  refine wp_load (pc' := 158) (j := 5) dL_tells_156 rfl rfl rfl ?_
  refine wp_bipush (pc' := 160) (6) dL_tells_158 rfl rfl ?_
  refine wp_pure (pc' := 161) dL_tells_160 rfl rfl ?_
  refine wp_bipush (pc' := 163) (60) dL_tells_161 rfl rfl ?_
  refine wp_s2 0 0 dL_tells_163 ml_L_104 (Nat.le_of_ble_eq_true rfl) (by omega) (by omega) ?_
  refine w_low _ (n := 60) (by decide) (by decide) (fun rt hrt ert => ?_)
  refine kt_v ?_
  refine wp_store (pc' := 168) (j := 8) (ls' := [_, _, _, _, _, _, _, _, _, _]) dL_tells_166 rfl (Nat.le_of_ble_eq_true rfl) rfl rfl ?_
  refine wp_load (pc' := 169) (j := 0) dL_tells_168 rfl rfl rfl ?_
  refine wp_load (pc' := 171) (j := 4) dL_tells_169 rfl rfl rfl ?_
  refine wp_iconst (pc' := 172) (3) dL_tells_171 rfl rfl ?_
  refine wp_pure (pc' := 173) dL_tells_172 rfl rfl ?_
  refine wp_iconst (pc' := 174) (4) dL_tells_173 rfl rfl ?_
  refine wp_s2 0 0 dL_tells_174 ml_L_104 (Nat.le_of_ble_eq_true rfl) (by omega) (by omega) ?_
  refine w_low _ (n := 4) (by decide) (by decide) (fun rs hrs ers => ?_)
  refine kt_v ?_
  refine wp_load (pc' := 179) (j := 7) dL_tells_177 rfl rfl rfl ?_
  refine wp_load (pc' := 181) (j := 8) dL_tells_179 rfl rfl rfl ?_
  refine wp_load (pc' := 183) (j := 5) dL_tells_181 rfl rfl rfl ?_
  refine wp_bipush (pc' := 185) (12) dL_tells_183 rfl rfl ?_
  refine wp_pure (pc' := 186) dL_tells_185 rfl rfl ?_
  refine wp_bipush (pc' := 188) (32) dL_tells_186 rfl rfl ?_
  refine wp_s2 0 0 dL_tells_188 ml_L_104 (Nat.le_of_ble_eq_true rfl) (by omega) (by omega) ?_
  refine w_low _ (n := 32) (by decide) (by decide) (fun rv hrv erv => ?_)
  refine kt_v ?_
  refine wp_load (pc' := 193) (j := 5) dL_tells_191 rfl rfl rfl ?_
  refine wp_bipush (pc' := 195) (17) dL_tells_193 rfl rfl ?_
  refine wp_pure (pc' := 196) dL_tells_195 rfl rfl ?_
  refine wp_bipush (pc' := 198) (10) dL_tells_196 rfl rfl ?_
  refine wp_s2 0 0 dL_tells_198 ml_L_104 (Nat.le_of_ble_eq_true rfl) (by omega) (by omega) ?_
  refine w_low _ (n := 10) (by decide) (by decide) (fun ry hry ery => ?_)
  refine kt_v ?_
  refine wp_load (pc' := 203) (j := 5) dL_tells_201 rfl rfl rfl ?_
  refine wp_bipush (pc' := 205) (21) dL_tells_203 rfl rfl ?_
  refine wp_pure (pc' := 206) dL_tells_205 rfl rfl ?_
  refine wp_iconst (pc' := 207) (1) dL_tells_206 rfl rfl ?_
  refine wp_pure (pc' := 208) dL_tells_207 rfl rfl ?_
  refine wp_iconst (pc' := 209) (1) dL_tells_208 rfl rfl ?_
  refine wp_icmp_ne (pc' := 212) 216 dL_tells_209 rfl rfl (fun h209 => ?_) (fun h209 => ?_)
  · skip
    refine wp_iconst (pc' := 217) (0) dL_tells_216 rfl rfl ?_
    refine wp_load (pc' := 219) (j := 5) dL_tells_217 rfl rfl rfl ?_
    refine wp_bipush (pc' := 221) (22) dL_tells_219 rfl rfl ?_
    refine wp_pure (pc' := 222) dL_tells_221 rfl rfl ?_
    refine wp_bipush (pc' := 224) (6) dL_tells_222 rfl rfl ?_
    refine wp_s2 0 0 dL_tells_224 ml_L_104 (Nat.le_of_ble_eq_true rfl) (by omega) (by omega) ?_
    refine w_low _ (n := 6) (by decide) (by decide) (fun rm hrm erm => ?_)
    refine kt_v ?_
    refine wp_if_ne (pc' := 230) 234 dL_tells_227 rfl rfl (fun h227 => ?_) (fun h227 => ?_)
    · skip
      refine wp_iconst (pc' := 235) (0) dL_tells_234 rfl rfl ?_
      first
        | exact s_sign2 rfl (fee := true) (tmp := true) hO hk hW hP hmc hms hrf hrt hrs hrv hry
        | exact s_sign2 rfl (fee := true) (tmp := false) hO hk hW hP hmc hms hrf hrt hrs hrv hry
        | exact s_sign2 rfl (fee := false) (tmp := true) hO hk hW hP hmc hms hrf hrt hrs hrv hry
        | exact s_sign2 rfl (fee := false) (tmp := false) hO hk hW hP hmc hms hrf hrt hrs hrv hry
    · skip
      refine wp_iconst (pc' := 231) (1) dL_tells_230 rfl rfl ?_
      refine wp_goto 235 dL_tells_231 rfl ?_
      first
        | exact s_sign2 rfl (fee := true) (tmp := true) hO hk hW hP hmc hms hrf hrt hrs hrv hry
        | exact s_sign2 rfl (fee := true) (tmp := false) hO hk hW hP hmc hms hrf hrt hrs hrv hry
        | exact s_sign2 rfl (fee := false) (tmp := true) hO hk hW hP hmc hms hrf hrt hrs hrv hry
        | exact s_sign2 rfl (fee := false) (tmp := false) hO hk hW hP hmc hms hrf hrt hrs hrv hry
  · skip
    refine wp_iconst (pc' := 213) (1) dL_tells_212 rfl rfl ?_
    refine wp_goto 217 dL_tells_213 rfl ?_
    refine wp_load (pc' := 219) (j := 5) dL_tells_217 rfl rfl rfl ?_
    refine wp_bipush (pc' := 221) (22) dL_tells_219 rfl rfl ?_
    refine wp_pure (pc' := 222) dL_tells_221 rfl rfl ?_
    refine wp_bipush (pc' := 224) (6) dL_tells_222 rfl rfl ?_
    refine wp_s2 0 0 dL_tells_224 ml_L_104 (Nat.le_of_ble_eq_true rfl) (by omega) (by omega) ?_
    refine w_low _ (n := 6) (by decide) (by decide) (fun rm hrm erm => ?_)
    refine kt_v ?_
    refine wp_if_ne (pc' := 230) 234 dL_tells_227 rfl rfl (fun h227 => ?_) (fun h227 => ?_)
    · skip
      refine wp_iconst (pc' := 235) (0) dL_tells_234 rfl rfl ?_
      first
        | exact s_sign2 rfl (fee := true) (tmp := true) hO hk hW hP hmc hms hrf hrt hrs hrv hry
        | exact s_sign2 rfl (fee := true) (tmp := false) hO hk hW hP hmc hms hrf hrt hrs hrv hry
        | exact s_sign2 rfl (fee := false) (tmp := true) hO hk hW hP hmc hms hrf hrt hrs hrv hry
        | exact s_sign2 rfl (fee := false) (tmp := false) hO hk hW hP hmc hms hrf hrt hrs hrv hry
    · skip
      refine wp_iconst (pc' := 231) (1) dL_tells_230 rfl rfl ?_
      refine wp_goto 235 dL_tells_231 rfl ?_
      first
        | exact s_sign2 rfl (fee := true) (tmp := true) hO hk hW hP hmc hms hrf hrt hrs hrv hry
        | exact s_sign2 rfl (fee := true) (tmp := false) hO hk hW hP hmc hms hrf hrt hrs hrv hry
        | exact s_sign2 rfl (fee := false) (tmp := true) hO hk hW hP hmc hms hrf hrt hrs hrv hry
        | exact s_sign2 rfl (fee := false) (tmp := false) hO hk hW hP hmc hms hrf hrt hrs hrv hry

set_option maxRecDepth 20000 in
set_option maxHeartbeats 4000000 in
theorem s_when {E : XE} {d0 d mc ms : Nat} {P : Ps} {own : Nat → Nat} {x ag al au aT k : Nat} {σ : MS} {N : Nat → Nat} {G : HP} (hd : d = d0 + 12) (hO : OWN own ag al au aT) (hk : k < 60) (hW : LW E own x ag al au aT σ N k G) (hP : ∀ σ' N' G', LW E own x ag al au aT σ' N' (k + 1) G' → P (.inl (some (.int 1))) G') {a b : Int32} (hmc : 60 ≤ mc) (hms : 2000 ≤ ms) {z6 z7 z8 z9 : Option Value} : WX E d (yL_tells, cL_tells, (some .boolean), []) mc ms P 303 [some (.ref x), some (.ref ag), some (.ref al), some (.ref au), some (.int a), some (.int b), z6, z7, z8, z9] [] G 0 0 := by
  subst hd
  obtain ⟨o1, o2, o3, o4, o5, o6, o7, o8, o9, o10⟩ := id hO
  obtain ⟨hT, hX, ⟨g, hg, g0, g1, g2, g3, g4, g5⟩, ⟨l, hl, ll⟩, ⟨u, hu, uu⟩, ⟨t, ht, t1, t2⟩⟩ := id hW
  have hN := tk_N hT
  have hI := tk_I hT
  obtain ⟨n0, n1, n2, n3, n4, n5, e7, e22, e29, e35, e40⟩ := id hN
  refine wp_load (pc' := 305) (j := 5) dL_tells_303 rfl rfl rfl ?_
  refine wp_iconst (pc' := 306) (2) dL_tells_305 rfl rfl ?_
  refine wp_s2 0 0 dL_tells_306 ml_L_104 (Nat.le_of_ble_eq_true rfl) (by omega) (by omega) ?_
  refine w_low _ (n := 2) (by decide) (by decide) (fun rz hrz erz => ?_)
  refine kt_v ?_
  refine wp_if_ne (pc' := 312) 361 dL_tells_309 rfl rfl (fun h309 => ?_) (fun h309 => ?_)
  · skip
    refine wp_load (pc' := 362) (j := 0) dL_tells_361 rfl rfl rfl ?_
    refine wp_load (pc' := 364) (j := 5) dL_tells_362 rfl rfl rfl ?_
    refine wp_iconst (pc' := 365) (1) dL_tells_364 rfl rfl ?_
    refine wp_pure (pc' := 366) dL_tells_365 rfl rfl ?_
    refine wp_bipush (pc' := 368) (20) dL_tells_366 rfl rfl ?_
    refine wp_s2 0 0 dL_tells_368 ml_L_104 (Nat.le_of_ble_eq_true rfl) (by omega) (by omega) ?_
    refine w_low _ (n := 20) (by decide) (by decide) (fun rp hrp erp => ?_)
    refine kt_v ?_
    refine wp_bipush (pc' := 373) (20) dL_tells_371 rfl rfl ?_
    refine wp_load (pc' := 375) (j := 5) dL_tells_373 rfl rfl rfl ?_
    refine wp_bipush (pc' := 377) (6) dL_tells_375 rfl rfl ?_
    refine wp_pure (pc' := 378) dL_tells_377 rfl rfl ?_
    refine wp_bipush (pc' := 380) (40) dL_tells_378 rfl rfl ?_
    refine wp_s2 0 0 dL_tells_380 ml_L_104 (Nat.le_of_ble_eq_true rfl) (by omega) (by omega) ?_
    refine w_low _ (n := 40) (by decide) (by decide) (fun rq hrq erq => ?_)
    refine kt_v ?_
    refine wp_pure (pc' := 384) dL_tells_383 rfl rfl ?_
    rw [show (20 : Int32) + nI rq = nI (20 + rq) from nI_add 20 rq]
    refine wp_s3 10 1000 dL_tells_384 ml_L_134 (Nat.le_of_ble_eq_true rfl) (by omega) (by omega) ?_
    refine w_dates hT (Nat.le_refl _) (Nat.le_refl _) (fun z => absurd (K_da_0 (show rp ≤ 20 + rq by omega) (by omega)) z) (fun hK0 G1 hT1 hF1 => ?_)
    refine kt_v ?_
    have hg1 := (hF1 ag o1).trans hg
    have hl1 := (hF1 al o2).trans hl
    have hu1 := (hF1 au o3).trans hu
    have ht1 := (hF1 aT o4).trans ht
    refine wp_ifF (pc' := 390) 394 dL_tells_387 rfl rfl (cmpF rfl) ?_
    refine wp_iconst (pc' := 391) (1) dL_tells_390 rfl rfl ?_
    refine wp_goto 395 dL_tells_391 rfl ?_
    refine wp_iret dL_tells_395 rfl rfl ?_
    first
      | exact hP _ _ _ (lw_end hk hT1 (xi_times hX) ⟨_, hg1, g0, g1, g2, g3, g4, g5⟩ ⟨_, hl1, ll⟩ ⟨_, hu1, uu⟩ ⟨_, ht1, t1, t2⟩)
      | exact hP _ _ _ (lw_end hk hT1 (xi_dates hX) ⟨_, hg1, g0, g1, g2, g3, g4, g5⟩ ⟨_, hl1, ll⟩ ⟨_, hu1, uu⟩ ⟨_, ht1, t1, t2⟩)
  · skip
    refine wp_load (pc' := 313) (j := 0) dL_tells_312 rfl rfl rfl ?_
    refine wp_iconst (pc' := 314) (1) dL_tells_313 rfl rfl ?_
    refine wp_load (pc' := 316) (j := 5) dL_tells_314 rfl rfl rfl ?_
    refine wp_iconst (pc' := 317) (1) dL_tells_316 rfl rfl ?_
    refine wp_pure (pc' := 318) dL_tells_317 rfl rfl ?_
    refine wp_bipush (pc' := 320) (127) dL_tells_318 rfl rfl ?_
    refine wp_s2 0 0 dL_tells_320 ml_L_104 (Nat.le_of_ble_eq_true rfl) (by omega) (by omega) ?_
    refine w_low _ (n := 127) (by decide) (by decide) (fun rp hrp erp => ?_)
    refine kt_v ?_
    refine wp_pure (pc' := 324) dL_tells_323 rfl rfl ?_
    rw [show (1 : Int32) + nI rp = nI (1 + rp) from nI_add 1 rp]
    refine wp_load (pc' := 326) (j := 5) dL_tells_324 rfl rfl rfl ?_
    refine wp_bipush (pc' := 328) (8) dL_tells_326 rfl rfl ?_
    refine wp_pure (pc' := 329) dL_tells_328 rfl rfl ?_
    refine wp_bipush (pc' := 331) (48) dL_tells_329 rfl rfl ?_
    refine wp_s2 0 0 dL_tells_331 ml_L_104 (Nat.le_of_ble_eq_true rfl) (by omega) (by omega) ?_
    refine w_low _ (n := 48) (by decide) (by decide) (fun rq hrq erq => ?_)
    refine kt_v ?_
    refine wp_bipush (pc' := 336) (49) dL_tells_334 rfl rfl ?_
    refine wp_load (pc' := 338) (j := 5) dL_tells_336 rfl rfl rfl ?_
    refine wp_bipush (pc' := 340) (14) dL_tells_338 rfl rfl ?_
    refine wp_pure (pc' := 341) dL_tells_340 rfl rfl ?_
    refine wp_bipush (pc' := 343) (48) dL_tells_341 rfl rfl ?_
    refine wp_s2 0 0 dL_tells_343 ml_L_104 (Nat.le_of_ble_eq_true rfl) (by omega) (by omega) ?_
    refine w_low _ (n := 48) (by decide) (by decide) (fun rr hrr err => ?_)
    refine kt_v ?_
    refine wp_pure (pc' := 347) dL_tells_346 rfl rfl ?_
    rw [show (49 : Int32) + nI rr = nI (49 + rr) from nI_add 49 rr]
    refine wp_s4 10 1000 dL_tells_347 ml_L_132 (Nat.le_of_ble_eq_true rfl) (by omega) (by omega) ?_
    refine w_times hT (Nat.le_refl _) (Nat.le_refl _) (fun z => absurd (K_ti_0 (show 1 ≤ 1 + rp by omega) (by omega) (show rq ≤ 95 by omega) (show rq < 49 + rr by omega) (by omega)) z) (fun hK0 G1 hT1 hF1 => ?_)
    refine kt_v ?_
    have hg1 := (hF1 ag o1).trans hg
    have hl1 := (hF1 al o2).trans hl
    have hu1 := (hF1 au o3).trans hu
    have ht1 := (hF1 aT o4).trans ht
    refine wp_ifF (pc' := 353) 357 dL_tells_350 rfl rfl (cmpF rfl) ?_
    refine wp_iconst (pc' := 354) (1) dL_tells_353 rfl rfl ?_
    refine wp_goto 395 dL_tells_354 rfl ?_
    refine wp_iret dL_tells_395 rfl rfl ?_
    first
      | exact hP _ _ _ (lw_end hk hT1 (xi_times hX) ⟨_, hg1, g0, g1, g2, g3, g4, g5⟩ ⟨_, hl1, ll⟩ ⟨_, hu1, uu⟩ ⟨_, ht1, t1, t2⟩)
      | exact hP _ _ _ (lw_end hk hT1 (xi_dates hX) ⟨_, hg1, g0, g1, g2, g3, g4, g5⟩ ⟨_, hl1, ll⟩ ⟨_, hu1, uu⟩ ⟨_, ht1, t1, t2⟩)

set_option maxRecDepth 20000 in
set_option maxHeartbeats 2000000 in
theorem t_tells {E : XE} {d mc ms : Nat} {P : Ps} {own : Nat → Nat} {x ag al au aT k : Nat} {σ : MS} {N : Nat → Nat} {G : HP} (hO : OWN own ag al au aT) (hk : k < 60) (hW : LW E own x ag al au aT σ N k G) (hP : ∀ σ' N' G', LW E own x ag al au aT σ' N' (k + 1) G' → P (.inl (some (.int 1))) G') {a b : Int32} (hmc : 60 ≤ mc) (hms : 2000 ≤ ms) : Sp E (d + 13) yL_tells mc ms [.ref x, .ref ag, .ref al, .ref au, .int a, .int b] G P := by
  obtain ⟨o1, o2, o3, o4, o5, o6, o7, o8, o9, o10⟩ := id hO
  obtain ⟨hT, hX, ⟨g, hg, g0, g1, g2, g3, g4, g5⟩, ⟨l, hl, ll⟩, ⟨u, hu, uu⟩, ⟨t, ht, t1, t2⟩⟩ := id hW
  have hN := tk_N hT
  have hI := tk_I hT
  obtain ⟨n0, n1, n2, n3, n4, n5, e7, e22, e29, e35, e40⟩ := id hN
  refine sp_intro bd_L_tells (v1_all rfl) (Nat.le_of_ble_eq_true rfl) ?_
  change WX _ _ _ _ _ _ 0 [some (.ref x), some (.ref ag), some (.ref al), some (.ref au), some (.int a), some (.int b), none, none, none, none] [] _ 0 0
  refine wp_load (pc' := 2) (j := 4) dL_tells_0 rfl rfl rfl ?_
  refine wp_bipush (pc' := 4) (6) dL_tells_2 rfl rfl ?_
  refine wp_s2 0 0 dL_tells_4 ml_L_104 (Nat.le_of_ble_eq_true rfl) (by omega) (by omega) ?_
  refine w_low _ (n := 6) (by decide) (by decide) (fun ra hra era => ?_)
  refine kt_v ?_
  refine wp_store (pc' := 9) (j := 6) (ls' := [_, _, _, _, _, _, _, _, _, _]) dL_tells_7 rfl (Nat.le_of_ble_eq_true rfl) rfl rfl ?_
  refine wp_load (pc' := 11) (j := 6) dL_tells_9 rfl rfl rfl ?_
  refine wp_iconst (pc' := 12) (2) dL_tells_11 rfl rfl ?_
  refine wp_icmp_lt (pc' := 15) 21 dL_tells_12 rfl rfl (fun h12 => ?_) (fun h12 => ?_)
  · skip
    skip
    exact s_car rfl hO hk hW hP hmc hms
  · skip
    skip
    refine wp_load (pc' := 16) (j := 1) dL_tells_15 rfl rfl rfl ?_
    refine wp_iconst (pc' := 17) (2) dL_tells_16 rfl rfl ?_
    refine wp_iald (pc' := 18) dL_tells_17 hg rfl (by decide) (by decide) rfl ?_
    rw [g2]
    refine wp_if_ne (pc' := 21) 141 dL_tells_18 rfl rfl (fun h18 => ?_) (fun h18 => ?_)
    · skip
      skip
      refine wp_load (pc' := 143) (j := 6) dL_tells_141 rfl rfl rfl ?_
      refine wp_iconst (pc' := 144) (5) dL_tells_143 rfl rfl ?_
      refine wp_icmp_ge (pc' := 147) 303 dL_tells_144 rfl rfl (fun h144 => ?_) (fun h144 => ?_)
      · skip
        skip
        exact s_when rfl hO hk hW hP hmc hms
      · skip
        skip
        exact s_sign rfl hO hk hW hP hmc hms
    · skip
      skip
      exact s_car rfl hO hk hW hP hmc hms

