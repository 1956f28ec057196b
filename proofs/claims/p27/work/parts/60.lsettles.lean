/-! the law settles fines -/
theorem pay_kx {σ : MS} {N : Nat → Nat} (hN : cN σ N) {j : Nat} (hj : j < N 5) (h : (!σ.2.2 51 j && !σ.2.2 50 j) = false) : K_payFine σ (nI j) = 2 := by
  rw [K_pf hN hj, h, if_neg (by decide)]
theorem pay_k0 {σ : MS} {N : Nat → Nat} (hN : cN σ N) {j : Nat} (hj : j < N 5) (h50 : σ.2.2 50 j = false) (h51 : σ.2.2 51 j = false) : K_payFine σ (nI j) = 0 := by
  rw [K_pf hN hj, h50, h51, if_pos (by decide)]
theorem ap_k2 {σ : MS} {N : Nat → Nat} (hN : cN σ N) {j : Nat} (hj : j < N 5) (h : σ.2.2 49 j = true ∨ σ.2.2 51 j = true) : K_appeal σ (nI j) = 2 := by
  rw [K_ap hN hj, if_neg ?_]
  rcases h with h | h
  · rw [h]; exact fun z => nomatch z
  · rw [h, Bool.not_true, Bool.and_false]; exact fun z => nomatch z
theorem ap_k0 {σ : MS} {N : Nat → Nat} (hN : cN σ N) {j : Nat} (hj : j < N 5) (h49 : σ.2.2 49 j = false) (h51 : σ.2.2 51 j = false) : K_appeal σ (nI j) = 0 := by
  rw [K_ap hN hj, h49, h51, if_pos (by decide)]
theorem b2i_ne {b : Bool} : ¬ b2i b = -1000003 := by cases b <;> decide
set_option maxRecDepth 20000 in
set_option maxHeartbeats 4000000 in
theorem s_pf1 {E : XE} {d0 d mc ms : Nat} {P : Ps} {own : Nat → Nat} {x ag al au aT k : Nat} {σ : MS} {N : Nat → Nat} {G : HP} (hd : d = d0 + 12) (hO : OWN own ag al au aT) (hk : k < 60) (hW : LW E own x ag al au aT σ N k G) (hP : ∀ σ' N' G', LW E own x ag al au aT σ' N' (k + 1) G' → P (.inl (some (.int 1))) G') {a b : Int32} {c n : Nat} (hc : c + 100 ≤ mc) (hn : n + 5000 ≤ ms) {rj cc D : Nat} (hj5 : rj < N 5) (hcc : cc < N 2) (e41 : σ.2.1 41 rj = nI cc) (hD : D ≤ 6000) (eD : debtF σ cc (N 5) = nI D) (h50 : σ.2.2 50 rj = false) (h51 : σ.2.2 51 rj = false) {z9 z10 : Option Value} : WX E d (yL_settles, cL_settles, (some .boolean), []) mc ms P 60 [some (.ref x), some (.ref ag), some (.ref aT), some (.int a), some (.int b), some (.int (nI rj)), some (.int (nI cc)), some (.int (nI D)), some (.int 1), z9, z10] [] G c n := by
  subst hd
  obtain ⟨o1, o2, o3, o4, o5, o6, o7, o8, o9, o10⟩ := id hO
  obtain ⟨hT, hX, ⟨g, hg, g0, g1, g2, g3, g4, g5⟩, ⟨l, hl, ll⟩, ⟨u, hu, uu⟩, ⟨t, ht, t1, t2⟩⟩ := id hW
  have hN := tk_N hT
  have hI := tk_I hT
  obtain ⟨n0, n1, n2, n3, n4, n5, e7, e22, e29, e35, e40⟩ := id hN
  refine wp_load (pc' := 61) (j := 0) dL_settles_60 rfl rfl rfl ?_
  refine wp_load (pc' := 63) (j := 5) dL_settles_61 rfl rfl rfl ?_
  refine wp_s2 10 1000 dL_settles_63 ml_L_147 (Nat.le_of_ble_eq_true rfl) (by omega) (by omega) ?_
  refine w_payFine hT (Nat.le_refl _) (Nat.le_refl _) (fun z => absurd (pay_k0 hN hj5 h50 h51) z) (fun hK0 j hj he G1 hT1 hF1 => ?_)
  have ej : j = rj := ((nI_eq (show rj < 2 ^ 31 by omega) (show j < 2 ^ 31 by omega)).1 he).symm
  rw [ej] at hT1
  rw [ej]
  refine kt_v ?_
  have hg1 := (hF1 ag o1).trans hg
  have hl1 := (hF1 al o2).trans hl
  have hu1 := (hF1 au o3).trans hu
  have ht1 := (hF1 aT o4).trans ht
  refine wp_store (pc' := 68) (j := 9) (ls' := [_, _, _, _, _, _, _, _, _, _, _]) dL_settles_66 rfl (Nat.le_of_ble_eq_true rfl) rfl rfl ?_
  refine wp_load (pc' := 70) (j := 8) dL_settles_68 rfl rfl rfl ?_
  refine wp_ifF (pc' := 73) 124 dL_settles_70 rfl rfl (cmpF rfl) ?_
  refine wp_load (pc' := 75) (j := 9) dL_settles_73 rfl rfl rfl ?_
  refine wp_bipush (pc' := 77) (30) dL_settles_75 rfl rfl ?_
  refine wp_icmpF (pc' := 80) 120 dL_settles_77 rfl rfl amo_30 ?_
  refine wp_load (pc' := 81) (j := 0) dL_settles_80 rfl rfl rfl ?_
  refine wp_load (pc' := 83) (j := 6) dL_settles_81 rfl rfl rfl ?_
  refine wp_s2 10 60 dL_settles_83 ml_L_120 (Nat.le_of_ble_eq_true rfl) (by omega) (by omega) ?_
  refine w_debt hT1 (Nat.le_refl _) (Nat.le_refl _) (nI D - amoF σ rj) (d_ans (tk_N hT1) (hcc) ((by rw [← eD, ← debt_pay e41 h50 h51 (N 5), if_pos hj5, Int32.add_sub_cancel]))) ?_
  refine kt_v ?_
  refine wp_load (pc' := 88) (j := 7) dL_settles_86 rfl rfl rfl ?_
  refine wp_load (pc' := 90) (j := 9) dL_settles_88 rfl rfl rfl ?_
  refine wp_pure (pc' := 91) dL_settles_90 rfl rfl ?_
  refine wp_icmpF (pc' := 94) 120 dL_settles_91 rfl rfl (fun z => z rfl) ?_
  refine wp_load (pc' := 95) (j := 0) dL_settles_94 rfl rfl rfl ?_
  refine wp_load (pc' := 97) (j := 5) dL_settles_95 rfl rfl rfl ?_
  refine wp_iconst (pc' := 98) (5) dL_settles_97 rfl rfl ?_
  refine wp_s3 10 60 dL_settles_98 ml_L_118 (Nat.le_of_ble_eq_true rfl) (by omega) (by omega) ?_
  refine w_fine hT1 (Nat.le_refl _) (Nat.le_refl _) (1) (f_ans (tk_N hT1) (hj5) (w := 5) (by decide) (fv5.trans (congrArg b2i mbr_s))) ?_
  refine kt_v ?_
  refine wp_iconst (pc' := 102) (1) dL_settles_101 rfl rfl ?_
  refine wp_icmpF (pc' := 105) 120 dL_settles_102 rfl rfl (cmpF rfl) ?_
  refine wp_load (pc' := 106) (j := 0) dL_settles_105 rfl rfl rfl ?_
  refine wp_load (pc' := 108) (j := 5) dL_settles_106 rfl rfl rfl ?_
  refine wp_s2 10 1000 dL_settles_108 ml_L_149 (Nat.le_of_ble_eq_true rfl) (by omega) (by omega) ?_
  refine w_appeal hT1 (Nat.le_refl _) (Nat.le_refl _) (fun z => ?_) (fun z => absurd (z.symm.trans (ap_k2 (tk_N hT1) hj5 (Or.inr mbr_s))) (by decide))
  rw [rsQ_2 (ap_k2 (tk_N hT1) hj5 (Or.inr mbr_s))]
  refine kt_v ?_
  refine wp_ldc (pc' := 113) dL_settles_111 kw_L_36 rfl ?_
  refine wp_icmpF (pc' := 116) 120 dL_settles_113 rfl rfl (cmpF rfl) ?_
  refine wp_iconst (pc' := 117) (1) dL_settles_116 rfl rfl ?_
  refine wp_goto 136 dL_settles_117 rfl ?_
  refine wp_iret dL_settles_136 rfl rfl ?_
  exact hP _ _ _ (lw_end hk hT1 (xi_payFine hX h50) ⟨_, hg1, g0, g1, g2, g3, g4, g5⟩ ⟨_, hl1, ll⟩ ⟨_, hu1, uu⟩ ⟨_, ht1, t1, t2⟩)

set_option maxRecDepth 20000 in
set_option maxHeartbeats 4000000 in
theorem s_pf0 {E : XE} {d0 d mc ms : Nat} {P : Ps} {own : Nat → Nat} {x ag al au aT k : Nat} {σ : MS} {N : Nat → Nat} {G : HP} (hd : d = d0 + 12) (hO : OWN own ag al au aT) (hk : k < 60) (hW : LW E own x ag al au aT σ N k G) (hP : ∀ σ' N' G', LW E own x ag al au aT σ' N' (k + 1) G' → P (.inl (some (.int 1))) G') {a b : Int32} {c n : Nat} (hc : c + 100 ≤ mc) (hn : n + 5000 ≤ ms) {rj cc D : Nat} (hj5 : rj < N 5) (hcc : cc < N 2) (e41 : σ.2.1 41 rj = nI cc) (hD : D ≤ 6000) (eD : debtF σ cc (N 5) = nI D) (hcl : (!σ.2.2 51 rj && !σ.2.2 50 rj) = false) {z9 z10 : Option Value} : WX E d (yL_settles, cL_settles, (some .boolean), []) mc ms P 60 [some (.ref x), some (.ref ag), some (.ref aT), some (.int a), some (.int b), some (.int (nI rj)), some (.int (nI cc)), some (.int (nI D)), some (.int 0), z9, z10] [] G c n := by
  subst hd
  obtain ⟨o1, o2, o3, o4, o5, o6, o7, o8, o9, o10⟩ := id hO
  obtain ⟨hT, hX, ⟨g, hg, g0, g1, g2, g3, g4, g5⟩, ⟨l, hl, ll⟩, ⟨u, hu, uu⟩, ⟨t, ht, t1, t2⟩⟩ := id hW
  have hN := tk_N hT
  have hI := tk_I hT
  obtain ⟨n0, n1, n2, n3, n4, n5, e7, e22, e29, e35, e40⟩ := id hN
  refine wp_load (pc' := 61) (j := 0) dL_settles_60 rfl rfl rfl ?_
  refine wp_load (pc' := 63) (j := 5) dL_settles_61 rfl rfl rfl ?_
  refine wp_s2 10 1000 dL_settles_63 ml_L_147 (Nat.le_of_ble_eq_true rfl) (by omega) (by omega) ?_
  refine w_payFine hT (Nat.le_refl _) (Nat.le_refl _) (fun z => ?_) (fun z => absurd (z.symm.trans (pay_kx hN hj5 hcl)) (by decide))
  rw [rsQ_2 (pay_kx hN hj5 hcl)]
  refine kt_v ?_
  refine wp_store (pc' := 68) (j := 9) (ls' := [_, _, _, _, _, _, _, _, _, _, _]) dL_settles_66 rfl (Nat.le_of_ble_eq_true rfl) rfl rfl ?_
  refine wp_load (pc' := 70) (j := 8) dL_settles_68 rfl rfl rfl ?_
  refine wp_ifT 124 dL_settles_70 rfl (cmpT rfl) ?_
  refine wp_load (pc' := 126) (j := 9) dL_settles_124 rfl rfl rfl ?_
  refine wp_ldc (pc' := 128) dL_settles_126 kw_L_36 rfl ?_
  refine wp_icmpF (pc' := 131) 135 dL_settles_128 rfl rfl (cmpF rfl) ?_
  refine wp_iconst (pc' := 132) (1) dL_settles_131 rfl rfl ?_
  refine wp_goto 136 dL_settles_132 rfl ?_
  refine wp_iret dL_settles_136 rfl rfl ?_
  exact hP _ _ _ (lw_up hk hW)

set_option maxRecDepth 20000 in
set_option maxHeartbeats 4000000 in
theorem s_tow {E : XE} {d0 d mc ms : Nat} {P : Ps} {own : Nat → Nat} {x ag al au aT k : Nat} {σ : MS} {N : Nat → Nat} {G : HP} (hd : d = d0 + 12) (hO : OWN own ag al au aT) (hk : k < 60) (hW : LW E own x ag al au aT σ N k G) (hP : ∀ σ' N' G', LW E own x ag al au aT σ' N' (k + 1) G' → P (.inl (some (.int 1))) G') {a b : Int32} {c n : Nat} (hc : c + 100 ≤ mc) (hn : n + 5000 ≤ ms) {rj cc D : Nat} (hj5 : rj < N 5) (hcc : cc < N 2) (e41 : σ.2.1 41 rj = nI cc) (hD : D ≤ 6000) (eD : debtF σ cc (N 5) = nI D) {z8 z9 z10 : Option Value} : WX E d (yL_settles, cL_settles, (some .boolean), []) mc ms P 147 [some (.ref x), some (.ref ag), some (.ref aT), some (.int a), some (.int b), some (.int (nI rj)), some (.int (nI cc)), some (.int (nI D)), z8, z9, z10] [] G c n := by
  subst hd
  obtain ⟨o1, o2, o3, o4, o5, o6, o7, o8, o9, o10⟩ := id hO
  obtain ⟨hT, hX, ⟨g, hg, g0, g1, g2, g3, g4, g5⟩, ⟨l, hl, ll⟩, ⟨u, hu, uu⟩, ⟨t, ht, t1, t2⟩⟩ := id hW
  have hN := tk_N hT
  have hI := tk_I hT
  obtain ⟨n0, n1, n2, n3, n4, n5, e7, e22, e29, e35, e40⟩ := id hN
  rcases Decidable.em (¬ σ.2.1 25 cc = -1 ∧ 200 ≤ D) with hcan | hcan
  · skip
    have hn0 : ¬ σ.2.1 25 cc < 0 := fun z => hcan.1 (off_of hI hcc z)
    refine wp_load (pc' := 148) (j := 0) dL_settles_147 rfl rfl rfl ?_
    refine wp_load (pc' := 150) (j := 6) dL_settles_148 rfl rfl rfl ?_
    refine wp_s2 10 1000 dL_settles_150 ml_L_151 (Nat.le_of_ble_eq_true rfl) (by omega) (by omega) ?_
    refine w_tow hT (Nat.le_refl _) (Nat.le_refl _) (fun z => absurd ((K_tw hN hcc (show D < 2 ^ 31 by omega) eD).trans (if_pos hcan)) z) (fun hK0 j hj he G1 hT1 hF1 => ?_)
    have ej : j = cc := ((nI_eq (show cc < 2 ^ 31 by omega) (show j < 2 ^ 31 by omega)).1 he).symm
    rw [ej] at hT1
    rw [ej, eD]
    refine kt_v ?_
    have hg1 := (hF1 ag o1).trans hg
    have hl1 := (hF1 al o2).trans hl
    have hu1 := (hF1 au o3).trans hu
    have ht1 := (hF1 aT o4).trans ht
    refine wp_store (pc' := 155) (j := 9) (ls' := [_, _, _, _, _, _, _, _, _, _, _]) dL_settles_153 rfl (Nat.le_of_ble_eq_true rfl) rfl rfl ?_
    refine wp_load (pc' := 156) (j := 2) dL_settles_155 rfl rfl rfl ?_
    refine wp_load (pc' := 158) (j := 6) dL_settles_156 rfl rfl rfl ?_
    refine wp_iald (pc' := 159) dL_settles_158 ht1 rfl (show cc < 30 by omega) (by decide) rfl ?_
    rw [t1 cc hcc]
    refine wp_ifF (pc' := 162) 174 dL_settles_159 rfl rfl hn0 ?_
    refine wp_load (pc' := 164) (j := 7) dL_settles_162 rfl rfl rfl ?_
    refine wp_sipush (pc' := 167) (200) dL_settles_164 rfl rfl ?_
    refine wp_icmpF (pc' := 170) 174 dL_settles_167 rfl rfl (show ¬ nI D < nI 200 from nI_nlt hcan.2 (by omega)) ?_
    refine wp_iconst (pc' := 171) (1) dL_settles_170 rfl rfl ?_
    refine wp_goto 175 dL_settles_171 rfl ?_
    refine wp_store (pc' := 177) (j := 10) (ls' := [_, _, _, _, _, _, _, _, _, _, _]) dL_settles_175 rfl (Nat.le_of_ble_eq_true rfl) rfl rfl ?_
    refine wp_load (pc' := 178) (j := 2) dL_settles_177 rfl rfl rfl ?_
    refine wp_load (pc' := 180) (j := 6) dL_settles_178 rfl rfl rfl ?_
    refine wp_load (pc' := 182) (j := 10) dL_settles_180 rfl rfl rfl ?_
    refine wp_ifF (pc' := 185) 189 dL_settles_182 rfl rfl (cmpF rfl) ?_
    refine wp_iconst (pc' := 186) (-1) dL_settles_185 rfl rfl ?_
    refine wp_goto 193 dL_settles_186 rfl ?_
    refine wp_iaw (pc' := 194) dL_settles_193 ht1 rfl (show cc < 30 by omega) (by decide) rfl (fun G2 hw2 hr2 => ?_)
    have hg2 := (hr2 ag o7).trans hg1
    have hl2 := (hr2 al o9).trans hl1
    have hu2 := (hr2 au o10).trans hu1
    have hT2 := tk_put o4 hw2 hr2 hT1
    refine wp_load (pc' := 196) (j := 9) dL_settles_194 rfl rfl rfl ?_
    refine wp_load (pc' := 198) (j := 10) dL_settles_196 rfl rfl rfl ?_
    refine wp_ifF (pc' := 201) 206 dL_settles_198 rfl rfl (cmpF rfl) ?_
    refine wp_load (pc' := 203) (j := 7) dL_settles_201 rfl rfl rfl ?_
    refine wp_goto 208 dL_settles_203 rfl ?_
    refine wp_icmpF (pc' := 211) 226 dL_settles_208 rfl rfl (fun z => z rfl) ?_
    refine wp_load (pc' := 212) (j := 0) dL_settles_211 rfl rfl rfl ?_
    refine wp_load (pc' := 214) (j := 6) dL_settles_212 rfl rfl rfl ?_
    refine wp_s2 10 60 dL_settles_214 ml_L_120 (Nat.le_of_ble_eq_true rfl) (by omega) (by omega) ?_
    refine w_debt hT2 (Nat.le_refl _) (Nat.le_refl _) (nI D) (d_ans (tk_N hT2) (hcc) (((debt_off (N 5)).trans eD))) ?_
    refine kt_v ?_
    refine wp_load (pc' := 219) (j := 7) dL_settles_217 rfl rfl rfl ?_
    refine wp_icmpF (pc' := 222) 226 dL_settles_219 rfl rfl (fun z => z rfl) ?_
    refine wp_iconst (pc' := 223) (1) dL_settles_222 rfl rfl ?_
    refine wp_goto 227 dL_settles_223 rfl ?_
    refine wp_iret dL_settles_227 rfl rfl ?_
    exact hP _ _ _ (lw_end hk hT2 (xi_off hX) ⟨_, hg2, g0, g1, g2, g3, g4, g5⟩ ⟨_, hl2, ll⟩ ⟨_, hu2, uu⟩ ⟨_, hw2, ta_set t1, ta_out hcc t2⟩)
  · skip
    skip
    refine wp_load (pc' := 148) (j := 0) dL_settles_147 rfl rfl rfl ?_
    refine wp_load (pc' := 150) (j := 6) dL_settles_148 rfl rfl rfl ?_
    refine wp_s2 10 1000 dL_settles_150 ml_L_151 (Nat.le_of_ble_eq_true rfl) (by omega) (by omega) ?_
    refine w_tow hT (Nat.le_refl _) (Nat.le_refl _) (fun z => ?_) (fun z => absurd (z.symm.trans ((K_tw hN hcc (show D < 2 ^ 31 by omega) eD).trans (if_neg hcan))) (by decide))
    rw [rsQ_2 ((K_tw hN hcc (show D < 2 ^ 31 by omega) eD).trans (if_neg hcan))]
    refine kt_v ?_
    refine wp_store (pc' := 155) (j := 9) (ls' := [_, _, _, _, _, _, _, _, _, _, _]) dL_settles_153 rfl (Nat.le_of_ble_eq_true rfl) rfl rfl ?_
    refine wp_load (pc' := 156) (j := 2) dL_settles_155 rfl rfl rfl ?_
    refine wp_load (pc' := 158) (j := 6) dL_settles_156 rfl rfl rfl ?_
    refine wp_iald (pc' := 159) dL_settles_158 ht rfl (show cc < 30 by omega) (by decide) rfl ?_
    rw [t1 cc hcc]
    refine wp_if_lt (pc' := 162) 174 dL_settles_159 rfl rfl (fun h159 => ?_) (fun h159 => ?_)
    · skip
      skip
      refine wp_iconst (pc' := 175) (0) dL_settles_174 rfl rfl ?_
      refine wp_store (pc' := 177) (j := 10) (ls' := [_, _, _, _, _, _, _, _, _, _, _]) dL_settles_175 rfl (Nat.le_of_ble_eq_true rfl) rfl rfl ?_
      refine wp_load (pc' := 178) (j := 2) dL_settles_177 rfl rfl rfl ?_
      refine wp_load (pc' := 180) (j := 6) dL_settles_178 rfl rfl rfl ?_
      refine wp_load (pc' := 182) (j := 10) dL_settles_180 rfl rfl rfl ?_
      refine wp_ifT 189 dL_settles_182 rfl (cmpT rfl) ?_
      refine wp_load (pc' := 190) (j := 2) dL_settles_189 rfl rfl rfl ?_
      refine wp_load (pc' := 192) (j := 6) dL_settles_190 rfl rfl rfl ?_
      refine wp_iald (pc' := 193) dL_settles_192 ht rfl (show cc < 30 by omega) (by decide) rfl ?_
      rw [t1 cc hcc]
      refine wp_iaw (pc' := 194) dL_settles_193 ht rfl (show cc < 30 by omega) (by decide) rfl (fun G1 hw1 hr1 => ?_)
      have hg1 := (hr1 ag o7).trans hg
      have hl1 := (hr1 al o9).trans hl
      have hu1 := (hr1 au o10).trans hu
      have hT1 := tk_put o4 hw1 hr1 hT
      refine wp_load (pc' := 196) (j := 9) dL_settles_194 rfl rfl rfl ?_
      refine wp_load (pc' := 198) (j := 10) dL_settles_196 rfl rfl rfl ?_
      refine wp_ifT 206 dL_settles_198 rfl (cmpT rfl) ?_
      refine wp_ldc (pc' := 208) dL_settles_206 kw_L_36 rfl ?_
      refine wp_icmpF (pc' := 211) 226 dL_settles_208 rfl rfl (cmpF rfl) ?_
      refine wp_load (pc' := 212) (j := 0) dL_settles_211 rfl rfl rfl ?_
      refine wp_load (pc' := 214) (j := 6) dL_settles_212 rfl rfl rfl ?_
      refine wp_s2 10 60 dL_settles_214 ml_L_120 (Nat.le_of_ble_eq_true rfl) (by omega) (by omega) ?_
      refine w_debt hT1 (Nat.le_refl _) (Nat.le_refl _) (nI D) (d_ans (tk_N hT1) (hcc) (eD)) ?_
      refine kt_v ?_
      refine wp_load (pc' := 219) (j := 7) dL_settles_217 rfl rfl rfl ?_
      refine wp_icmpF (pc' := 222) 226 dL_settles_219 rfl rfl (fun z => z rfl) ?_
      refine wp_iconst (pc' := 223) (1) dL_settles_222 rfl rfl ?_
      refine wp_goto 227 dL_settles_223 rfl ?_
      refine wp_iret dL_settles_227 rfl rfl ?_
      exact hP _ _ _ (lw_end hk hT1 hX ⟨_, hg1, g0, g1, g2, g3, g4, g5⟩ ⟨_, hl1, ll⟩ ⟨_, hu1, uu⟩ ⟨_, hw1, ta_same t1 rfl, ta_out hcc t2⟩)
    · skip
      skip
      refine wp_load (pc' := 164) (j := 7) dL_settles_162 rfl rfl rfl ?_
      refine wp_sipush (pc' := 167) (200) dL_settles_164 rfl rfl ?_
      refine wp_icmp_lt (pc' := 170) 174 dL_settles_167 rfl rfl (fun h167 => ?_) (fun h167 => ?_)
      · skip
        skip
        refine wp_iconst (pc' := 175) (0) dL_settles_174 rfl rfl ?_
        refine wp_store (pc' := 177) (j := 10) (ls' := [_, _, _, _, _, _, _, _, _, _, _]) dL_settles_175 rfl (Nat.le_of_ble_eq_true rfl) rfl rfl ?_
        refine wp_load (pc' := 178) (j := 2) dL_settles_177 rfl rfl rfl ?_
        refine wp_load (pc' := 180) (j := 6) dL_settles_178 rfl rfl rfl ?_
        refine wp_load (pc' := 182) (j := 10) dL_settles_180 rfl rfl rfl ?_
        refine wp_ifT 189 dL_settles_182 rfl (cmpT rfl) ?_
        refine wp_load (pc' := 190) (j := 2) dL_settles_189 rfl rfl rfl ?_
        refine wp_load (pc' := 192) (j := 6) dL_settles_190 rfl rfl rfl ?_
        refine wp_iald (pc' := 193) dL_settles_192 ht rfl (show cc < 30 by omega) (by decide) rfl ?_
        rw [t1 cc hcc]
        refine wp_iaw (pc' := 194) dL_settles_193 ht rfl (show cc < 30 by omega) (by decide) rfl (fun G1 hw1 hr1 => ?_)
        have hg1 := (hr1 ag o7).trans hg
        have hl1 := (hr1 al o9).trans hl
        have hu1 := (hr1 au o10).trans hu
        have hT1 := tk_put o4 hw1 hr1 hT
        refine wp_load (pc' := 196) (j := 9) dL_settles_194 rfl rfl rfl ?_
        refine wp_load (pc' := 198) (j := 10) dL_settles_196 rfl rfl rfl ?_
        refine wp_ifT 206 dL_settles_198 rfl (cmpT rfl) ?_
        refine wp_ldc (pc' := 208) dL_settles_206 kw_L_36 rfl ?_
        refine wp_icmpF (pc' := 211) 226 dL_settles_208 rfl rfl (cmpF rfl) ?_
        refine wp_load (pc' := 212) (j := 0) dL_settles_211 rfl rfl rfl ?_
        refine wp_load (pc' := 214) (j := 6) dL_settles_212 rfl rfl rfl ?_
        refine wp_s2 10 60 dL_settles_214 ml_L_120 (Nat.le_of_ble_eq_true rfl) (by omega) (by omega) ?_
        refine w_debt hT1 (Nat.le_refl _) (Nat.le_refl _) (nI D) (d_ans (tk_N hT1) (hcc) (eD)) ?_
        refine kt_v ?_
        refine wp_load (pc' := 219) (j := 7) dL_settles_217 rfl rfl rfl ?_
        refine wp_icmpF (pc' := 222) 226 dL_settles_219 rfl rfl (fun z => z rfl) ?_
        refine wp_iconst (pc' := 223) (1) dL_settles_222 rfl rfl ?_
        refine wp_goto 227 dL_settles_223 rfl ?_
        refine wp_iret dL_settles_227 rfl rfl ?_
        exact hP _ _ _ (lw_end hk hT1 hX ⟨_, hg1, g0, g1, g2, g3, g4, g5⟩ ⟨_, hl1, ll⟩ ⟨_, hu1, uu⟩ ⟨_, hw1, ta_same t1 rfl, ta_out hcc t2⟩)
      · skip
        exact absurd ⟨fun z => h159 (by rw [z]; decide), Nat.le_of_not_lt (fun z => h167 (nI_lt z (by decide)))⟩ hcan

set_option maxRecDepth 20000 in
set_option maxHeartbeats 4000000 in
theorem s_ap {E : XE} {d0 d mc ms : Nat} {P : Ps} {own : Nat → Nat} {x ag al au aT k : Nat} {σ : MS} {N : Nat → Nat} {G : HP} (hd : d = d0 + 12) (hO : OWN own ag al au aT) (hk : k < 60) (hW : LW E own x ag al au aT σ N k G) (hP : ∀ σ' N' G', LW E own x ag al au aT σ' N' (k + 1) G' → P (.inl (some (.int 1))) G') {a b : Int32} {c n : Nat} (hc : c + 100 ≤ mc) (hn : n + 5000 ≤ ms) {rj cc D : Nat} (hj5 : rj < N 5) (hcc : cc < N 2) (e41 : σ.2.1 41 rj = nI cc) (hD : D ≤ 6000) (eD : debtF σ cc (N 5) = nI D) {z8 z9 z10 : Option Value} : WX E d (yL_settles, cL_settles, (some .boolean), []) mc ms P 228 [some (.ref x), some (.ref ag), some (.ref aT), some (.int a), some (.int b), some (.int (nI rj)), some (.int (nI cc)), some (.int (nI D)), z8, z9, z10] [] G c n := by
  subst hd
  obtain ⟨o1, o2, o3, o4, o5, o6, o7, o8, o9, o10⟩ := id hO
  obtain ⟨hT, hX, ⟨g, hg, g0, g1, g2, g3, g4, g5⟩, ⟨l, hl, ll⟩, ⟨u, hu, uu⟩, ⟨t, ht, t1, t2⟩⟩ := id hW
  have hN := tk_N hT
  have hI := tk_I hT
  obtain ⟨n0, n1, n2, n3, n4, n5, e7, e22, e29, e35, e40⟩ := id hN
  rcases z51 : σ.2.2 51 rj with _ | _
  rcases z49 : σ.2.2 49 rj with _ | _
  · skip
    have h50 : σ.2.2 50 rj = false := by
      rcases z50 : σ.2.2 50 rj with _ | _
      · rfl
      · rw [hX.2.2.2.2.2.2.1 rj hj5 z50] at z49
        exact nomatch z49
    refine wp_load (pc' := 229) (j := 0) dL_settles_228 rfl rfl rfl ?_
    refine wp_load (pc' := 231) (j := 5) dL_settles_229 rfl rfl rfl ?_
    refine wp_s2 10 1000 dL_settles_231 ml_L_149 (Nat.le_of_ble_eq_true rfl) (by omega) (by omega) ?_
    refine w_appeal hT (Nat.le_refl _) (Nat.le_refl _) (fun z => absurd (ap_k0 hN hj5 z49 z51) z) (fun hK0 j hj he G1 hT1 hF1 => ?_)
    have ej : j = rj := ((nI_eq (show rj < 2 ^ 31 by omega) (show j < 2 ^ 31 by omega)).1 he).symm
    rw [ej] at hT1
    rw [ej]
    generalize (!σ.2.2 48 rj && decide (judFine (mbr (zz σ) 49 rj true) rj = 0)) = bb at hT1 ⊢
    obtain ⟨y, z, hyz, ey, ez, hz0⟩ := debt_back (c := cc) (b := bb) h50 (N 5)
    have hDy : y + z = D := (nI_eq (show y + z < 2 ^ 31 by omega) (show D < 2 ^ 31 by omega)).1 (ez.symm.trans eD)
    refine kt_v ?_
    have hg1 := (hF1 ag o1).trans hg
    have hl1 := (hF1 al o2).trans hl
    have hu1 := (hF1 au o3).trans hu
    have ht1 := (hF1 aT o4).trans ht
    refine wp_store (pc' := 236) (j := 9) (ls' := [_, _, _, _, _, _, _, _, _, _, _]) dL_settles_234 rfl (Nat.le_of_ble_eq_true rfl) rfl rfl ?_
    refine wp_load (pc' := 238) (j := 9) dL_settles_236 rfl rfl rfl ?_
    refine wp_ldc (pc' := 240) dL_settles_238 kw_L_36 rfl ?_
    refine wp_icmpT 273 dL_settles_240 rfl b2i_ne ?_
    refine wp_load (pc' := 274) (j := 0) dL_settles_273 rfl rfl rfl ?_
    refine wp_load (pc' := 276) (j := 5) dL_settles_274 rfl rfl rfl ?_
    refine wp_iconst (pc' := 277) (4) dL_settles_276 rfl rfl ?_
    refine wp_s3 10 60 dL_settles_277 ml_L_118 (Nat.le_of_ble_eq_true rfl) (by omega) (by omega) ?_
    refine w_fine hT1 (Nat.le_refl _) (Nat.le_refl _) (b2i bb) (f_ans (tk_N hT1) (hj5) (w := 4) (by decide) (fv4.trans (congrArg b2i mbr_s))) ?_
    refine kt_v ?_
    refine wp_load (pc' := 282) (j := 9) dL_settles_280 rfl rfl rfl ?_
    refine wp_icmpF (pc' := 285) 328 dL_settles_282 rfl rfl (fun z => z rfl) ?_
    refine wp_load (pc' := 286) (j := 0) dL_settles_285 rfl rfl rfl ?_
    refine wp_load (pc' := 288) (j := 6) dL_settles_286 rfl rfl rfl ?_
    refine wp_s2 10 60 dL_settles_288 ml_L_120 (Nat.le_of_ble_eq_true rfl) (by omega) (by omega) ?_
    refine w_debt hT1 (Nat.le_refl _) (Nat.le_refl _) (nI y) (d_ans (tk_N hT1) (hcc) (ey)) ?_
    refine kt_v ?_
    refine wp_load (pc' := 293) (j := 7) dL_settles_291 rfl rfl rfl ?_
    refine wp_icmpF (pc' := 296) 328 dL_settles_293 rfl rfl (nI_nlt (show y ≤ D by omega) (by omega)) ?_
    refine wp_load (pc' := 298) (j := 9) dL_settles_296 rfl rfl rfl ?_
    refine wp_iconst (pc' := 299) (1) dL_settles_298 rfl rfl ?_
    refine wp_icmp_eq (pc' := 302) 313 dL_settles_299 rfl rfl (fun h299 => ?_) (fun h299 => ?_)
    · skip
      skip
      refine wp_load (pc' := 314) (j := 0) dL_settles_313 rfl rfl rfl ?_
      refine wp_load (pc' := 316) (j := 5) dL_settles_314 rfl rfl rfl ?_
      refine wp_s2 10 1000 dL_settles_316 ml_L_149 (Nat.le_of_ble_eq_true rfl) (by omega) (by omega) ?_
      refine w_appeal hT1 (Nat.le_refl _) (Nat.le_refl _) (fun z => ?_) (fun z => absurd (z.symm.trans (ap_k2 (tk_N hT1) hj5 (Or.inl ((congrFun (mbr_k (σ := mbr (zz σ) 49 rj true) (show 49 ≠ 50 by decide)) rj).trans mbr_s)))) (by decide))
      rw [rsQ_2 (ap_k2 (tk_N hT1) hj5 (Or.inl ((congrFun (mbr_k (σ := mbr (zz σ) 49 rj true) (show 49 ≠ 50 by decide)) rj).trans mbr_s)))]
      refine kt_v ?_
      refine wp_ldc (pc' := 321) dL_settles_319 kw_L_36 rfl ?_
      refine wp_icmpF (pc' := 324) 328 dL_settles_321 rfl rfl (cmpF rfl) ?_
      refine wp_iconst (pc' := 325) (1) dL_settles_324 rfl rfl ?_
      refine wp_goto 329 dL_settles_325 rfl ?_
      refine wp_iret dL_settles_329 rfl rfl ?_
      exact hP _ _ _ (lw_end hk hT1 (xi_appeal hX z51) ⟨_, hg1, g0, g1, g2, g3, g4, g5⟩ ⟨_, hl1, ll⟩ ⟨_, hu1, uu⟩ ⟨_, ht1, t1, t2⟩)
    · skip
      skip
      refine wp_load (pc' := 303) (j := 0) dL_settles_302 rfl rfl rfl ?_
      refine wp_load (pc' := 305) (j := 6) dL_settles_303 rfl rfl rfl ?_
      refine wp_s2 10 60 dL_settles_305 ml_L_120 (Nat.le_of_ble_eq_true rfl) (by omega) (by omega) ?_
      refine w_debt hT1 (Nat.le_refl _) (Nat.le_refl _) (nI y) (d_ans (tk_N hT1) (hcc) (ey)) ?_
      refine kt_v ?_
      refine wp_load (pc' := 310) (j := 7) dL_settles_308 rfl rfl rfl ?_
      refine wp_icmpF (pc' := 313) 328 dL_settles_310 rfl rfl (fun w => w (by rw [show y = D from by rw [← hDy, hz0 (by cases bb; rfl; exact absurd rfl h299)]; rfl])) ?_
      refine wp_load (pc' := 314) (j := 0) dL_settles_313 rfl rfl rfl ?_
      refine wp_load (pc' := 316) (j := 5) dL_settles_314 rfl rfl rfl ?_
      refine wp_s2 10 1000 dL_settles_316 ml_L_149 (Nat.le_of_ble_eq_true rfl) (by omega) (by omega) ?_
      refine w_appeal hT1 (Nat.le_refl _) (Nat.le_refl _) (fun z => ?_) (fun z => absurd (z.symm.trans (ap_k2 (tk_N hT1) hj5 (Or.inl ((congrFun (mbr_k (σ := mbr (zz σ) 49 rj true) (show 49 ≠ 50 by decide)) rj).trans mbr_s)))) (by decide))
      rw [rsQ_2 (ap_k2 (tk_N hT1) hj5 (Or.inl ((congrFun (mbr_k (σ := mbr (zz σ) 49 rj true) (show 49 ≠ 50 by decide)) rj).trans mbr_s)))]
      refine kt_v ?_
      refine wp_ldc (pc' := 321) dL_settles_319 kw_L_36 rfl ?_
      refine wp_icmpF (pc' := 324) 328 dL_settles_321 rfl rfl (cmpF rfl) ?_
      refine wp_iconst (pc' := 325) (1) dL_settles_324 rfl rfl ?_
      refine wp_goto 329 dL_settles_325 rfl ?_
      refine wp_iret dL_settles_329 rfl rfl ?_
      exact hP _ _ _ (lw_end hk hT1 (xi_appeal hX z51) ⟨_, hg1, g0, g1, g2, g3, g4, g5⟩ ⟨_, hl1, ll⟩ ⟨_, hu1, uu⟩ ⟨_, ht1, t1, t2⟩)
  · skip
    skip
    refine wp_load (pc' := 229) (j := 0) dL_settles_228 rfl rfl rfl ?_
    refine wp_load (pc' := 231) (j := 5) dL_settles_229 rfl rfl rfl ?_
    refine wp_s2 10 1000 dL_settles_231 ml_L_149 (Nat.le_of_ble_eq_true rfl) (by omega) (by omega) ?_
    refine w_appeal hT (Nat.le_refl _) (Nat.le_refl _) (fun z => ?_) (fun z => absurd (z.symm.trans (ap_k2 hN hj5 (Or.inl z49))) (by decide))
    rw [rsQ_2 (ap_k2 hN hj5 (Or.inl z49))]
    refine kt_v ?_
    refine wp_store (pc' := 236) (j := 9) (ls' := [_, _, _, _, _, _, _, _, _, _, _]) dL_settles_234 rfl (Nat.le_of_ble_eq_true rfl) rfl rfl ?_
    refine wp_load (pc' := 238) (j := 9) dL_settles_236 rfl rfl rfl ?_
    refine wp_ldc (pc' := 240) dL_settles_238 kw_L_36 rfl ?_
    refine wp_icmpF (pc' := 243) 273 dL_settles_240 rfl rfl (cmpF rfl) ?_
    refine wp_load (pc' := 244) (j := 0) dL_settles_243 rfl rfl rfl ?_
    refine wp_load (pc' := 246) (j := 5) dL_settles_244 rfl rfl rfl ?_
    refine wp_iconst (pc' := 247) (5) dL_settles_246 rfl rfl ?_
    refine wp_s3 10 60 dL_settles_247 ml_L_118 (Nat.le_of_ble_eq_true rfl) (by omega) (by omega) ?_
    refine w_fine hT (Nat.le_refl _) (Nat.le_refl _) (0) (f_ans hN (hj5) (w := 5) (by decide) (fv5.trans (congrArg b2i z51))) ?_
    refine kt_v ?_
    refine wp_iconst (pc' := 251) (1) dL_settles_250 rfl rfl ?_
    refine wp_icmpF (pc' := 254) 265 dL_settles_251 rfl rfl (cmpF rfl) ?_
    refine wp_load (pc' := 255) (j := 0) dL_settles_254 rfl rfl rfl ?_
    refine wp_load (pc' := 257) (j := 5) dL_settles_255 rfl rfl rfl ?_
    refine wp_s2 10 1000 dL_settles_257 ml_L_149 (Nat.le_of_ble_eq_true rfl) (by omega) (by omega) ?_
    refine w_appeal hT (Nat.le_refl _) (Nat.le_refl _) (fun z => ?_) (fun z => absurd (z.symm.trans (ap_k2 hN hj5 (Or.inl z49))) (by decide))
    rw [rsQ_2 (ap_k2 hN hj5 (Or.inl z49))]
    refine kt_v ?_
    refine wp_ldc (pc' := 262) dL_settles_260 kw_L_36 rfl ?_
    refine wp_icmpF (pc' := 265) 269 dL_settles_262 rfl rfl (cmpF rfl) ?_
    refine wp_iconst (pc' := 266) (1) dL_settles_265 rfl rfl ?_
    refine wp_goto 329 dL_settles_266 rfl ?_
    refine wp_iret dL_settles_329 rfl rfl ?_
    exact hP _ _ _ (lw_up hk hW)
  · skip
    skip
    refine wp_load (pc' := 229) (j := 0) dL_settles_228 rfl rfl rfl ?_
    refine wp_load (pc' := 231) (j := 5) dL_settles_229 rfl rfl rfl ?_
    refine wp_s2 10 1000 dL_settles_231 ml_L_149 (Nat.le_of_ble_eq_true rfl) (by omega) (by omega) ?_
    refine w_appeal hT (Nat.le_refl _) (Nat.le_refl _) (fun z => ?_) (fun z => absurd (z.symm.trans (ap_k2 hN hj5 (Or.inr z51))) (by decide))
    rw [rsQ_2 (ap_k2 hN hj5 (Or.inr z51))]
    refine kt_v ?_
    refine wp_store (pc' := 236) (j := 9) (ls' := [_, _, _, _, _, _, _, _, _, _, _]) dL_settles_234 rfl (Nat.le_of_ble_eq_true rfl) rfl rfl ?_
    refine wp_load (pc' := 238) (j := 9) dL_settles_236 rfl rfl rfl ?_
    refine wp_ldc (pc' := 240) dL_settles_238 kw_L_36 rfl ?_
    refine wp_icmpF (pc' := 243) 273 dL_settles_240 rfl rfl (cmpF rfl) ?_
    refine wp_load (pc' := 244) (j := 0) dL_settles_243 rfl rfl rfl ?_
    refine wp_load (pc' := 246) (j := 5) dL_settles_244 rfl rfl rfl ?_
    refine wp_iconst (pc' := 247) (5) dL_settles_246 rfl rfl ?_
    refine wp_s3 10 60 dL_settles_247 ml_L_118 (Nat.le_of_ble_eq_true rfl) (by omega) (by omega) ?_
    refine w_fine hT (Nat.le_refl _) (Nat.le_refl _) (1) (f_ans hN (hj5) (w := 5) (by decide) (fv5.trans (congrArg b2i z51))) ?_
    refine kt_v ?_
    refine wp_iconst (pc' := 251) (1) dL_settles_250 rfl rfl ?_
    refine wp_icmpT 265 dL_settles_251 rfl (cmpT rfl) ?_
    refine wp_iconst (pc' := 266) (1) dL_settles_265 rfl rfl ?_
    refine wp_goto 329 dL_settles_266 rfl ?_
    refine wp_iret dL_settles_329 rfl rfl ?_
    exact hP _ _ _ (lw_up hk hW)

set_option maxRecDepth 20000 in
set_option maxHeartbeats 4000000 in
theorem s_set {E : XE} {d0 d mc ms : Nat} {P : Ps} {own : Nat → Nat} {x ag al au aT k : Nat} {σ : MS} {N : Nat → Nat} {G : HP} (hd : d = d0 + 12) (hO : OWN own ag al au aT) (hk : k < 60) (hW : LW E own x ag al au aT σ N k G) (hP : ∀ σ' N' G', LW E own x ag al au aT σ' N' (k + 1) G' → P (.inl (some (.int 1))) G') {a b : Int32} (hmc : 300 ≤ mc) (hms : 8000 ≤ ms) {rj : Nat} (hj5 : rj < N 5) {z6 z7 z8 z9 z10 : Option Value} : WX E d (yL_settles, cL_settles, (some .boolean), []) mc ms P 9 [some (.ref x), some (.ref ag), some (.ref aT), some (.int a), some (.int b), some (.int (nI rj)), z6, z7, z8, z9, z10] [] G 0 0 := by
  subst hd
  obtain ⟨o1, o2, o3, o4, o5, o6, o7, o8, o9, o10⟩ := id hO
  obtain ⟨hT, hX, ⟨g, hg, g0, g1, g2, g3, g4, g5⟩, ⟨l, hl, ll⟩, ⟨u, hu, uu⟩, ⟨t, ht, t1, t2⟩⟩ := id hW
  have hN := tk_N hT
  have hI := tk_I hT
  obtain ⟨n0, n1, n2, n3, n4, n5, e7, e22, e29, e35, e40⟩ := id hN
  obtain ⟨-, -, -, -, p6, -⟩ := id hI
  obtain ⟨cc, aa, mm, pp, hcc, e41, -⟩ := p6 rj hj5
  obtain ⟨D, hD6, eD⟩ := debt_n (σ := σ) (i := cc) (N 5)
  have hD : D ≤ 6000 := by omega
  have h6 := hX.2.2.2.2.2.1 rj hj5
  rcases z50 : σ.2.2 50 rj with _ | _ <;> rcases z51 : σ.2.2 51 rj with _ | _
  rotate_left 3
  · exact absurd ⟨z50, z51⟩ h6
  · skip
    skip
    refine wp_load (pc' := 10) (j := 0) dL_settles_9 rfl rfl rfl ?_
    refine wp_load (pc' := 12) (j := 5) dL_settles_10 rfl rfl rfl ?_
    refine wp_iconst (pc' := 13) (0) dL_settles_12 rfl rfl ?_
    refine wp_s3 10 60 dL_settles_13 ml_L_118 (Nat.le_of_ble_eq_true rfl) (by omega) (by omega) ?_
    refine w_fine hT (Nat.le_refl _) (Nat.le_refl _) (nI cc) (f_ans hN (hj5) (w := 0) (by decide) (fv0.trans e41)) ?_
    refine kt_v ?_
    refine wp_store (pc' := 18) (j := 6) (ls' := [_, _, _, _, _, _, _, _, _, _, _]) dL_settles_16 rfl (Nat.le_of_ble_eq_true rfl) rfl rfl ?_
    refine wp_load (pc' := 19) (j := 0) dL_settles_18 rfl rfl rfl ?_
    refine wp_load (pc' := 21) (j := 6) dL_settles_19 rfl rfl rfl ?_
    refine wp_s2 10 60 dL_settles_21 ml_L_120 (Nat.le_of_ble_eq_true rfl) (by omega) (by omega) ?_
    refine w_debt hT (Nat.le_refl _) (Nat.le_refl _) (nI D) (d_ans hN (hcc) (eD)) ?_
    refine kt_v ?_
    refine wp_store (pc' := 26) (j := 7) (ls' := [_, _, _, _, _, _, _, _, _, _, _]) dL_settles_24 rfl (Nat.le_of_ble_eq_true rfl) rfl rfl ?_
    refine wp_load (pc' := 27) (j := 0) dL_settles_26 rfl rfl rfl ?_
    refine wp_load (pc' := 29) (j := 5) dL_settles_27 rfl rfl rfl ?_
    refine wp_iconst (pc' := 30) (4) dL_settles_29 rfl rfl ?_
    refine wp_s3 10 60 dL_settles_30 ml_L_118 (Nat.le_of_ble_eq_true rfl) (by omega) (by omega) ?_
    refine w_fine hT (Nat.le_refl _) (Nat.le_refl _) (0) (f_ans hN (hj5) (w := 4) (by decide) (fv4.trans (congrArg b2i z50))) ?_
    refine kt_v ?_
    refine wp_load (pc' := 34) (j := 0) dL_settles_33 rfl rfl rfl ?_
    refine wp_load (pc' := 36) (j := 5) dL_settles_34 rfl rfl rfl ?_
    refine wp_iconst (pc' := 37) (5) dL_settles_36 rfl rfl ?_
    refine wp_s3 10 60 dL_settles_37 ml_L_118 (Nat.le_of_ble_eq_true rfl) (by omega) (by omega) ?_
    refine w_fine hT (Nat.le_refl _) (Nat.le_refl _) (0) (f_ans hN (hj5) (w := 5) (by decide) (fv5.trans (congrArg b2i z51))) ?_
    refine kt_v ?_
    refine wp_pure (pc' := 41) dL_settles_40 rfl rfl ?_
    refine wp_ifF (pc' := 44) 48 dL_settles_41 rfl rfl (cmpF rfl) ?_
    refine wp_iconst (pc' := 45) (1) dL_settles_44 rfl rfl ?_
    refine wp_goto 49 dL_settles_45 rfl ?_
    refine wp_store (pc' := 51) (j := 8) (ls' := [_, _, _, _, _, _, _, _, _, _, _]) dL_settles_49 rfl (Nat.le_of_ble_eq_true rfl) rfl rfl ?_
    refine wp_load (pc' := 53) (j := 4) dL_settles_51 rfl rfl rfl ?_
    refine wp_iconst (pc' := 54) (3) dL_settles_53 rfl rfl ?_
    refine wp_s2 0 0 dL_settles_54 ml_L_104 (Nat.le_of_ble_eq_true rfl) (by omega) (by omega) ?_
    refine w_low _ (n := 3) (by decide) (by decide) (fun rq hrq erq => ?_)
    refine kt_v ?_
    refine wp_if_ne (pc' := 60) 137 dL_settles_57 rfl rfl (fun h57 => ?_) (fun h57 => ?_)
    · skip
      skip
      refine wp_load (pc' := 139) (j := 4) dL_settles_137 rfl rfl rfl ?_
      refine wp_iconst (pc' := 140) (3) dL_settles_139 rfl rfl ?_
      refine wp_s2 0 0 dL_settles_140 ml_L_104 (Nat.le_of_ble_eq_true rfl) (by omega) (by omega) ?_
      refine w_low _ (n := 3) (by decide) (by decide) (fun rr hrr err => ?_)
      refine kt_v ?_
      refine wp_iconst (pc' := 144) (1) dL_settles_143 rfl rfl ?_
      refine wp_icmp_ne (pc' := 147) 228 dL_settles_144 rfl rfl (fun h144 => ?_) (fun h144 => ?_)
      · skip
        skip
        exact s_ap rfl hO hk hW hP (by omega) (by omega) hj5 hcc e41 hD eD
      · skip
        skip
        exact s_tow rfl hO hk hW hP (by omega) (by omega) hj5 hcc e41 hD eD
    · skip
      skip
      exact s_pf1 rfl hO hk hW hP (by omega) (by omega) hj5 hcc e41 hD eD z50 z51
  · skip
    skip
    refine wp_load (pc' := 10) (j := 0) dL_settles_9 rfl rfl rfl ?_
    refine wp_load (pc' := 12) (j := 5) dL_settles_10 rfl rfl rfl ?_
    refine wp_iconst (pc' := 13) (0) dL_settles_12 rfl rfl ?_
    refine wp_s3 10 60 dL_settles_13 ml_L_118 (Nat.le_of_ble_eq_true rfl) (by omega) (by omega) ?_
    refine w_fine hT (Nat.le_refl _) (Nat.le_refl _) (nI cc) (f_ans hN (hj5) (w := 0) (by decide) (fv0.trans e41)) ?_
    refine kt_v ?_
    refine wp_store (pc' := 18) (j := 6) (ls' := [_, _, _, _, _, _, _, _, _, _, _]) dL_settles_16 rfl (Nat.le_of_ble_eq_true rfl) rfl rfl ?_
    refine wp_load (pc' := 19) (j := 0) dL_settles_18 rfl rfl rfl ?_
    refine wp_load (pc' := 21) (j := 6) dL_settles_19 rfl rfl rfl ?_
    refine wp_s2 10 60 dL_settles_21 ml_L_120 (Nat.le_of_ble_eq_true rfl) (by omega) (by omega) ?_
    refine w_debt hT (Nat.le_refl _) (Nat.le_refl _) (nI D) (d_ans hN (hcc) (eD)) ?_
    refine kt_v ?_
    refine wp_store (pc' := 26) (j := 7) (ls' := [_, _, _, _, _, _, _, _, _, _, _]) dL_settles_24 rfl (Nat.le_of_ble_eq_true rfl) rfl rfl ?_
    refine wp_load (pc' := 27) (j := 0) dL_settles_26 rfl rfl rfl ?_
    refine wp_load (pc' := 29) (j := 5) dL_settles_27 rfl rfl rfl ?_
    refine wp_iconst (pc' := 30) (4) dL_settles_29 rfl rfl ?_
    refine wp_s3 10 60 dL_settles_30 ml_L_118 (Nat.le_of_ble_eq_true rfl) (by omega) (by omega) ?_
    refine w_fine hT (Nat.le_refl _) (Nat.le_refl _) (0) (f_ans hN (hj5) (w := 4) (by decide) (fv4.trans (congrArg b2i z50))) ?_
    refine kt_v ?_
    refine wp_load (pc' := 34) (j := 0) dL_settles_33 rfl rfl rfl ?_
    refine wp_load (pc' := 36) (j := 5) dL_settles_34 rfl rfl rfl ?_
    refine wp_iconst (pc' := 37) (5) dL_settles_36 rfl rfl ?_
    refine wp_s3 10 60 dL_settles_37 ml_L_118 (Nat.le_of_ble_eq_true rfl) (by omega) (by omega) ?_
    refine w_fine hT (Nat.le_refl _) (Nat.le_refl _) (1) (f_ans hN (hj5) (w := 5) (by decide) (fv5.trans (congrArg b2i z51))) ?_
    refine kt_v ?_
    refine wp_pure (pc' := 41) dL_settles_40 rfl rfl ?_
    refine wp_ifT 48 dL_settles_41 rfl (cmpT rfl) ?_
    refine wp_iconst (pc' := 49) (0) dL_settles_48 rfl rfl ?_
    refine wp_store (pc' := 51) (j := 8) (ls' := [_, _, _, _, _, _, _, _, _, _, _]) dL_settles_49 rfl (Nat.le_of_ble_eq_true rfl) rfl rfl ?_
    refine wp_load (pc' := 53) (j := 4) dL_settles_51 rfl rfl rfl ?_
    refine wp_iconst (pc' := 54) (3) dL_settles_53 rfl rfl ?_
    refine wp_s2 0 0 dL_settles_54 ml_L_104 (Nat.le_of_ble_eq_true rfl) (by omega) (by omega) ?_
    refine w_low _ (n := 3) (by decide) (by decide) (fun rq hrq erq => ?_)
    refine kt_v ?_
    refine wp_if_ne (pc' := 60) 137 dL_settles_57 rfl rfl (fun h57 => ?_) (fun h57 => ?_)
    · skip
      skip
      refine wp_load (pc' := 139) (j := 4) dL_settles_137 rfl rfl rfl ?_
      refine wp_iconst (pc' := 140) (3) dL_settles_139 rfl rfl ?_
      refine wp_s2 0 0 dL_settles_140 ml_L_104 (Nat.le_of_ble_eq_true rfl) (by omega) (by omega) ?_
      refine w_low _ (n := 3) (by decide) (by decide) (fun rr hrr err => ?_)
      refine kt_v ?_
      refine wp_iconst (pc' := 144) (1) dL_settles_143 rfl rfl ?_
      refine wp_icmp_ne (pc' := 147) 228 dL_settles_144 rfl rfl (fun h144 => ?_) (fun h144 => ?_)
      · skip
        skip
        exact s_ap rfl hO hk hW hP (by omega) (by omega) hj5 hcc e41 hD eD
      · skip
        skip
        exact s_tow rfl hO hk hW hP (by omega) (by omega) hj5 hcc e41 hD eD
    · skip
      skip
      exact s_pf0 rfl hO hk hW hP (by omega) (by omega) hj5 hcc e41 hD eD (by rw [z50, z51]; rfl)
  · skip
    skip
    refine wp_load (pc' := 10) (j := 0) dL_settles_9 rfl rfl rfl ?_
    refine wp_load (pc' := 12) (j := 5) dL_settles_10 rfl rfl rfl ?_
    refine wp_iconst (pc' := 13) (0) dL_settles_12 rfl rfl ?_
    refine wp_s3 10 60 dL_settles_13 ml_L_118 (Nat.le_of_ble_eq_true rfl) (by omega) (by omega) ?_
    refine w_fine hT (Nat.le_refl _) (Nat.le_refl _) (nI cc) (f_ans hN (hj5) (w := 0) (by decide) (fv0.trans e41)) ?_
    refine kt_v ?_
    refine wp_store (pc' := 18) (j := 6) (ls' := [_, _, _, _, _, _, _, _, _, _, _]) dL_settles_16 rfl (Nat.le_of_ble_eq_true rfl) rfl rfl ?_
    refine wp_load (pc' := 19) (j := 0) dL_settles_18 rfl rfl rfl ?_
    refine wp_load (pc' := 21) (j := 6) dL_settles_19 rfl rfl rfl ?_
    refine wp_s2 10 60 dL_settles_21 ml_L_120 (Nat.le_of_ble_eq_true rfl) (by omega) (by omega) ?_
    refine w_debt hT (Nat.le_refl _) (Nat.le_refl _) (nI D) (d_ans hN (hcc) (eD)) ?_
    refine kt_v ?_
    refine wp_store (pc' := 26) (j := 7) (ls' := [_, _, _, _, _, _, _, _, _, _, _]) dL_settles_24 rfl (Nat.le_of_ble_eq_true rfl) rfl rfl ?_
    refine wp_load (pc' := 27) (j := 0) dL_settles_26 rfl rfl rfl ?_
    refine wp_load (pc' := 29) (j := 5) dL_settles_27 rfl rfl rfl ?_
    refine wp_iconst (pc' := 30) (4) dL_settles_29 rfl rfl ?_
    refine wp_s3 10 60 dL_settles_30 ml_L_118 (Nat.le_of_ble_eq_true rfl) (by omega) (by omega) ?_
    refine w_fine hT (Nat.le_refl _) (Nat.le_refl _) (1) (f_ans hN (hj5) (w := 4) (by decide) (fv4.trans (congrArg b2i z50))) ?_
    refine kt_v ?_
    refine wp_load (pc' := 34) (j := 0) dL_settles_33 rfl rfl rfl ?_
    refine wp_load (pc' := 36) (j := 5) dL_settles_34 rfl rfl rfl ?_
    refine wp_iconst (pc' := 37) (5) dL_settles_36 rfl rfl ?_
    refine wp_s3 10 60 dL_settles_37 ml_L_118 (Nat.le_of_ble_eq_true rfl) (by omega) (by omega) ?_
    refine w_fine hT (Nat.le_refl _) (Nat.le_refl _) (0) (f_ans hN (hj5) (w := 5) (by decide) (fv5.trans (congrArg b2i z51))) ?_
    refine kt_v ?_
    refine wp_pure (pc' := 41) dL_settles_40 rfl rfl ?_
    refine wp_ifT 48 dL_settles_41 rfl (cmpT rfl) ?_
    refine wp_iconst (pc' := 49) (0) dL_settles_48 rfl rfl ?_
    refine wp_store (pc' := 51) (j := 8) (ls' := [_, _, _, _, _, _, _, _, _, _, _]) dL_settles_49 rfl (Nat.le_of_ble_eq_true rfl) rfl rfl ?_
    refine wp_load (pc' := 53) (j := 4) dL_settles_51 rfl rfl rfl ?_
    refine wp_iconst (pc' := 54) (3) dL_settles_53 rfl rfl ?_
    refine wp_s2 0 0 dL_settles_54 ml_L_104 (Nat.le_of_ble_eq_true rfl) (by omega) (by omega) ?_
    refine w_low _ (n := 3) (by decide) (by decide) (fun rq hrq erq => ?_)
    refine kt_v ?_
    refine wp_if_ne (pc' := 60) 137 dL_settles_57 rfl rfl (fun h57 => ?_) (fun h57 => ?_)
    · skip
      skip
      refine wp_load (pc' := 139) (j := 4) dL_settles_137 rfl rfl rfl ?_
      refine wp_iconst (pc' := 140) (3) dL_settles_139 rfl rfl ?_
      refine wp_s2 0 0 dL_settles_140 ml_L_104 (Nat.le_of_ble_eq_true rfl) (by omega) (by omega) ?_
      refine w_low _ (n := 3) (by decide) (by decide) (fun rr hrr err => ?_)
      refine kt_v ?_
      refine wp_iconst (pc' := 144) (1) dL_settles_143 rfl rfl ?_
      refine wp_icmp_ne (pc' := 147) 228 dL_settles_144 rfl rfl (fun h144 => ?_) (fun h144 => ?_)
      · skip
        skip
        exact s_ap rfl hO hk hW hP (by omega) (by omega) hj5 hcc e41 hD eD
      · skip
        skip
        exact s_tow rfl hO hk hW hP (by omega) (by omega) hj5 hcc e41 hD eD
    · skip
      skip
      exact s_pf0 rfl hO hk hW hP (by omega) (by omega) hj5 hcc e41 hD eD (by rw [z50, z51]; rfl)

set_option maxRecDepth 20000 in
set_option maxHeartbeats 2000000 in
theorem t_settles {E : XE} {d mc ms : Nat} {P : Ps} {own : Nat → Nat} {x ag al au aT k : Nat} {σ : MS} {N : Nat → Nat} {G : HP} (hO : OWN own ag al au aT) (hk : k < 60) (hW : LW E own x ag al au aT σ N k G) (hP : ∀ σ' N' G', LW E own x ag al au aT σ' N' (k + 1) G' → P (.inl (some (.int 1))) G') {a b : Int32} (hmc : 300 ≤ mc) (hms : 8000 ≤ ms) (h0 : 0 < N 5) : Sp E (d + 13) yL_settles mc ms [.ref x, .ref ag, .ref aT, .int a, .int b] G P := by
  obtain ⟨o1, o2, o3, o4, o5, o6, o7, o8, o9, o10⟩ := id hO
  obtain ⟨hT, hX, ⟨g, hg, g0, g1, g2, g3, g4, g5⟩, ⟨l, hl, ll⟩, ⟨u, hu, uu⟩, ⟨t, ht, t1, t2⟩⟩ := id hW
  have hN := tk_N hT
  have hI := tk_I hT
  obtain ⟨n0, n1, n2, n3, n4, n5, e7, e22, e29, e35, e40⟩ := id hN
  refine sp_intro bd_L_settles (v1_all rfl) (Nat.le_of_ble_eq_true rfl) ?_
  change WX _ _ _ _ _ _ 0 [some (.ref x), some (.ref ag), some (.ref aT), some (.int a), some (.int b), none, none, none, none, none, none] [] _ 0 0
  refine wp_load (pc' := 1) (j := 3) dL_settles_0 rfl rfl rfl ?_
  refine wp_load (pc' := 2) (j := 1) dL_settles_1 rfl rfl rfl ?_
  refine wp_iconst (pc' := 3) (5) dL_settles_2 rfl rfl ?_
  refine wp_iald (pc' := 4) dL_settles_3 hg rfl (by decide) (by decide) rfl ?_
  rw [g5]
  refine wp_s2 0 0 dL_settles_4 ml_L_104 (Nat.le_of_ble_eq_true rfl) (by omega) (by omega) ?_
  refine w_low _ (n := (N 5)) h0 (by omega) (fun rj hrj erj => ?_)
  refine kt_v ?_
  refine wp_store (pc' := 9) (j := 5) (ls' := [_, _, _, _, _, _, _, _, _, _, _]) dL_settles_7 rfl (Nat.le_of_ble_eq_true rfl) rfl rfl ?_
  exact s_set rfl hO hk hW hP hmc hms hrj

