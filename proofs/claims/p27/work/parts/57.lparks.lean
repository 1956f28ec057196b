/-! the law parks cars -/
set_option maxRecDepth 20000 in
set_option maxHeartbeats 4000000 in
theorem s_again {E : XE} {d0 d mc ms : Nat} {P : Ps} {own : Nat → Nat} {x ag al au aT k : Nat} {σ : MS} {N : Nat → Nat} {G : HP} (hd : d = d0 + 12) (hO : OWN own ag al au aT) (hk : k < 60) (hW : LW E own x ag al au aT σ N k G) (hP : ∀ σ' N' G', LW E own x ag al au aT σ' N' (k + 1) G' → P (.inl (some (.int 1))) G') {a b : Int32} (hmc : 100 ≤ mc) (hms : 6000 ≤ ms) {rc rs : Nat} (hrc : rc < N 2) (hrs : rs < 4) {z9 z10 : Option Value} (hs : ¬ σ.2.1 25 rc = -1) : WX E d (yL_parks, cL_parks, (some .boolean), []) mc ms P 49 [some (.ref x), some (.ref ag), some (.ref al), some (.ref aT), some (.int a), some (.int b), some (.int (nI rc)), some (.int (nI rs)), some (.int (σ.2.1 25 rc)), z9, z10] [.int (nI rc), .ref aT] G 0 0 := by
  subst hd
  obtain ⟨o1, o2, o3, o4, o5, o6, o7, o8, o9, o10⟩ := id hO
  obtain ⟨hT, hX, ⟨g, hg, g0, g1, g2, g3, g4, g5⟩, ⟨l, hl, ll⟩, ⟨u, hu, uu⟩, ⟨t, ht, t1, t2⟩⟩ := id hW
  have hN := tk_N hT
  have hI := tk_I hT
  obtain ⟨n0, n1, n2, n3, n4, n5, e7, e22, e29, e35, e40⟩ := id hN
  refine wp_load (pc' := 51) (j := 8) dL_parks_49 rfl rfl rfl ?_
  refine wp_iaw (pc' := 52) dL_parks_51 ht rfl (show rc < 30 by omega) (by decide) rfl (fun G1 hw1 hr1 => ?_)
  have hg1 := (hr1 ag o7).trans hg
  have hl1 := (hr1 al o9).trans hl
  have hu1 := (hr1 au o10).trans hu
  have hT1 := tk_put o4 hw1 hr1 hT
  refine wp_load (pc' := 53) (j := 3) dL_parks_52 rfl rfl rfl ?_
  refine wp_load (pc' := 55) (j := 6) dL_parks_53 rfl rfl rfl ?_
  refine wp_iald (pc' := 56) dL_parks_55 hw1 rfl (show rc < 30 by omega) (by decide) rfl ?_
  rw [up_s]
  refine wp_ifF (pc' := 59) 81 dL_parks_56 rfl rfl (fun z => hs (off_of hI hrc z)) ?_
  refine wp_load (pc' := 60) (j := 0) dL_parks_59 rfl rfl rfl ?_
  refine wp_load (pc' := 62) (j := 6) dL_parks_60 rfl rfl rfl ?_
  refine wp_load (pc' := 64) (j := 7) dL_parks_62 rfl rfl rfl ?_
  refine wp_iconst (pc' := 65) (0) dL_parks_64 rfl rfl ?_
  refine wp_s4 10 1000 dL_parks_65 ml_L_136 (Nat.le_of_ble_eq_true rfl) (by omega) (by omega) ?_
  refine w_park hT1 (Nat.le_refl _) (Nat.le_refl _) (by omega) (fun z => ?_) (fun z => absurd (z.symm.trans (show K_park σ (N 2) (nI rc) (nI rs) 0 = 2 from K_pk_2 (b := 0) hN hrc hrs (by decide) (by rw [decide_eq_false hs, Bool.false_and]))) (by decide))
  rw [rsQ_2 (show K_park σ (N 2) (nI rc) (nI rs) 0 = 2 from K_pk_2 (b := 0) hN hrc hrs (by decide) (by rw [decide_eq_false hs, Bool.false_and]))]
  refine kt_v ?_
  refine wp_ldc (pc' := 70) dL_parks_68 kw_L_36 rfl ?_
  refine wp_icmpF (pc' := 73) 77 dL_parks_70 rfl rfl (cmpF rfl) ?_
  refine wp_iconst (pc' := 74) (1) dL_parks_73 rfl rfl ?_
  refine wp_goto 105 dL_parks_74 rfl ?_
  refine wp_iret dL_parks_105 rfl rfl ?_
  exact hP _ _ _ (lw_end hk hT1 hX ⟨_, hg1, g0, g1, g2, g3, g4, g5⟩ ⟨_, hl1, ll⟩ ⟨_, hu1, uu⟩ ⟨_, hw1, ta_same t1 rfl, ta_out hrc t2⟩)

set_option maxRecDepth 20000 in
set_option maxHeartbeats 4000000 in
theorem s_leave {E : XE} {d0 d mc ms : Nat} {P : Ps} {own : Nat → Nat} {x ag al au aT k : Nat} {σ : MS} {N : Nat → Nat} {G : HP} (hd : d = d0 + 12) (hO : OWN own ag al au aT) (hk : k < 60) (hW : LW E own x ag al au aT σ N k G) (hP : ∀ σ' N' G', LW E own x ag al au aT σ' N' (k + 1) G' → P (.inl (some (.int 1))) G') {a b : Int32} (hmc : 100 ≤ mc) (hms : 6000 ≤ ms) {rc rs : Nat} (hrc : rc < N 2) (hrs : rs < 4) {z8 z9 z10 : Option Value} (hs : ¬ σ.2.1 25 rc = -1) : WX E d (yL_parks, cL_parks, (some .boolean), []) mc ms P 45 [some (.ref x), some (.ref ag), some (.ref al), some (.ref aT), some (.int a), some (.int b), some (.int (nI rc)), some (.int (nI rs)), z8, z9, z10] [.int (nI rc), .ref aT] G 0 0 := by
  subst hd
  obtain ⟨o1, o2, o3, o4, o5, o6, o7, o8, o9, o10⟩ := id hO
  obtain ⟨hT, hX, ⟨g, hg, g0, g1, g2, g3, g4, g5⟩, ⟨l, hl, ll⟩, ⟨u, hu, uu⟩, ⟨t, ht, t1, t2⟩⟩ := id hW
  have hN := tk_N hT
  have hI := tk_I hT
  obtain ⟨n0, n1, n2, n3, n4, n5, e7, e22, e29, e35, e40⟩ := id hN
  obtain ⟨⟨t0, ht0, et0, xs, -⟩, -⟩ := id hX
  obtain ⟨u0, hu0, eu0⟩ := xs rc hrc hs
  refine wp_iconst (pc' := 46) (-1) dL_parks_45 rfl rfl ?_
  refine wp_goto 51 dL_parks_46 rfl ?_
  refine wp_iaw (pc' := 52) dL_parks_51 ht rfl (show rc < 30 by omega) (by decide) rfl (fun G1 hw1 hr1 => ?_)
  have hg1 := (hr1 ag o7).trans hg
  have hl1 := (hr1 al o9).trans hl
  have hu1 := (hr1 au o10).trans hu
  have hT1 := tk_put o4 hw1 hr1 hT
  refine wp_load (pc' := 53) (j := 3) dL_parks_52 rfl rfl rfl ?_
  refine wp_load (pc' := 55) (j := 6) dL_parks_53 rfl rfl rfl ?_
  refine wp_iald (pc' := 56) dL_parks_55 hw1 rfl (show rc < 30 by omega) (by decide) rfl ?_
  rw [up_s]
  refine wp_ifT 81 dL_parks_56 rfl (cmpT rfl) ?_
  refine wp_load (pc' := 82) (j := 0) dL_parks_81 rfl rfl rfl ?_
  refine wp_load (pc' := 84) (j := 6) dL_parks_82 rfl rfl rfl ?_
  refine wp_s2 10 1000 dL_parks_84 ml_L_138 (Nat.le_of_ble_eq_true rfl) (by omega) (by omega) ?_
  refine w_leave hT1 (Nat.le_refl _) (Nat.le_refl _) (fun z => absurd (K_le_0 hN hrc hs) z) (fun hK0 j hj he G2 hT2 hF2 => ?_)
  have ej : j = rc := ((nI_eq (show rc < 2 ^ 31 by omega) (show j < 2 ^ 31 by omega)).1 he).symm
  rw [ej] at hT2
  rw [ej, et0, eu0, pk_sub hu0]
  refine kt_v ?_
  have hg2 := (hF2 ag o1).trans hg1
  have hl2 := (hF2 al o2).trans hl1
  have hu2 := (hF2 au o3).trans hu1
  have ht2 := (hF2 aT o4).trans hw1
  refine wp_ifF (pc' := 90) 104 dL_parks_87 rfl rfl (nI_pos (by omega)) ?_
  refine wp_load (pc' := 91) (j := 0) dL_parks_90 rfl rfl rfl ?_
  refine wp_load (pc' := 93) (j := 6) dL_parks_91 rfl rfl rfl ?_
  refine wp_s2 10 60 dL_parks_93 ml_L_125 (Nat.le_of_ble_eq_true rfl) (by omega) (by omega) ?_
  refine w_judge hT2 (Nat.le_refl _) (Nat.le_refl _) (-1) (j_ans (tk_N hT2) (hrc) (if_pos (show (mar (zz σ) 25 rc (-1)).2.1 25 rc = -1 from mar_s))) ?_
  refine kt_v ?_
  refine wp_iconst (pc' := 97) (-1) dL_parks_96 rfl rfl ?_
  refine wp_icmpF (pc' := 100) 104 dL_parks_97 rfl rfl (cmpF rfl) ?_
  refine wp_iconst (pc' := 101) (1) dL_parks_100 rfl rfl ?_
  refine wp_goto 105 dL_parks_101 rfl ?_
  refine wp_iret dL_parks_105 rfl rfl ?_
  exact hP _ _ _ (lw_end hk hT2 (xi_off hX) ⟨_, hg2, g0, g1, g2, g3, g4, g5⟩ ⟨_, hl2, ll⟩ ⟨_, hu2, uu⟩ ⟨_, ht2, ta_set t1, ta_out hrc t2⟩)

set_option maxRecDepth 20000 in
set_option maxHeartbeats 4000000 in
theorem s_no {E : XE} {d0 d mc ms : Nat} {P : Ps} {own : Nat → Nat} {x ag al au aT k : Nat} {σ : MS} {N : Nat → Nat} {G : HP} (hd : d = d0 + 12) (hO : OWN own ag al au aT) (hk : k < 60) (hW : LW E own x ag al au aT σ N k G) (hP : ∀ σ' N' G', LW E own x ag al au aT σ' N' (k + 1) G' → P (.inl (some (.int 1))) G') {a b : Int32} {c n : Nat} (hc : c + 60 ≤ mc) (hn : n + 4000 ≤ ms) {rc rs : Nat} (hrc : rc < N 2) (hrs : rs < 4) {z9 z10 : Option Value} (hs : σ.2.1 25 rc = -1) {L mt : Nat} (hmt : mt < 60) (hL3 : 3 ≤ L) (hL12 : L ≤ 12) (eL : σ.2.1 23 rc = nI L) (hg0 : gapB σ (nI rs) (nI mt) (nI L) (N 2) = false) : WX E d (yL_parks, cL_parks, (some .boolean), []) mc ms P 150 [some (.ref x), some (.ref ag), some (.ref al), some (.ref aT), some (.int a), some (.int b), some (.int (nI rc)), some (.int (nI rs)), some (.int (-1)), z9, z10] [.int (nI mt)] G c n := by
  subst hd
  obtain ⟨o1, o2, o3, o4, o5, o6, o7, o8, o9, o10⟩ := id hO
  obtain ⟨hT, hX, ⟨g, hg, g0, g1, g2, g3, g4, g5⟩, ⟨l, hl, ll⟩, ⟨u, hu, uu⟩, ⟨t, ht, t1, t2⟩⟩ := id hW
  have hN := tk_N hT
  have hI := tk_I hT
  obtain ⟨n0, n1, n2, n3, n4, n5, e7, e22, e29, e35, e40⟩ := id hN
  refine wp_store (pc' := 152) (j := 9) (ls' := [_, _, _, _, _, _, _, _, _, _, _]) dL_parks_150 rfl (Nat.le_of_ble_eq_true rfl) rfl rfl ?_
  refine wp_load (pc' := 153) (j := 0) dL_parks_152 rfl rfl rfl ?_
  refine wp_load (pc' := 155) (j := 6) dL_parks_153 rfl rfl rfl ?_
  refine wp_load (pc' := 157) (j := 7) dL_parks_155 rfl rfl rfl ?_
  refine wp_load (pc' := 159) (j := 9) dL_parks_157 rfl rfl rfl ?_
  refine wp_s4 10 1000 dL_parks_159 ml_L_136 (Nat.le_of_ble_eq_true rfl) (by omega) (by omega) ?_
  refine w_park hT (Nat.le_refl _) (Nat.le_refl _) (by omega) (fun z => ?_) (fun z => absurd (z.symm.trans (K_pk_2 hN hrc hrs hmt (by rw [eL, hg0, Bool.and_false]))) (by decide))
  rw [rsQ_2 (K_pk_2 hN hrc hrs hmt (by rw [eL, hg0, Bool.and_false]))]
  refine kt_v ?_
  refine wp_store (pc' := 164) (j := 10) (ls' := [_, _, _, _, _, _, _, _, _, _, _]) dL_parks_162 rfl (Nat.le_of_ble_eq_true rfl) rfl rfl ?_
  refine wp_load (pc' := 166) (j := 8) dL_parks_164 rfl rfl rfl ?_
  refine wp_ifT 176 dL_parks_166 rfl (cmpT rfl) ?_
  refine wp_load (pc' := 178) (j := 10) dL_parks_176 rfl rfl rfl ?_
  refine wp_ldc (pc' := 180) dL_parks_178 kw_L_36 rfl ?_
  refine wp_icmpF (pc' := 183) 198 dL_parks_180 rfl rfl (cmpF rfl) ?_
  refine wp_load (pc' := 184) (j := 0) dL_parks_183 rfl rfl rfl ?_
  refine wp_load (pc' := 186) (j := 6) dL_parks_184 rfl rfl rfl ?_
  refine wp_s2 10 1000 dL_parks_186 ml_L_138 (Nat.le_of_ble_eq_true rfl) (by omega) (by omega) ?_
  refine w_leave hT (Nat.le_refl _) (Nat.le_refl _) (fun z => ?_) (fun z => absurd (z.symm.trans (K_le_2 hN hrc hs)) (by decide))
  rw [rsQ_2 (K_le_2 hN hrc hs)]
  refine kt_v ?_
  refine wp_ldc (pc' := 191) dL_parks_189 kw_L_36 rfl ?_
  refine wp_icmpF (pc' := 194) 198 dL_parks_191 rfl rfl (cmpF rfl) ?_
  refine wp_iconst (pc' := 195) (1) dL_parks_194 rfl rfl ?_
  refine wp_goto 199 dL_parks_195 rfl ?_
  refine wp_iret dL_parks_199 rfl rfl ?_
  exact hP _ _ _ (lw_up hk hW)

set_option maxRecDepth 20000 in
set_option maxHeartbeats 4000000 in
theorem s_yes {E : XE} {d0 d mc ms : Nat} {P : Ps} {own : Nat → Nat} {x ag al au aT k : Nat} {σ : MS} {N : Nat → Nat} {G : HP} (hd : d = d0 + 12) (hO : OWN own ag al au aT) (hk : k < 60) (hW : LW E own x ag al au aT σ N k G) (hP : ∀ σ' N' G', LW E own x ag al au aT σ' N' (k + 1) G' → P (.inl (some (.int 1))) G') {a b : Int32} {c n : Nat} (hc : c + 60 ≤ mc) (hn : n + 4000 ≤ ms) {rc rs : Nat} (hrc : rc < N 2) (hrs : rs < 4) {z9 z10 : Option Value} (hs : σ.2.1 25 rc = -1) {L mt : Nat} (hmt : mt < 60) (hL3 : 3 ≤ L) (hL12 : L ≤ 12) (eL : σ.2.1 23 rc = nI L) {m : Nat} (hm : m < 60) (hgm : gapB σ (nI rs) (nI m) (nI L) (N 2) = true) (hlow : ∀ m', m' < m → gapB σ (nI rs) (nI m') (nI L) (N 2) = false) : WX E d (yL_parks, cL_parks, (some .boolean), []) mc ms P 150 [some (.ref x), some (.ref ag), some (.ref al), some (.ref aT), some (.int a), some (.int b), some (.int (nI rc)), some (.int (nI rs)), some (.int (nI m)), z9, z10] [.int (nI mt)] G c n := by
  subst hd
  obtain ⟨o1, o2, o3, o4, o5, o6, o7, o8, o9, o10⟩ := id hO
  obtain ⟨hT, hX, ⟨g, hg, g0, g1, g2, g3, g4, g5⟩, ⟨l, hl, ll⟩, ⟨u, hu, uu⟩, ⟨t, ht, t1, t2⟩⟩ := id hW
  have hN := tk_N hT
  have hI := tk_I hT
  obtain ⟨n0, n1, n2, n3, n4, n5, e7, e22, e29, e35, e40⟩ := id hN
  rcases Nat.lt_or_ge mt m with hA | hA
  rotate_left
  rcases hB : gapB σ (nI rs) (nI mt) (nI L) (N 2) with _ | _
  · skip
    have hmm : ¬ nI mt = nI m := fun z => by
      have := (nI_eq (show mt < 2 ^ 31 by omega) (show m < 2 ^ 31 by omega)).1 z
      rw [this, hgm] at hB
      exact nomatch hB
    refine wp_store (pc' := 152) (j := 9) (ls' := [_, _, _, _, _, _, _, _, _, _, _]) dL_parks_150 rfl (Nat.le_of_ble_eq_true rfl) rfl rfl ?_
    refine wp_load (pc' := 153) (j := 0) dL_parks_152 rfl rfl rfl ?_
    refine wp_load (pc' := 155) (j := 6) dL_parks_153 rfl rfl rfl ?_
    refine wp_load (pc' := 157) (j := 7) dL_parks_155 rfl rfl rfl ?_
    refine wp_load (pc' := 159) (j := 9) dL_parks_157 rfl rfl rfl ?_
    refine wp_s4 10 1000 dL_parks_159 ml_L_136 (Nat.le_of_ble_eq_true rfl) (by omega) (by omega) ?_
    refine w_park hT (Nat.le_refl _) (Nat.le_refl _) (by omega) (fun z => ?_) (fun z => absurd (z.symm.trans (K_pk_2 hN hrc hrs hmt (by rw [eL, hB, Bool.and_false]))) (by decide))
    rw [rsQ_2 (K_pk_2 hN hrc hrs hmt (by rw [eL, hB, Bool.and_false]))]
    refine kt_v ?_
    refine wp_store (pc' := 164) (j := 10) (ls' := [_, _, _, _, _, _, _, _, _, _, _]) dL_parks_162 rfl (Nat.le_of_ble_eq_true rfl) rfl rfl ?_
    refine wp_load (pc' := 166) (j := 8) dL_parks_164 rfl rfl rfl ?_
    refine wp_ifF (pc' := 169) 176 dL_parks_166 rfl rfl (nI_pos (by omega)) ?_
    refine wp_load (pc' := 171) (j := 9) dL_parks_169 rfl rfl rfl ?_
    refine wp_load (pc' := 173) (j := 8) dL_parks_171 rfl rfl rfl ?_
    refine wp_icmpT 200 dL_parks_173 rfl (nI_le hA (by omega)) ?_
    refine wp_load (pc' := 201) (j := 3) dL_parks_200 rfl rfl rfl ?_
    refine wp_load (pc' := 203) (j := 6) dL_parks_201 rfl rfl rfl ?_
    refine wp_load (pc' := 205) (j := 10) dL_parks_203 rfl rfl rfl ?_
    refine wp_ifT 213 dL_parks_205 rfl (cmpT rfl) ?_
    refine wp_iconst (pc' := 214) (-1) dL_parks_213 rfl rfl ?_
    refine wp_iaw (pc' := 215) dL_parks_214 ht rfl (show rc < 30 by omega) (by decide) rfl (fun G1 hw1 hr1 => ?_)
    have hg1 := (hr1 ag o7).trans hg
    have hl1 := (hr1 al o9).trans hl
    have hu1 := (hr1 au o10).trans hu
    have hT1 := tk_put o4 hw1 hr1 hT
    refine wp_load (pc' := 217) (j := 9) dL_parks_215 rfl rfl rfl ?_
    refine wp_load (pc' := 218) (j := 2) dL_parks_217 rfl rfl rfl ?_
    refine wp_load (pc' := 220) (j := 6) dL_parks_218 rfl rfl rfl ?_
    refine wp_iald (pc' := 221) dL_parks_220 hl1 rfl (show rc < 30 by omega) (by decide) rfl ?_
    rw [ll rc hrc, eL]
    refine wp_pure (pc' := 222) dL_parks_221 rfl rfl ?_
    refine wp_bipush (pc' := 224) (60) dL_parks_222 rfl rfl ?_
    refine wp_icmp_le (pc' := 227) 242 dL_parks_224 rfl rfl (fun h224 => ?_) (fun h224 => ?_)
    · skip
      skip
      refine wp_load (pc' := 244) (j := 10) dL_parks_242 rfl rfl rfl ?_
      refine wp_load (pc' := 246) (j := 9) dL_parks_244 rfl rfl rfl ?_
      refine wp_load (pc' := 248) (j := 8) dL_parks_246 rfl rfl rfl ?_
      refine wp_icmpT 255 dL_parks_248 rfl hmm ?_
      refine wp_load (pc' := 257) (j := 10) dL_parks_255 rfl rfl rfl ?_
      refine wp_icmpF (pc' := 260) 280 dL_parks_257 rfl rfl (cmpF rfl) ?_
      refine wp_load (pc' := 262) (j := 10) dL_parks_260 rfl rfl rfl ?_
      refine wp_ldc (pc' := 264) dL_parks_262 kw_L_36 rfl ?_
      refine wp_icmpT 276 dL_parks_264 rfl (cmpT rfl) ?_
      refine wp_iconst (pc' := 277) (1) dL_parks_276 rfl rfl ?_
      refine wp_goto 281 dL_parks_277 rfl ?_
      refine wp_iret dL_parks_281 rfl rfl ?_
      exact hP _ _ _ (lw_end hk hT1 hX ⟨_, hg1, g0, g1, g2, g3, g4, g5⟩ ⟨_, hl1, ll⟩ ⟨_, hu1, uu⟩ ⟨_, hw1, ta_same t1 hs.symm, ta_out hrc t2⟩)
    · skip
      skip
      refine wp_load (pc' := 229) (j := 10) dL_parks_227 rfl rfl rfl ?_
      refine wp_ldc (pc' := 231) dL_parks_229 kw_L_36 rfl ?_
      refine wp_icmpF (pc' := 234) 238 dL_parks_231 rfl rfl (cmpF rfl) ?_
      refine wp_iconst (pc' := 235) (1) dL_parks_234 rfl rfl ?_
      refine wp_goto 281 dL_parks_235 rfl ?_
      refine wp_iret dL_parks_281 rfl rfl ?_
      exact hP _ _ _ (lw_end hk hT1 hX ⟨_, hg1, g0, g1, g2, g3, g4, g5⟩ ⟨_, hl1, ll⟩ ⟨_, hu1, uu⟩ ⟨_, hw1, ta_same t1 hs.symm, ta_out hrc t2⟩)
  · skip
    have hmL : mt + L ≤ 60 := by
      have g := gapB_0 _ hB
      have q2 : ¬ (60 : Int32) < nI mt + nI L := fun z => by
        rw [gapB, decide_eq_true z] at g
        exact nomatch g
      rw [nI_add] at q2
      rcases Nat.lt_or_ge 60 (mt + L) with z | z
      · exact absurd (show nI 60 < nI (mt + L) from nI_lt z (by omega)) q2
      · exact z
    have hmx : mt + ix (σ.2.1 23 rc) ≤ 60 := by
      rw [eL, ix_nI (by omega)]
      exact hmL
    have hBL : gapB σ (nI rs) (nI mt) (σ.2.1 23 rc) (N 2) = true := by
      rw [eL]
      exact hB
    refine wp_store (pc' := 152) (j := 9) (ls' := [_, _, _, _, _, _, _, _, _, _, _]) dL_parks_150 rfl (Nat.le_of_ble_eq_true rfl) rfl rfl ?_
    refine wp_load (pc' := 153) (j := 0) dL_parks_152 rfl rfl rfl ?_
    refine wp_load (pc' := 155) (j := 6) dL_parks_153 rfl rfl rfl ?_
    refine wp_load (pc' := 157) (j := 7) dL_parks_155 rfl rfl rfl ?_
    refine wp_load (pc' := 159) (j := 9) dL_parks_157 rfl rfl rfl ?_
    refine wp_s4 10 1000 dL_parks_159 ml_L_136 (Nat.le_of_ble_eq_true rfl) (by omega) (by omega) ?_
    refine w_park hT (Nat.le_refl _) (Nat.le_refl _) (by omega) (fun z => absurd (K_pk_0 hN hrc hrs hmt hs hBL) z) (fun hK0 j hj he G1 hT1 hF1 => ?_)
    have ej : j = rc := ((nI_eq (show rc < 2 ^ 31 by omega) (show j < 2 ^ 31 by omega)).1 he).symm
    rw [ej] at hT1
    refine kt_v ?_
    have hg1 := (hF1 ag o1).trans hg
    have hl1 := (hF1 al o2).trans hl
    have hu1 := (hF1 au o3).trans hu
    have ht1 := (hF1 aT o4).trans ht
    refine wp_store (pc' := 164) (j := 10) (ls' := [_, _, _, _, _, _, _, _, _, _, _]) dL_parks_162 rfl (Nat.le_of_ble_eq_true rfl) rfl rfl ?_
    refine wp_load (pc' := 166) (j := 8) dL_parks_164 rfl rfl rfl ?_
    refine wp_ifF (pc' := 169) 176 dL_parks_166 rfl rfl (nI_pos (by omega)) ?_
    refine wp_load (pc' := 171) (j := 9) dL_parks_169 rfl rfl rfl ?_
    refine wp_load (pc' := 173) (j := 8) dL_parks_171 rfl rfl rfl ?_
    refine wp_icmpT 200 dL_parks_173 rfl (nI_le hA (by omega)) ?_
    refine wp_load (pc' := 201) (j := 3) dL_parks_200 rfl rfl rfl ?_
    refine wp_load (pc' := 203) (j := 6) dL_parks_201 rfl rfl rfl ?_
    refine wp_load (pc' := 205) (j := 10) dL_parks_203 rfl rfl rfl ?_
    refine wp_ifF (pc' := 208) 213 dL_parks_205 rfl rfl (cmpF rfl) ?_
    refine wp_load (pc' := 210) (j := 7) dL_parks_208 rfl rfl rfl ?_
    refine wp_goto 214 dL_parks_210 rfl ?_
    refine wp_iaw (pc' := 215) dL_parks_214 ht1 rfl (show rc < 30 by omega) (by decide) rfl (fun G2 hw2 hr2 => ?_)
    have hg2 := (hr2 ag o7).trans hg1
    have hl2 := (hr2 al o9).trans hl1
    have hu2 := (hr2 au o10).trans hu1
    have hT2 := tk_put o4 hw2 hr2 hT1
    refine wp_load (pc' := 217) (j := 9) dL_parks_215 rfl rfl rfl ?_
    refine wp_load (pc' := 218) (j := 2) dL_parks_217 rfl rfl rfl ?_
    refine wp_load (pc' := 220) (j := 6) dL_parks_218 rfl rfl rfl ?_
    refine wp_iald (pc' := 221) dL_parks_220 hl2 rfl (show rc < 30 by omega) (by decide) rfl ?_
    rw [ll rc hrc, eL]
    refine wp_pure (pc' := 222) dL_parks_221 rfl rfl ?_
    rw [nI_add]
    refine wp_bipush (pc' := 224) (60) dL_parks_222 rfl rfl ?_
    refine wp_icmpT 242 dL_parks_224 rfl (show nI (mt + L) ≤ nI 60 from nI_le hmL (by decide)) ?_
    refine wp_load (pc' := 244) (j := 10) dL_parks_242 rfl rfl rfl ?_
    refine wp_load (pc' := 246) (j := 9) dL_parks_244 rfl rfl rfl ?_
    refine wp_load (pc' := 248) (j := 8) dL_parks_246 rfl rfl rfl ?_
    refine wp_icmp_ne (pc' := 251) 255 dL_parks_248 rfl rfl (fun h248 => ?_) (fun h248 => ?_)
    · skip
      skip
      refine wp_load (pc' := 257) (j := 10) dL_parks_255 rfl rfl rfl ?_
      refine wp_icmpF (pc' := 260) 280 dL_parks_257 rfl rfl (cmpF rfl) ?_
      refine wp_load (pc' := 262) (j := 10) dL_parks_260 rfl rfl rfl ?_
      refine wp_ldc (pc' := 264) dL_parks_262 kw_L_36 rfl ?_
      refine wp_icmpF (pc' := 267) 276 dL_parks_264 rfl rfl (cmpF rfl) ?_
      refine wp_load (pc' := 268) (j := 0) dL_parks_267 rfl rfl rfl ?_
      refine wp_load (pc' := 270) (j := 6) dL_parks_268 rfl rfl rfl ?_
      refine wp_s2 10 60 dL_parks_270 ml_L_125 (Nat.le_of_ble_eq_true rfl) (by omega) (by omega) ?_
      refine w_judge hT2 (Nat.le_refl _) (Nat.le_refl _) (judNow (parkF σ rc (nI rs) (nI mt)) rc) (j_ans (tk_N hT2) (hrc) (if_neg (show ¬ (parkF σ rc (nI rs) (nI mt)).2.1 25 rc = -1 from fun z => nI_nm1 (show rs < 2 ^ 31 by omega) (up_s.symm.trans z)))) ?_
      refine kt_v ?_
      refine wp_ifF (pc' := 276) 280 dL_parks_273 rfl rfl judNow_pos ?_
      refine wp_iconst (pc' := 277) (1) dL_parks_276 rfl rfl ?_
      refine wp_goto 281 dL_parks_277 rfl ?_
      refine wp_iret dL_parks_281 rfl rfl ?_
      exact hP _ _ _ (lw_end1 hT2 (xi_park hI n2 hX hrc hrs hmx hBL) ⟨_, hg2, g0, g1, g2, g3, g4, g5⟩ ⟨_, hl2, ll⟩ ⟨_, hu2, uu⟩ ⟨_, hw2, ta_set t1, ta_out hrc t2⟩)
    · skip
      skip
      refine wp_iconst (pc' := 252) (0) dL_parks_251 rfl rfl ?_
      refine wp_goto 257 dL_parks_252 rfl ?_
      refine wp_icmpF (pc' := 260) 280 dL_parks_257 rfl rfl (cmpF rfl) ?_
      refine wp_load (pc' := 262) (j := 10) dL_parks_260 rfl rfl rfl ?_
      refine wp_ldc (pc' := 264) dL_parks_262 kw_L_36 rfl ?_
      refine wp_icmpF (pc' := 267) 276 dL_parks_264 rfl rfl (cmpF rfl) ?_
      refine wp_load (pc' := 268) (j := 0) dL_parks_267 rfl rfl rfl ?_
      refine wp_load (pc' := 270) (j := 6) dL_parks_268 rfl rfl rfl ?_
      refine wp_s2 10 60 dL_parks_270 ml_L_125 (Nat.le_of_ble_eq_true rfl) (by omega) (by omega) ?_
      refine w_judge hT2 (Nat.le_refl _) (Nat.le_refl _) (judNow (parkF σ rc (nI rs) (nI mt)) rc) (j_ans (tk_N hT2) (hrc) (if_neg (show ¬ (parkF σ rc (nI rs) (nI mt)).2.1 25 rc = -1 from fun z => nI_nm1 (show rs < 2 ^ 31 by omega) (up_s.symm.trans z)))) ?_
      refine kt_v ?_
      refine wp_ifF (pc' := 276) 280 dL_parks_273 rfl rfl judNow_pos ?_
      refine wp_iconst (pc' := 277) (1) dL_parks_276 rfl rfl ?_
      refine wp_goto 281 dL_parks_277 rfl ?_
      refine wp_iret dL_parks_281 rfl rfl ?_
      exact hP _ _ _ (lw_end1 hT2 (xi_park hI n2 hX hrc hrs hmx hBL) ⟨_, hg2, g0, g1, g2, g3, g4, g5⟩ ⟨_, hl2, ll⟩ ⟨_, hu2, uu⟩ ⟨_, hw2, ta_set t1, ta_out hrc t2⟩)
  · skip
    skip
    refine wp_store (pc' := 152) (j := 9) (ls' := [_, _, _, _, _, _, _, _, _, _, _]) dL_parks_150 rfl (Nat.le_of_ble_eq_true rfl) rfl rfl ?_
    refine wp_load (pc' := 153) (j := 0) dL_parks_152 rfl rfl rfl ?_
    refine wp_load (pc' := 155) (j := 6) dL_parks_153 rfl rfl rfl ?_
    refine wp_load (pc' := 157) (j := 7) dL_parks_155 rfl rfl rfl ?_
    refine wp_load (pc' := 159) (j := 9) dL_parks_157 rfl rfl rfl ?_
    refine wp_s4 10 1000 dL_parks_159 ml_L_136 (Nat.le_of_ble_eq_true rfl) (by omega) (by omega) ?_
    refine w_park hT (Nat.le_refl _) (Nat.le_refl _) (by omega) (fun z => ?_) (fun z => absurd (z.symm.trans (K_pk_2 hN hrc hrs hmt (by rw [eL, hlow mt hA, Bool.and_false]))) (by decide))
    rw [rsQ_2 (K_pk_2 hN hrc hrs hmt (by rw [eL, hlow mt hA, Bool.and_false]))]
    refine kt_v ?_
    refine wp_store (pc' := 164) (j := 10) (ls' := [_, _, _, _, _, _, _, _, _, _, _]) dL_parks_162 rfl (Nat.le_of_ble_eq_true rfl) rfl rfl ?_
    refine wp_load (pc' := 166) (j := 8) dL_parks_164 rfl rfl rfl ?_
    refine wp_ifF (pc' := 169) 176 dL_parks_166 rfl rfl (nI_pos (by omega)) ?_
    refine wp_load (pc' := 171) (j := 9) dL_parks_169 rfl rfl rfl ?_
    refine wp_load (pc' := 173) (j := 8) dL_parks_171 rfl rfl rfl ?_
    refine wp_icmpF (pc' := 176) 200 dL_parks_173 rfl rfl (nI_ge hA (by omega)) ?_
    refine wp_load (pc' := 178) (j := 10) dL_parks_176 rfl rfl rfl ?_
    refine wp_ldc (pc' := 180) dL_parks_178 kw_L_36 rfl ?_
    refine wp_icmpF (pc' := 183) 198 dL_parks_180 rfl rfl (cmpF rfl) ?_
    refine wp_load (pc' := 184) (j := 0) dL_parks_183 rfl rfl rfl ?_
    refine wp_load (pc' := 186) (j := 6) dL_parks_184 rfl rfl rfl ?_
    refine wp_s2 10 1000 dL_parks_186 ml_L_138 (Nat.le_of_ble_eq_true rfl) (by omega) (by omega) ?_
    refine w_leave hT (Nat.le_refl _) (Nat.le_refl _) (fun z => ?_) (fun z => absurd (z.symm.trans (K_le_2 hN hrc hs)) (by decide))
    rw [rsQ_2 (K_le_2 hN hrc hs)]
    refine kt_v ?_
    refine wp_ldc (pc' := 191) dL_parks_189 kw_L_36 rfl ?_
    refine wp_icmpF (pc' := 194) 198 dL_parks_191 rfl rfl (cmpF rfl) ?_
    refine wp_iconst (pc' := 195) (1) dL_parks_194 rfl rfl ?_
    refine wp_goto 199 dL_parks_195 rfl ?_
    refine wp_iret dL_parks_199 rfl rfl ?_
    exact hP _ _ _ (lw_up hk hW)

set_option maxRecDepth 20000 in
set_option maxHeartbeats 4000000 in
theorem s_gap {E : XE} {d0 d mc ms : Nat} {P : Ps} {own : Nat → Nat} {x ag al au aT k : Nat} {σ : MS} {N : Nat → Nat} {G : HP} (hd : d = d0 + 12) (hO : OWN own ag al au aT) (hk : k < 60) (hW : LW E own x ag al au aT σ N k G) (hP : ∀ σ' N' G', LW E own x ag al au aT σ' N' (k + 1) G' → P (.inl (some (.int 1))) G') {a b : Int32} (hmc : 100 ≤ mc) (hms : 6000 ≤ ms) {rc rs : Nat} (hrc : rc < N 2) (hrs : rs < 4) {z8 z9 z10 : Option Value} (hs : σ.2.1 25 rc = -1) : WX E d (yL_parks, cL_parks, (some .boolean), []) mc ms P 106 [some (.ref x), some (.ref ag), some (.ref al), some (.ref aT), some (.int a), some (.int b), some (.int (nI rc)), some (.int (nI rs)), z8, z9, z10] [] G 0 0 := by
  subst hd
  obtain ⟨o1, o2, o3, o4, o5, o6, o7, o8, o9, o10⟩ := id hO
  obtain ⟨hT, hX, ⟨g, hg, g0, g1, g2, g3, g4, g5⟩, ⟨l, hl, ll⟩, ⟨u, hu, uu⟩, ⟨t, ht, t1, t2⟩⟩ := id hW
  have hN := tk_N hT
  have hI := tk_I hT
  obtain ⟨n0, n1, n2, n3, n4, n5, e7, e22, e29, e35, e40⟩ := id hN
  obtain ⟨-, -, p4, -⟩ := id hI
  obtain ⟨⟨L, hL3, hL12, eL⟩, hst⟩ := p4 rc hrc
  rcases gap_spec (σ := σ) (s := nI rs) (l := nI L) (n := N 2) 60 (Nat.le_refl _) with ⟨e1, e2⟩ | ⟨m, -, hm60, e1, e2, e3⟩
  · skip
    skip
    refine wp_load (pc' := 107) (j := 0) dL_parks_106 rfl rfl rfl ?_
    refine wp_load (pc' := 109) (j := 7) dL_parks_107 rfl rfl rfl ?_
    refine wp_load (pc' := 110) (j := 2) dL_parks_109 rfl rfl rfl ?_
    refine wp_load (pc' := 112) (j := 6) dL_parks_110 rfl rfl rfl ?_
    refine wp_iald (pc' := 113) dL_parks_112 hl rfl (show rc < 30 by omega) (by decide) rfl ?_
    rw [ll rc hrc, eL]
    refine wp_s3 10 60 dL_parks_113 ml_L_140 (Nat.le_of_ble_eq_true rfl) (by omega) (by omega) ?_
    refine w_gap hT (Nat.le_refl _) (Nat.le_refl _) (-1) ((rsO_0 (K_gp_0 hrs hL3 hL12)).trans e1).symm ?_
    refine kt_v ?_
    refine wp_store (pc' := 118) (j := 8) (ls' := [_, _, _, _, _, _, _, _, _, _, _]) dL_parks_116 rfl (Nat.le_of_ble_eq_true rfl) rfl rfl ?_
    refine wp_load (pc' := 120) (j := 5) dL_parks_118 rfl rfl rfl ?_
    refine wp_iconst (pc' := 121) (3) dL_parks_120 rfl rfl ?_
    refine wp_s2 0 0 dL_parks_121 ml_L_104 (Nat.le_of_ble_eq_true rfl) (by omega) (by omega) ?_
    refine w_low _ (n := 3) (by decide) (by decide) (fun rq hrq erq => ?_)
    refine kt_v ?_
    refine wp_if_ne (pc' := 127) 139 dL_parks_124 rfl rfl (fun h124 => ?_) (fun h124 => ?_)
    · skip
      skip
      refine wp_load (pc' := 141) (j := 8) dL_parks_139 rfl rfl rfl ?_
      refine wp_ifF (pc' := 144) 148 dL_parks_141 rfl rfl (cmpF rfl) ?_
      refine wp_iconst (pc' := 145) (0) dL_parks_144 rfl rfl ?_
      refine wp_goto 150 dL_parks_145 rfl ?_
      first
        | exact s_no (mt := rp) rfl hO hk hW hP (by omega) (by omega) hrc hrs hs (by omega) hL3 hL12 eL (e2 rp (by omega) hrp)
        | exact s_no (mt := 0) rfl hO hk hW hP (by omega) (by omega) hrc hrs hs (by omega) hL3 hL12 eL (e2 0 (by omega) (by omega))
    · skip
      skip
      refine wp_load (pc' := 129) (j := 5) dL_parks_127 rfl rfl rfl ?_
      refine wp_iconst (pc' := 130) (2) dL_parks_129 rfl rfl ?_
      refine wp_pure (pc' := 131) dL_parks_130 rfl rfl ?_
      refine wp_bipush (pc' := 133) (60) dL_parks_131 rfl rfl ?_
      refine wp_s2 0 0 dL_parks_133 ml_L_104 (Nat.le_of_ble_eq_true rfl) (by omega) (by omega) ?_
      refine w_low _ (n := 60) (by decide) (by decide) (fun rp hrp erp => ?_)
      refine kt_v ?_
      refine wp_goto 150 dL_parks_136 rfl ?_
      first
        | exact s_no (mt := rp) rfl hO hk hW hP (by omega) (by omega) hrc hrs hs (by omega) hL3 hL12 eL (e2 rp (by omega) hrp)
        | exact s_no (mt := 0) rfl hO hk hW hP (by omega) (by omega) hrc hrs hs (by omega) hL3 hL12 eL (e2 0 (by omega) (by omega))
  · skip
    skip
    refine wp_load (pc' := 107) (j := 0) dL_parks_106 rfl rfl rfl ?_
    refine wp_load (pc' := 109) (j := 7) dL_parks_107 rfl rfl rfl ?_
    refine wp_load (pc' := 110) (j := 2) dL_parks_109 rfl rfl rfl ?_
    refine wp_load (pc' := 112) (j := 6) dL_parks_110 rfl rfl rfl ?_
    refine wp_iald (pc' := 113) dL_parks_112 hl rfl (show rc < 30 by omega) (by decide) rfl ?_
    rw [ll rc hrc, eL]
    refine wp_s3 10 60 dL_parks_113 ml_L_140 (Nat.le_of_ble_eq_true rfl) (by omega) (by omega) ?_
    refine w_gap hT (Nat.le_refl _) (Nat.le_refl _) (nI m) ((rsO_0 (K_gp_0 hrs hL3 hL12)).trans e1).symm ?_
    refine kt_v ?_
    refine wp_store (pc' := 118) (j := 8) (ls' := [_, _, _, _, _, _, _, _, _, _, _]) dL_parks_116 rfl (Nat.le_of_ble_eq_true rfl) rfl rfl ?_
    refine wp_load (pc' := 120) (j := 5) dL_parks_118 rfl rfl rfl ?_
    refine wp_iconst (pc' := 121) (3) dL_parks_120 rfl rfl ?_
    refine wp_s2 0 0 dL_parks_121 ml_L_104 (Nat.le_of_ble_eq_true rfl) (by omega) (by omega) ?_
    refine w_low _ (n := 3) (by decide) (by decide) (fun rq hrq erq => ?_)
    refine kt_v ?_
    refine wp_if_ne (pc' := 127) 139 dL_parks_124 rfl rfl (fun h124 => ?_) (fun h124 => ?_)
    · skip
      skip
      refine wp_load (pc' := 141) (j := 8) dL_parks_139 rfl rfl rfl ?_
      refine wp_ifT 148 dL_parks_141 rfl (nI_pos' (by omega)) ?_
      refine wp_load (pc' := 150) (j := 8) dL_parks_148 rfl rfl rfl ?_
      first
        | exact s_yes (mt := rp) (m := m) rfl hO hk hW hP (by omega) (by omega) hrc hrs hs (by omega) hL3 hL12 eL hm60 e2 (fun m' h => e3 m' (by omega) h)
        | exact s_yes (mt := m) (m := m) rfl hO hk hW hP (by omega) (by omega) hrc hrs hs (by omega) hL3 hL12 eL hm60 e2 (fun m' h => e3 m' (by omega) h)
    · skip
      skip
      refine wp_load (pc' := 129) (j := 5) dL_parks_127 rfl rfl rfl ?_
      refine wp_iconst (pc' := 130) (2) dL_parks_129 rfl rfl ?_
      refine wp_pure (pc' := 131) dL_parks_130 rfl rfl ?_
      refine wp_bipush (pc' := 133) (60) dL_parks_131 rfl rfl ?_
      refine wp_s2 0 0 dL_parks_133 ml_L_104 (Nat.le_of_ble_eq_true rfl) (by omega) (by omega) ?_
      refine w_low _ (n := 60) (by decide) (by decide) (fun rp hrp erp => ?_)
      refine kt_v ?_
      refine wp_goto 150 dL_parks_136 rfl ?_
      first
        | exact s_yes (mt := rp) (m := m) rfl hO hk hW hP (by omega) (by omega) hrc hrs hs (by omega) hL3 hL12 eL hm60 e2 (fun m' h => e3 m' (by omega) h)
        | exact s_yes (mt := m) (m := m) rfl hO hk hW hP (by omega) (by omega) hrc hrs hs (by omega) hL3 hL12 eL hm60 e2 (fun m' h => e3 m' (by omega) h)

set_option maxRecDepth 20000 in
set_option maxHeartbeats 4000000 in
theorem s_stands {E : XE} {d0 d mc ms : Nat} {P : Ps} {own : Nat → Nat} {x ag al au aT k : Nat} {σ : MS} {N : Nat → Nat} {G : HP} (hd : d = d0 + 12) (hO : OWN own ag al au aT) (hk : k < 60) (hW : LW E own x ag al au aT σ N k G) (hP : ∀ σ' N' G', LW E own x ag al au aT σ' N' (k + 1) G' → P (.inl (some (.int 1))) G') {a b : Int32} (hmc : 100 ≤ mc) (hms : 6000 ≤ ms) {rc rs : Nat} (hrc : rc < N 2) (hrs : rs < 4) {z8 z9 z10 : Option Value} (hs : ¬ σ.2.1 25 rc = -1) : WX E d (yL_parks, cL_parks, (some .boolean), []) mc ms P 27 [some (.ref x), some (.ref ag), some (.ref al), some (.ref aT), some (.int a), some (.int b), some (.int (nI rc)), some (.int (nI rs)), z8, z9, z10] [] G 0 0 := by
  subst hd
  obtain ⟨o1, o2, o3, o4, o5, o6, o7, o8, o9, o10⟩ := id hO
  obtain ⟨hT, hX, ⟨g, hg, g0, g1, g2, g3, g4, g5⟩, ⟨l, hl, ll⟩, ⟨u, hu, uu⟩, ⟨t, ht, t1, t2⟩⟩ := id hW
  have hN := tk_N hT
  have hI := tk_I hT
  obtain ⟨n0, n1, n2, n3, n4, n5, e7, e22, e29, e35, e40⟩ := id hN
  refine wp_load (pc' := 28) (j := 3) dL_parks_27 rfl rfl rfl ?_
  refine wp_load (pc' := 30) (j := 6) dL_parks_28 rfl rfl rfl ?_
  refine wp_iald (pc' := 31) dL_parks_30 ht rfl (show rc < 30 by omega) (by decide) rfl ?_
  rw [t1 rc hrc]
  refine wp_store (pc' := 33) (j := 8) (ls' := [_, _, _, _, _, _, _, _, _, _, _]) dL_parks_31 rfl (Nat.le_of_ble_eq_true rfl) rfl rfl ?_
  refine wp_load (pc' := 34) (j := 3) dL_parks_33 rfl rfl rfl ?_
  refine wp_load (pc' := 36) (j := 6) dL_parks_34 rfl rfl rfl ?_
  refine wp_load (pc' := 38) (j := 5) dL_parks_36 rfl rfl rfl ?_
  refine wp_iconst (pc' := 39) (3) dL_parks_38 rfl rfl ?_
  refine wp_s2 0 0 dL_parks_39 ml_L_104 (Nat.le_of_ble_eq_true rfl) (by omega) (by omega) ?_
  refine w_low _ (n := 3) (by decide) (by decide) (fun rq hrq erq => ?_)
  refine kt_v ?_
  refine wp_if_ne (pc' := 45) 49 dL_parks_42 rfl rfl (fun h42 => ?_) (fun h42 => ?_)
  · skip
    skip
    exact s_again rfl hO hk hW hP hmc hms hrc hrs hs
  · skip
    skip
    exact s_leave rfl hO hk hW hP hmc hms hrc hrs hs

set_option maxRecDepth 20000 in
set_option maxHeartbeats 2000000 in
theorem t_parks {E : XE} {d mc ms : Nat} {P : Ps} {own : Nat → Nat} {x ag al au aT k : Nat} {σ : MS} {N : Nat → Nat} {G : HP} (hO : OWN own ag al au aT) (hk : k < 60) (hW : LW E own x ag al au aT σ N k G) (hP : ∀ σ' N' G', LW E own x ag al au aT σ' N' (k + 1) G' → P (.inl (some (.int 1))) G') {a b : Int32} (hmc : 100 ≤ mc) (hms : 6000 ≤ ms) (h0 : 0 < N 2) : Sp E (d + 13) yL_parks mc ms [.ref x, .ref ag, .ref al, .ref aT, .int a, .int b] G P := by
  obtain ⟨o1, o2, o3, o4, o5, o6, o7, o8, o9, o10⟩ := id hO
  obtain ⟨hT, hX, ⟨g, hg, g0, g1, g2, g3, g4, g5⟩, ⟨l, hl, ll⟩, ⟨u, hu, uu⟩, ⟨t, ht, t1, t2⟩⟩ := id hW
  have hN := tk_N hT
  have hI := tk_I hT
  obtain ⟨n0, n1, n2, n3, n4, n5, e7, e22, e29, e35, e40⟩ := id hN
  refine sp_intro bd_L_parks (v1_all rfl) (Nat.le_of_ble_eq_true rfl) ?_
  change WX _ _ _ _ _ _ 0 [some (.ref x), some (.ref ag), some (.ref al), some (.ref aT), some (.int a), some (.int b), none, none, none, none, none] [] _ 0 0
  refine wp_load (pc' := 2) (j := 4) dL_parks_0 rfl rfl rfl ?_
  refine wp_load (pc' := 3) (j := 1) dL_parks_2 rfl rfl rfl ?_
  refine wp_iconst (pc' := 4) (2) dL_parks_3 rfl rfl ?_
  refine wp_iald (pc' := 5) dL_parks_4 hg rfl (by decide) (by decide) rfl ?_
  rw [g2]
  refine wp_s2 0 0 dL_parks_5 ml_L_104 (Nat.le_of_ble_eq_true rfl) (by omega) (by omega) ?_
  refine w_low _ (n := (N 2)) h0 (by omega) (fun rc hrc erc => ?_)
  refine kt_v ?_
  refine wp_store (pc' := 10) (j := 6) (ls' := [_, _, _, _, _, _, _, _, _, _, _]) dL_parks_8 rfl (Nat.le_of_ble_eq_true rfl) rfl rfl ?_
  refine wp_load (pc' := 12) (j := 4) dL_parks_10 rfl rfl rfl ?_
  refine wp_iconst (pc' := 13) (5) dL_parks_12 rfl rfl ?_
  refine wp_pure (pc' := 14) dL_parks_13 rfl rfl ?_
  refine wp_iconst (pc' := 15) (4) dL_parks_14 rfl rfl ?_
  refine wp_s2 0 0 dL_parks_15 ml_L_104 (Nat.le_of_ble_eq_true rfl) (by omega) (by omega) ?_
  refine w_low _ (n := 4) (by decide) (by decide) (fun rs hrs ers => ?_)
  refine kt_v ?_
  refine wp_store (pc' := 20) (j := 7) (ls' := [_, _, _, _, _, _, _, _, _, _, _]) dL_parks_18 rfl (Nat.le_of_ble_eq_true rfl) rfl rfl ?_
  refine wp_load (pc' := 21) (j := 3) dL_parks_20 rfl rfl rfl ?_
  refine wp_load (pc' := 23) (j := 6) dL_parks_21 rfl rfl rfl ?_
  refine wp_iald (pc' := 24) dL_parks_23 ht rfl (show rc < 30 by omega) (by decide) rfl ?_
  rw [t1 rc hrc]
  refine wp_if_lt (pc' := 27) 106 dL_parks_24 rfl rfl (fun h24 => ?_) (fun h24 => ?_)
  · skip
    skip
    exact s_gap rfl hO hk hW hP (by omega) (by omega) hrc hrs (off_of hI hrc h24)
  · skip
    skip
    exact s_stands rfl hO hk hW hP (by omega) (by omega) hrc hrs (fun z => h24 (by rw [z]; decide))

