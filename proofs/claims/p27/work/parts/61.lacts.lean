/-! one act of the law -/
section
variable {σ : MS} {F : Nat → Int32} {N : Nat → Nat} {T B k : Nat}
theorem pass_o {nc j : Nat} (h : j ≠ 55) (h2 : j ≠ 52) : ∀ n, (passF σ nc n).2.1 j = σ.2.1 j
  | 0 => rfl
  | n + 1 => (quar_o h h2).trans (pass_o h h2 n)
theorem xi_pass (hV : INV σ F N T) (hX : XI σ N B k) {q : Nat} (hB : B + q ≤ 49999) : ∀ n, n ≤ q → XI (passF σ (N 2) n) N (B + n) k
  | 0, _ => hX
  | n + 1, hn => by
    obtain ⟨t, ht, et, -⟩ := hX.1
    exact xi_quar (inv_pass hV et n (by omega)).1.1 (xi_pass hV hX hB n (by omega)) (show B + n < 49999 by omega)
theorem pm_ne {n : Nat} (h : n ≤ 40) : ¬ (-1000003 : Int32) = nI n - 1 := by
  have : ∀ n, n < 41 → ¬ (-1000003 : Int32) = nI n - 1 := by decide +kernel
  exact this n (by omega)
theorem b2i_nn {b : Bool} : ¬ b2i b < 0 := by cases b <;> decide
theorem tk_V {E : XE} {own : Nat → Nat} {x : Nat} {G : HP} (h : TK E own x σ N T G) : ∃ F, INV σ F N T := by
  obtain ⟨A, F, -, h2, -⟩ := h
  exact ⟨F, h2⟩
end
set_option maxRecDepth 20000 in
set_option maxHeartbeats 4000000 in
theorem s_permit {E : XE} {d0 d mc ms : Nat} {P : Ps} {own : Nat → Nat} {x ag al au aT k : Nat} {σ : MS} {N : Nat → Nat} {G : HP} (hd : d = d0 + 13) (hO : OWN own ag al au aT) (hk : k < 60) (hW : LW E own x ag al au aT σ N k G) (hP : ∀ σ' N' G', LW E own x ag al au aT σ' N' (k + 1) G' → P (.inl (some (.int 1))) G') {a b : Int32} (hmc : 6000 ≤ mc) (hms : 34000 ≤ ms) {rc rs rm f rq : Nat} (hrc : rc < N 2) (hrs : rs < 4) (hrm : rm < 10) (hf : σ.1 0 / 96 = nI f) (hft : f + rq ≤ 520) {z7 z11 : Option Value} : WX E d (yL_acts, cL_acts, (some .boolean), []) mc ms P 185 [some (.ref x), some (.ref ag), some (.ref al), some (.ref au), some (.ref aT), some (.int a), some (.int b), z7, some (.int (nI rc)), some (.int (nI rs)), some (.int (nI f)), z11] [.int (nI (f + rq)), .int (nI f), .int (nI rm), .int (nI rs), .int (nI rc), .ref x] G 0 0 := by
  subst hd
  obtain ⟨o1, o2, o3, o4, o5, o6, o7, o8, o9, o10⟩ := id hO
  obtain ⟨hT, hX, ⟨g, hg, g0, g1, g2, g3, g4, g5⟩, ⟨l, hl, ll⟩, ⟨u, hu, uu⟩, ⟨t, ht, t1, t2⟩⟩ := id hW
  have hN := tk_N hT
  have hI := tk_I hT
  obtain ⟨n0, n1, n2, n3, n4, n5, e7, e22, e29, e35, e40⟩ := id hN
  rcases K_pm hN hrc hrs hrm (Nat.le_add_right f rq) hft with kx | kx
  · skip
    skip
    refine wp_s6 10 1000 dL_acts_185 ml_L_172 (Nat.le_of_ble_eq_true rfl) (by omega) (by omega) ?_
    refine w_permit hT (Nat.le_refl _) (Nat.le_refl _) (fun z => absurd (kx) z) (fun hK0 hn4 G1 hT1 hF1 => ?_)
    refine kt_v ?_
    have hg1 := (hF1 ag o1).trans hg
    have hl1 := (hF1 al o2).trans hl
    have hu1 := (hF1 au o3).trans hu
    have ht1 := (hF1 aT o4).trans ht
    refine wp_store (pc' := 190) (j := 11) (ls' := [_, _, _, _, _, _, _, _, _, _, _, _]) dL_acts_188 rfl (Nat.le_of_ble_eq_true rfl) rfl rfl ?_
    refine wp_load (pc' := 191) (j := 1) dL_acts_190 rfl rfl rfl ?_
    refine wp_iconst (pc' := 192) (3) dL_acts_191 rfl rfl ?_
    refine wp_dup2 (pc' := 193) dL_acts_192 rfl rfl rfl ?_
    refine wp_iald (pc' := 194) dL_acts_193 hg1 rfl (by decide) (by decide) rfl ?_
    rw [g3]
    refine wp_load (pc' := 196) (j := 11) dL_acts_194 rfl rfl rfl ?_
    refine wp_ifF (pc' := 199) 203 dL_acts_196 rfl rfl (nI_pos (by omega)) ?_
    refine wp_iconst (pc' := 200) (1) dL_acts_199 rfl rfl ?_
    refine wp_goto 204 dL_acts_200 rfl ?_
    refine wp_pure (pc' := 205) dL_acts_204 rfl rfl ?_
    rw [nI_1]
    refine wp_iaw (pc' := 206) dL_acts_205 hg1 rfl (by decide) (by decide) rfl (fun G2 hw2 hr2 => ?_)
    have hl2 := (hr2 al o5.symm).trans hl1
    have hu2 := (hr2 au o6.symm).trans hu1
    have ht2 := (hr2 aT o7.symm).trans ht1
    have hT2 := tk_put o1 hw2 hr2 hT1
    refine wp_load (pc' := 208) (j := 11) dL_acts_206 rfl rfl rfl ?_
    refine wp_load (pc' := 209) (j := 1) dL_acts_208 rfl rfl rfl ?_
    refine wp_iconst (pc' := 210) (3) dL_acts_209 rfl rfl ?_
    refine wp_iald (pc' := 211) dL_acts_210 hw2 rfl (by decide) (by decide) rfl ?_
    rw [up_s]
    refine wp_iconst (pc' := 212) (1) dL_acts_211 rfl rfl ?_
    refine wp_pure (pc' := 213) dL_acts_212 rfl rfl ?_
    rw [nI_pred]
    refine wp_icmpF (pc' := 216) 239 dL_acts_213 rfl rfl (fun z => z rfl) ?_
    refine wp_load (pc' := 217) (j := 0) dL_acts_216 rfl rfl rfl ?_
    refine wp_load (pc' := 219) (j := 8) dL_acts_217 rfl rfl rfl ?_
    refine wp_load (pc' := 221) (j := 9) dL_acts_219 rfl rfl rfl ?_
    refine wp_s3 10 60 dL_acts_221 ml_L_127 (Nat.le_of_ble_eq_true rfl) (by omega) (by omega) ?_
    refine w_countsAs hT2 (Nat.le_refl _) (Nat.le_refl _) (σ.2.1 24 rc) (c_ans (tk_N hT2) hrc hrs (cs_per hf (Nat.le_add_right f rq) (by omega))) ?_
    refine kt_v ?_
    refine wp_load (pc' := 225) (j := 3) dL_acts_224 rfl rfl rfl ?_
    refine wp_load (pc' := 227) (j := 8) dL_acts_225 rfl rfl rfl ?_
    refine wp_iald (pc' := 228) dL_acts_227 hu2 rfl (show rc < 30 by omega) (by decide) rfl ?_
    rw [uu rc hrc]
    refine wp_icmpF (pc' := 231) 235 dL_acts_228 rfl rfl (fun z => z rfl) ?_
    refine wp_iconst (pc' := 232) (1) dL_acts_231 rfl rfl ?_
    refine wp_goto 251 dL_acts_232 rfl ?_
    refine wp_iret dL_acts_251 rfl rfl ?_
    exact hP _ _ _ (lw_end hk hT2 (xi_per hX hrc) ⟨_, hw2, (up_n (by decide)).trans g0, (up_n (by decide)).trans g1, (up_n (by decide)).trans g2, up_s, (up_n (by decide)).trans g4, (up_n (by decide)).trans g5⟩ ⟨_, hl2, ll⟩ ⟨_, hu2, uu⟩ ⟨_, ht2, t1, t2⟩)
  · skip
    skip
    refine wp_s6 10 1000 dL_acts_185 ml_L_172 (Nat.le_of_ble_eq_true rfl) (by omega) (by omega) ?_
    refine w_permit hT (Nat.le_refl _) (Nat.le_refl _) (fun z => ?_) (fun z => absurd (z.symm.trans (kx)) (by decide))
    rw [rsO_3 (kx)]
    refine kt_v ?_
    refine wp_store (pc' := 190) (j := 11) (ls' := [_, _, _, _, _, _, _, _, _, _, _, _]) dL_acts_188 rfl (Nat.le_of_ble_eq_true rfl) rfl rfl ?_
    refine wp_load (pc' := 191) (j := 1) dL_acts_190 rfl rfl rfl ?_
    refine wp_iconst (pc' := 192) (3) dL_acts_191 rfl rfl ?_
    refine wp_dup2 (pc' := 193) dL_acts_192 rfl rfl rfl ?_
    refine wp_iald (pc' := 194) dL_acts_193 hg rfl (by decide) (by decide) rfl ?_
    rw [g3]
    refine wp_load (pc' := 196) (j := 11) dL_acts_194 rfl rfl rfl ?_
    refine wp_ifT 203 dL_acts_196 rfl (cmpT rfl) ?_
    refine wp_iconst (pc' := 204) (0) dL_acts_203 rfl rfl ?_
    refine wp_pure (pc' := 205) dL_acts_204 rfl rfl ?_
    rw [Int32.add_zero]
    refine wp_iaw (pc' := 206) dL_acts_205 hg rfl (by decide) (by decide) rfl (fun G2 hw2 hr2 => ?_)
    have hl2 := (hr2 al o5.symm).trans hl
    have hu2 := (hr2 au o6.symm).trans hu
    have ht2 := (hr2 aT o7.symm).trans ht
    have hT2 := tk_put o1 hw2 hr2 hT
    refine wp_load (pc' := 208) (j := 11) dL_acts_206 rfl rfl rfl ?_
    refine wp_load (pc' := 209) (j := 1) dL_acts_208 rfl rfl rfl ?_
    refine wp_iconst (pc' := 210) (3) dL_acts_209 rfl rfl ?_
    refine wp_iald (pc' := 211) dL_acts_210 hw2 rfl (by decide) (by decide) rfl ?_
    rw [up_s]
    refine wp_iconst (pc' := 212) (1) dL_acts_211 rfl rfl ?_
    refine wp_pure (pc' := 213) dL_acts_212 rfl rfl ?_
    refine wp_icmpT 239 dL_acts_213 rfl (pm_ne n3) ?_
    refine wp_load (pc' := 241) (j := 11) dL_acts_239 rfl rfl rfl ?_
    refine wp_ldc (pc' := 243) dL_acts_241 kw_L_36 rfl ?_
    refine wp_icmpF (pc' := 246) 250 dL_acts_243 rfl rfl (cmpF rfl) ?_
    refine wp_iconst (pc' := 247) (1) dL_acts_246 rfl rfl ?_
    refine wp_goto 251 dL_acts_247 rfl ?_
    refine wp_iret dL_acts_251 rfl rfl ?_
    exact hP _ _ _ (lw_end hk hT2 hX ⟨_, hw2, (up_n (by decide)).trans g0, (up_n (by decide)).trans g1, (up_n (by decide)).trans g2, up_s, (up_n (by decide)).trans g4, (up_n (by decide)).trans g5⟩ ⟨_, hl2, ll⟩ ⟨_, hu2, uu⟩ ⟨_, ht2, t1, t2⟩)

set_option maxRecDepth 20000 in
set_option maxHeartbeats 4000000 in
theorem s_per {E : XE} {d0 d mc ms : Nat} {P : Ps} {own : Nat → Nat} {x ag al au aT k : Nat} {σ : MS} {N : Nat → Nat} {G : HP} (hd : d = d0 + 13) (hO : OWN own ag al au aT) (hk : k < 60) (hW : LW E own x ag al au aT σ N k G) (hP : ∀ σ' N' G', LW E own x ag al au aT σ' N' (k + 1) G' → P (.inl (some (.int 1))) G') {a b : Int32} (hmc : 6000 ≤ mc) (hms : 34000 ≤ ms) (h0 : 0 < N 2) {z7 z8 z9 z10 z11 : Option Value} : WX E d (yL_acts, cL_acts, (some .boolean), []) mc ms P 127 [some (.ref x), some (.ref ag), some (.ref al), some (.ref au), some (.ref aT), some (.int a), some (.int b), z7, z8, z9, z10, z11] [] G 0 0 := by
  subst hd
  obtain ⟨o1, o2, o3, o4, o5, o6, o7, o8, o9, o10⟩ := id hO
  obtain ⟨hT, hX, ⟨g, hg, g0, g1, g2, g3, g4, g5⟩, ⟨l, hl, ll⟩, ⟨u, hu, uu⟩, ⟨t, ht, t1, t2⟩⟩ := id hW
  have hN := tk_N hT
  have hI := tk_I hT
  obtain ⟨n0, n1, n2, n3, n4, n5, e7, e22, e29, e35, e40⟩ := id hN
  obtain ⟨⟨t0, ht0, et0, -⟩, -⟩ := id hX
  have hday : σ.1 0 / 96 = nI (t0 / 96) := by
    rw [et0, day_eq (by omega)]
  have hd37 : t0 / 96 ≤ 40 := by
    have := Nat.div_le_div_right (c := 96) (show t0 ≤ 3600 by omega)
    omega
  refine wp_load (pc' := 129) (j := 6) dL_acts_127 rfl rfl rfl ?_
  refine wp_load (pc' := 130) (j := 1) dL_acts_129 rfl rfl rfl ?_
  refine wp_iconst (pc' := 131) (2) dL_acts_130 rfl rfl ?_
  refine wp_iald (pc' := 132) dL_acts_131 hg rfl (by decide) (by decide) rfl ?_
  rw [g2]
  refine wp_s2 0 0 dL_acts_132 ml_L_104 (Nat.le_of_ble_eq_true rfl) (by omega) (by omega) ?_
  refine w_low _ (n := (N 2)) h0 (by omega) (fun rc hrc erc => ?_)
  refine kt_v ?_
  refine wp_store (pc' := 137) (j := 8) (ls' := [_, _, _, _, _, _, _, _, _, _, _, _]) dL_acts_135 rfl (Nat.le_of_ble_eq_true rfl) rfl rfl ?_
  refine wp_load (pc' := 139) (j := 6) dL_acts_137 rfl rfl rfl ?_
  refine wp_iconst (pc' := 140) (5) dL_acts_139 rfl rfl ?_
  refine wp_pure (pc' := 141) dL_acts_140 rfl rfl ?_
  refine wp_iconst (pc' := 142) (4) dL_acts_141 rfl rfl ?_
  refine wp_s2 0 0 dL_acts_142 ml_L_104 (Nat.le_of_ble_eq_true rfl) (by omega) (by omega) ?_
  refine w_low _ (n := 4) (by decide) (by decide) (fun rs hrs ers => ?_)
  refine kt_v ?_
  refine wp_store (pc' := 147) (j := 9) (ls' := [_, _, _, _, _, _, _, _, _, _, _, _]) dL_acts_145 rfl (Nat.le_of_ble_eq_true rfl) rfl rfl ?_
  refine wp_load (pc' := 148) (j := 1) dL_acts_147 rfl rfl rfl ?_
  refine wp_iconst (pc' := 149) (0) dL_acts_148 rfl rfl ?_
  refine wp_iald (pc' := 150) dL_acts_149 hg rfl (by decide) (by decide) rfl ?_
  rw [g0]
  refine wp_bipush (pc' := 152) (96) dL_acts_150 rfl rfl ?_
  refine wp_div (pc' := 153) dL_acts_152 (by decide) rfl ?_
  rw [hday]
  refine wp_store (pc' := 155) (j := 10) (ls' := [_, _, _, _, _, _, _, _, _, _, _, _]) dL_acts_153 rfl (Nat.le_of_ble_eq_true rfl) rfl rfl ?_
  refine wp_load (pc' := 156) (j := 0) dL_acts_155 rfl rfl rfl ?_
  refine wp_load (pc' := 158) (j := 8) dL_acts_156 rfl rfl rfl ?_
  refine wp_load (pc' := 160) (j := 9) dL_acts_158 rfl rfl rfl ?_
  refine wp_load (pc' := 162) (j := 6) dL_acts_160 rfl rfl rfl ?_
  refine wp_bipush (pc' := 164) (7) dL_acts_162 rfl rfl ?_
  refine wp_pure (pc' := 165) dL_acts_164 rfl rfl ?_
  refine wp_bipush (pc' := 167) (10) dL_acts_165 rfl rfl ?_
  refine wp_s2 0 0 dL_acts_167 ml_L_104 (Nat.le_of_ble_eq_true rfl) (by omega) (by omega) ?_
  refine w_low _ (n := 10) (by decide) (by decide) (fun rm hrm erm => ?_)
  refine kt_v ?_
  refine wp_load (pc' := 172) (j := 10) dL_acts_170 rfl rfl rfl ?_
  refine wp_load (pc' := 174) (j := 10) dL_acts_172 rfl rfl rfl ?_
  refine wp_load (pc' := 176) (j := 6) dL_acts_174 rfl rfl rfl ?_
  refine wp_bipush (pc' := 178) (11) dL_acts_176 rfl rfl ?_
  refine wp_pure (pc' := 179) dL_acts_178 rfl rfl ?_
  refine wp_bipush (pc' := 181) (9) dL_acts_179 rfl rfl ?_
  refine wp_s2 0 0 dL_acts_181 ml_L_104 (Nat.le_of_ble_eq_true rfl) (by omega) (by omega) ?_
  refine w_low _ (n := 9) (by decide) (by decide) (fun rq hrq erq => ?_)
  refine kt_v ?_
  refine wp_pure (pc' := 185) dL_acts_184 rfl rfl ?_
  rw [nI_add]
  exact s_permit rfl hO hk hW hP hmc hms hrc hrs hrm hday (by omega)

set_option maxRecDepth 20000 in
set_option maxHeartbeats 4000000 in
theorem s_block {E : XE} {d0 d mc ms : Nat} {P : Ps} {own : Nat → Nat} {x ag al au aT k : Nat} {σ : MS} {N : Nat → Nat} {G : HP} (hd : d = d0 + 13) (hO : OWN own ag al au aT) (hk : k < 60) (hW : LW E own x ag al au aT σ N k G) (hP : ∀ σ' N' G', LW E own x ag al au aT σ' N' (k + 1) G' → P (.inl (some (.int 1))) G') {a b : Int32} (hmc : 6000 ≤ mc) (hms : 34000 ≤ ms) {w0 : Bool} {z7 z8 z9 z10 z11 : Option Value} : WX E d (yL_acts, cL_acts, (some .boolean), []) mc ms P 274 [some (.ref x), some (.ref ag), some (.ref al), some (.ref au), some (.ref aT), some (.int a), some (.int b), z7, z8, z9, z10, z11] [.int (b2i w0)] G 0 0 := by
  subst hd
  obtain ⟨o1, o2, o3, o4, o5, o6, o7, o8, o9, o10⟩ := id hO
  obtain ⟨hT, hX, ⟨g, hg, g0, g1, g2, g3, g4, g5⟩, ⟨l, hl, ll⟩, ⟨u, hu, uu⟩, ⟨t, ht, t1, t2⟩⟩ := id hW
  have hN := tk_N hT
  have hI := tk_I hT
  obtain ⟨n0, n1, n2, n3, n4, n5, e7, e22, e29, e35, e40⟩ := id hN
  refine wp_store (pc' := 276) (j := 8) (ls' := [_, _, _, _, _, _, _, _, _, _, _, _]) dL_acts_274 rfl (Nat.le_of_ble_eq_true rfl) rfl rfl ?_
  refine wp_load (pc' := 278) (j := 6) dL_acts_276 rfl rfl rfl ?_
  refine wp_iconst (pc' := 279) (2) dL_acts_278 rfl rfl ?_
  refine wp_pure (pc' := 280) dL_acts_279 rfl rfl ?_
  refine wp_bipush (pc' := 282) (60) dL_acts_280 rfl rfl ?_
  refine wp_s2 0 0 dL_acts_282 ml_L_104 (Nat.le_of_ble_eq_true rfl) (by omega) (by omega) ?_
  refine w_low _ (n := 60) (by decide) (by decide) (fun rm hrm erm => ?_)
  refine kt_v ?_
  refine wp_store (pc' := 287) (j := 9) (ls' := [_, _, _, _, _, _, _, _, _, _, _, _]) dL_acts_285 rfl (Nat.le_of_ble_eq_true rfl) rfl rfl ?_
  refine wp_load (pc' := 288) (j := 0) dL_acts_287 rfl rfl rfl ?_
  refine wp_load (pc' := 290) (j := 6) dL_acts_288 rfl rfl rfl ?_
  refine wp_iconst (pc' := 291) (4) dL_acts_290 rfl rfl ?_
  refine wp_s2 0 0 dL_acts_291 ml_L_104 (Nat.le_of_ble_eq_true rfl) (by omega) (by omega) ?_
  refine w_low _ (n := 4) (by decide) (by decide) (fun rs hrs ers => ?_)
  refine kt_v ?_
  refine wp_load (pc' := 296) (j := 9) dL_acts_294 rfl rfl rfl ?_
  refine wp_load (pc' := 298) (j := 8) dL_acts_296 rfl rfl rfl ?_
  refine wp_s4 10 1000 dL_acts_298 ml_L_175 (Nat.le_of_ble_eq_true rfl) (by omega) (by omega) ?_
  refine w_block hT (Nat.le_refl _) (Nat.le_refl _) (fun z => absurd (K_bl_0 hrs hrm) z) (fun hK0 i0 j0 hi0 hj0 he1 he2 G1 hT1 hF1 => ?_)
  refine kt_v ?_
  have hg1 := (hF1 ag o1).trans hg
  have hl1 := (hF1 al o2).trans hl
  have hu1 := (hF1 au o3).trans hu
  have ht1 := (hF1 aT o4).trans ht
  refine wp_store (pc' := 303) (j := 10) (ls' := [_, _, _, _, _, _, _, _, _, _, _, _]) dL_acts_301 rfl (Nat.le_of_ble_eq_true rfl) rfl rfl ?_
  refine wp_load (pc' := 305) (j := 10) dL_acts_303 rfl rfl rfl ?_
  refine wp_ifF (pc' := 308) 339 dL_acts_305 rfl rfl b2i_nn ?_
  refine wp_load (pc' := 309) (j := 0) dL_acts_308 rfl rfl rfl ?_
  refine wp_load (pc' := 311) (j := 6) dL_acts_309 rfl rfl rfl ?_
  refine wp_iconst (pc' := 312) (4) dL_acts_311 rfl rfl ?_
  refine wp_s2 0 0 dL_acts_312 ml_L_104 (Nat.le_of_ble_eq_true rfl) (by omega) (by omega) ?_
  refine w_low _ (n := 4) (by decide) (by decide) (fun rt hrt ert => ?_)
  refine kt_v ?_
  refine wp_load (pc' := 317) (j := 9) dL_acts_315 rfl rfl rfl ?_
  refine wp_load (pc' := 319) (j := 8) dL_acts_317 rfl rfl rfl ?_
  refine wp_s4 10 1000 dL_acts_319 ml_L_175 (Nat.le_of_ble_eq_true rfl) (by omega) (by omega) ?_
  refine w_block hT1 (Nat.le_refl _) (Nat.le_refl _) (fun z => absurd (K_bl_0 hrt hrm) z) (fun hK0 i1 j1 hi1 hj1 he3 he4 G2 hT2 hF2 => ?_)
  have e5 : i1 = i0 := (nI_eq (show i1 < 2 ^ 31 by omega) (show i0 < 2 ^ 31 by omega)).1 (he3.symm.trans ((congrArg nI (ert.trans ers.symm)).trans he1))
  have e6 : j1 = j0 := (nI_eq (show j1 < 2 ^ 31 by omega) (show j0 < 2 ^ 31 by omega)).1 (he4.symm.trans he2)
  rw [e5, e6, mbr_s]
  refine kt_v ?_
  have hg2 := (hF2 ag o1).trans hg1
  have hl2 := (hF2 al o2).trans hl1
  have hu2 := (hF2 au o3).trans hu1
  have ht2 := (hF2 aT o4).trans ht1
  refine wp_load (pc' := 324) (j := 8) dL_acts_322 rfl rfl rfl ?_
  refine wp_ifeqB (pc' := 327) 331 dL_acts_324 rfl rfl (fun h324 => ?_) (fun h324 => ?_)
  · skip
    skip
    refine wp_iconst (pc' := 332) (0) dL_acts_331 rfl rfl ?_
    refine wp_icmpF (pc' := 335) 339 dL_acts_332 rfl rfl (fun z => z (by rw [h324]; rfl)) ?_
    refine wp_iconst (pc' := 336) (1) dL_acts_335 rfl rfl ?_
    refine wp_goto 340 dL_acts_336 rfl ?_
    refine wp_iret dL_acts_340 rfl rfl ?_
    exact hP _ _ _ (lw_end hk hT2 (xi_block (xi_block hX)) ⟨_, hg2, g0, g1, g2, g3, g4, g5⟩ ⟨_, hl2, ll⟩ ⟨_, hu2, uu⟩ ⟨_, ht2, t1, t2⟩)
  · skip
    skip
    refine wp_iconst (pc' := 328) (1) dL_acts_327 rfl rfl ?_
    refine wp_goto 332 dL_acts_328 rfl ?_
    refine wp_icmpF (pc' := 335) 339 dL_acts_332 rfl rfl (fun z => z (by rw [h324]; rfl)) ?_
    refine wp_iconst (pc' := 336) (1) dL_acts_335 rfl rfl ?_
    refine wp_goto 340 dL_acts_336 rfl ?_
    refine wp_iret dL_acts_340 rfl rfl ?_
    exact hP _ _ _ (lw_end hk hT2 (xi_block (xi_block hX)) ⟨_, hg2, g0, g1, g2, g3, g4, g5⟩ ⟨_, hl2, ll⟩ ⟨_, hu2, uu⟩ ⟨_, ht2, t1, t2⟩)

set_option maxRecDepth 20000 in
set_option maxHeartbeats 4000000 in
theorem s_rule {E : XE} {d0 d mc ms : Nat} {P : Ps} {own : Nat → Nat} {x ag al au aT k : Nat} {σ : MS} {N : Nat → Nat} {G : HP} (hd : d = d0 + 13) (hO : OWN own ag al au aT) (hk : k < 60) (hW : LW E own x ag al au aT σ N k G) (hP : ∀ σ' N' G', LW E own x ag al au aT σ' N' (k + 1) G' → P (.inl (some (.int 1))) G') {a b : Int32} (hmc : 6000 ≤ mc) (hms : 34000 ≤ ms) {z7 z8 z9 z10 z11 : Option Value} : WX E d (yL_acts, cL_acts, (some .boolean), []) mc ms P 348 [some (.ref x), some (.ref ag), some (.ref al), some (.ref au), some (.ref aT), some (.int a), some (.int b), z7, z8, z9, z10, z11] [] G 0 0 := by
  subst hd
  obtain ⟨o1, o2, o3, o4, o5, o6, o7, o8, o9, o10⟩ := id hO
  obtain ⟨hT, hX, ⟨g, hg, g0, g1, g2, g3, g4, g5⟩, ⟨l, hl, ll⟩, ⟨u, hu, uu⟩, ⟨t, ht, t1, t2⟩⟩ := id hW
  have hN := tk_N hT
  have hI := tk_I hT
  obtain ⟨n0, n1, n2, n3, n4, n5, e7, e22, e29, e35, e40⟩ := id hN
  refine wp_load (pc' := 349) (j := 0) dL_acts_348 rfl rfl rfl ?_
  refine wp_load (pc' := 350) (j := 1) dL_acts_349 rfl rfl rfl ?_
  refine wp_load (pc' := 352) (j := 5) dL_acts_350 rfl rfl rfl ?_
  refine wp_iconst (pc' := 353) (4) dL_acts_352 rfl rfl ?_
  refine wp_pure (pc' := 354) dL_acts_353 rfl rfl ?_
  refine wp_load (pc' := 356) (j := 6) dL_acts_354 rfl rfl rfl ?_
  refine wp_s4 50 300 dL_acts_356 ml_L_178 (Nat.le_of_ble_eq_true rfl) (by omega) (by omega) ?_
  refine t_isRule hT hX (show k ≤ 60 by omega) hg g1 (Nat.le_refl _) (Nat.le_refl _) ?_
  refine kt_v ?_
  refine wp_ifF (pc' := 362) 383 dL_acts_359 rfl rfl (cmpF rfl) ?_
  refine wp_load (pc' := 363) (j := 0) dL_acts_362 rfl rfl rfl ?_
  refine wp_load (pc' := 364) (j := 1) dL_acts_363 rfl rfl rfl ?_
  refine wp_load (pc' := 365) (j := 2) dL_acts_364 rfl rfl rfl ?_
  refine wp_load (pc' := 367) (j := 4) dL_acts_365 rfl rfl rfl ?_
  refine wp_load (pc' := 369) (j := 6) dL_acts_367 rfl rfl rfl ?_
  refine wp_iconst (pc' := 370) (4) dL_acts_369 rfl rfl ?_
  refine wp_s2 0 0 dL_acts_370 ml_L_104 (Nat.le_of_ble_eq_true rfl) (by omega) (by omega) ?_
  refine w_low _ (n := 4) (by decide) (by decide) (fun rs hrs ers => ?_)
  refine kt_v ?_
  refine wp_s5 60 400 dL_acts_373 ml_L_181 (Nat.le_of_ble_eq_true rfl) (by omega) (by omega) ?_
  refine t_isStreet hT hX (show k ≤ 60 by omega) hrs hg g0 g2 hl ll ht t1 (show 60 * k ≤ 49999 by omega) (Nat.le_refl _) (Nat.le_refl _) ?_
  refine kt_v ?_
  refine wp_ifF (pc' := 379) 383 dL_acts_376 rfl rfl (cmpF rfl) ?_
  refine wp_iconst (pc' := 380) (1) dL_acts_379 rfl rfl ?_
  refine wp_goto 384 dL_acts_380 rfl ?_
  refine wp_iret dL_acts_384 rfl rfl ?_
  exact hP _ _ _ (lw_up hk hW)

set_option maxRecDepth 20000 in
set_option maxHeartbeats 4000000 in
theorem s_pass {E : XE} {d0 d mc ms : Nat} {P : Ps} {own : Nat → Nat} {x ag al au aT k : Nat} {σ : MS} {N : Nat → Nat} {G : HP} (hd : d = d0 + 13) (hO : OWN own ag al au aT) (hk : k < 60) (hW : LW E own x ag al au aT σ N k G) (hP : ∀ σ' N' G', LW E own x ag al au aT σ' N' (k + 1) G' → P (.inl (some (.int 1))) G') {a b : Int32} (hmc : 6000 ≤ mc) (hms : 34000 ≤ ms) {z7 z8 z9 z10 z11 : Option Value} : WX E d (yL_acts, cL_acts, (some .boolean), []) mc ms P 385 [some (.ref x), some (.ref ag), some (.ref al), some (.ref au), some (.ref aT), some (.int a), some (.int b), z7, z8, z9, z10, z11] [] G 0 0 := by
  subst hd
  obtain ⟨o1, o2, o3, o4, o5, o6, o7, o8, o9, o10⟩ := id hO
  obtain ⟨hT, hX, ⟨g, hg, g0, g1, g2, g3, g4, g5⟩, ⟨l, hl, ll⟩, ⟨u, hu, uu⟩, ⟨t, ht, t1, t2⟩⟩ := id hW
  have hN := tk_N hT
  have hI := tk_I hT
  obtain ⟨n0, n1, n2, n3, n4, n5, e7, e22, e29, e35, e40⟩ := id hN
  obtain ⟨⟨t0, ht0, et0, -⟩, -⟩ := id hX
  obtain ⟨F0, hV⟩ := tk_V hT
  refine wp_iconst (pc' := 386) (1) dL_acts_385 rfl rfl ?_
  refine wp_load (pc' := 388) (j := 6) dL_acts_386 rfl rfl rfl ?_
  refine wp_bipush (pc' := 390) (60) dL_acts_388 rfl rfl ?_
  refine wp_s2 0 0 dL_acts_390 ml_L_104 (Nat.le_of_ble_eq_true rfl) (by omega) (by omega) ?_
  refine w_low _ (n := 60) (by decide) (by decide) (fun rq hrq erq => ?_)
  refine kt_v ?_
  refine wp_pure (pc' := 394) dL_acts_393 rfl rfl ?_
  rw [show (1 : Int32) + nI rq = nI (1 + rq) from nI_add 1 rq]
  refine wp_store (pc' := 396) (j := 8) (ls' := [_, _, _, _, _, _, _, _, _, _, _, _]) dL_acts_394 rfl (Nat.le_of_ble_eq_true rfl) rfl rfl ?_
  refine wp_load (pc' := 397) (j := 1) dL_acts_396 rfl rfl rfl ?_
  refine wp_iconst (pc' := 398) (0) dL_acts_397 rfl rfl ?_
  refine wp_dup2 (pc' := 399) dL_acts_398 rfl rfl rfl ?_
  refine wp_iald (pc' := 400) dL_acts_399 hg rfl (by decide) (by decide) rfl ?_
  rw [g0, et0]
  refine wp_load (pc' := 402) (j := 8) dL_acts_400 rfl rfl rfl ?_
  refine wp_pure (pc' := 403) dL_acts_402 rfl rfl ?_
  rw [nI_add]
  refine wp_iaw (pc' := 404) dL_acts_403 hg rfl (by decide) (by decide) rfl (fun G1 hw1 hr1 => ?_)
  have hl1 := (hr1 al o5.symm).trans hl
  have hu1 := (hr1 au o6.symm).trans hu
  have ht1 := (hr1 aT o7.symm).trans ht
  have hT1 := tk_put o1 hw1 hr1 hT
  refine wp_load (pc' := 405) (j := 0) dL_acts_404 rfl rfl rfl ?_
  refine wp_load (pc' := 407) (j := 8) dL_acts_405 rfl rfl rfl ?_
  refine wp_s2 10 1000 dL_acts_407 ml_L_185 (Nat.le_of_ble_eq_true rfl) (by omega) (by omega) ?_
  refine w_pass hT1 (Nat.le_refl _) (Nat.le_refl _) (fun z => absurd (K_ps_0 et0 (show 1 ≤ 1 + rq by omega) (by omega) (by omega)) z) (fun hK0 j hj he G2 hT2 hF2 => ?_)
  have ej : j = 1 + rq := ((nI_eq (show 1 + rq < 2 ^ 31 by omega) (show j < 2 ^ 31 by omega)).1 he).symm
  rw [ej] at hT2
  rw [ej, pass_0, et0, nI_add]
  refine kt_v ?_
  have hg2 := (hF2 ag o1).trans hw1
  have hl2 := (hF2 al o2).trans hl1
  have hu2 := (hF2 au o3).trans hu1
  have ht2 := (hF2 aT o4).trans ht1
  have hX2 := xi_pass hV hX (q := 1 + rq) (by omega) (1 + rq) (Nat.le_refl _)
  have gg0 : va_up g 0 (nI (t0 + (1 + rq))) 0 = (passF σ (N 2) (1 + rq)).1 0 := by
    rw [up_s, pass_0, et0, nI_add]
  have ll2 : ∀ i, i < N 2 → l i = (passF σ (N 2) (1 + rq)).2.1 23 i := fun i hi => by
    rw [pass_o (by decide) (by decide)]
    exact ll i hi
  have uu2 : ∀ i, i < N 2 → u i = (passF σ (N 2) (1 + rq)).2.1 24 i := fun i hi => by
    rw [pass_o (by decide) (by decide)]
    exact uu i hi
  have tt2 : ∀ i, i < N 2 → t i = (passF σ (N 2) (1 + rq)).2.1 25 i := fun i hi => by
    rw [pass_o (by decide) (by decide)]
    exact t1 i hi
  refine wp_load (pc' := 411) (j := 1) dL_acts_410 rfl rfl rfl ?_
  refine wp_iconst (pc' := 412) (0) dL_acts_411 rfl rfl ?_
  refine wp_iald (pc' := 413) dL_acts_412 hg2 rfl (by decide) (by decide) rfl ?_
  rw [up_s]
  refine wp_icmpF (pc' := 416) 448 dL_acts_413 rfl rfl (fun z => z rfl) ?_
  refine wp_load (pc' := 417) (j := 0) dL_acts_416 rfl rfl rfl ?_
  refine wp_load (pc' := 418) (j := 1) dL_acts_417 rfl rfl rfl ?_
  refine wp_load (pc' := 419) (j := 2) dL_acts_418 rfl rfl rfl ?_
  refine wp_load (pc' := 421) (j := 4) dL_acts_419 rfl rfl rfl ?_
  refine wp_load (pc' := 423) (j := 6) dL_acts_421 rfl rfl rfl ?_
  refine wp_bipush (pc' := 425) (6) dL_acts_423 rfl rfl ?_
  refine wp_pure (pc' := 426) dL_acts_425 rfl rfl ?_
  refine wp_iconst (pc' := 427) (4) dL_acts_426 rfl rfl ?_
  refine wp_s2 0 0 dL_acts_427 ml_L_104 (Nat.le_of_ble_eq_true rfl) (by omega) (by omega) ?_
  refine w_low _ (n := 4) (by decide) (by decide) (fun rs hrs ers => ?_)
  refine kt_v ?_
  refine wp_s5 60 400 dL_acts_430 ml_L_181 (Nat.le_of_ble_eq_true rfl) (by omega) (by omega) ?_
  refine t_isStreet hT2 hX2 (show k ≤ 60 by omega) hrs hg2 gg0 g2 hl2 ll2 ht2 tt2 (by omega) (Nat.le_refl _) (Nat.le_refl _) ?_
  refine kt_v ?_
  refine wp_ifF (pc' := 436) 448 dL_acts_433 rfl rfl (cmpF rfl) ?_
  refine wp_load (pc' := 437) (j := 0) dL_acts_436 rfl rfl rfl ?_
  refine wp_load (pc' := 438) (j := 1) dL_acts_437 rfl rfl rfl ?_
  refine wp_s2 5000 30000 dL_acts_438 ml_L_187 (Nat.le_of_ble_eq_true rfl) (by omega) (by omega) ?_
  refine t_areFines hT2 hX2 (show k ≤ 60 by omega) hg2 gg0 g2 g5 ?_ (by omega) (Nat.le_refl _) (Nat.le_refl _)
  refine kt_v ?_
  refine wp_ifF (pc' := 444) 448 dL_acts_441 rfl rfl (cmpF rfl) ?_
  refine wp_iconst (pc' := 445) (1) dL_acts_444 rfl rfl ?_
  refine wp_goto 449 dL_acts_445 rfl ?_
  refine wp_iret dL_acts_449 rfl rfl ?_
  exact hP _ _ _ ⟨tk_T hT2 (by omega), xi_up (by omega) (by omega) hX2, ⟨_, hg2, gg0, g1, g2, g3, g4, g5⟩, ⟨_, hl2, ll2⟩, ⟨_, hu2, uu2⟩, ⟨_, ht2, tt2, t2⟩⟩

set_option maxRecDepth 20000 in
set_option maxHeartbeats 2000000 in
theorem t_acts {E : XE} {d mc ms : Nat} {P : Ps} {own : Nat → Nat} {x ag al au aT k : Nat} {σ : MS} {N : Nat → Nat} {G : HP} (hO : OWN own ag al au aT) (hk : k < 60) (hW : LW E own x ag al au aT σ N k G) (hP : ∀ σ' N' G', LW E own x ag al au aT σ' N' (k + 1) G' → P (.inl (some (.int 1))) G') {a b : Int32} (hmc : 6000 ≤ mc) (hms : 34000 ≤ ms) : Sp E (d + 14) yL_acts mc ms [.ref x, .ref ag, .ref al, .ref au, .ref aT, .int a, .int b] G P := by
  obtain ⟨o1, o2, o3, o4, o5, o6, o7, o8, o9, o10⟩ := id hO
  obtain ⟨hT, hX, ⟨g, hg, g0, g1, g2, g3, g4, g5⟩, ⟨l, hl, ll⟩, ⟨u, hu, uu⟩, ⟨t, ht, t1, t2⟩⟩ := id hW
  have hN := tk_N hT
  have hI := tk_I hT
  obtain ⟨n0, n1, n2, n3, n4, n5, e7, e22, e29, e35, e40⟩ := id hN
  refine sp_intro bd_L_acts (v1_all rfl) (Nat.le_of_ble_eq_true rfl) ?_
  change WX _ _ _ _ _ _ 0 [some (.ref x), some (.ref ag), some (.ref al), some (.ref au), some (.ref aT), some (.int a), some (.int b), none, none, none, none, none] [] _ 0 0
  refine wp_load (pc' := 2) (j := 5) dL_acts_0 rfl rfl rfl ?_
  refine wp_bipush (pc' := 4) (16) dL_acts_2 rfl rfl ?_
  refine wp_s2 0 0 dL_acts_4 ml_L_104 (Nat.le_of_ble_eq_true rfl) (by omega) (by omega) ?_
  refine w_low _ (n := 16) (by decide) (by decide) (fun ra hra era => ?_)
  refine kt_v ?_
  refine wp_store (pc' := 9) (j := 7) (ls' := [_, _, _, _, _, _, _, _, _, _, _, _]) dL_acts_7 rfl (Nat.le_of_ble_eq_true rfl) rfl rfl ?_
  refine wp_load (pc' := 11) (j := 7) dL_acts_9 rfl rfl rfl ?_
  refine wp_iconst (pc' := 12) (3) dL_acts_11 rfl rfl ?_
  refine wp_icmp_lt (pc' := 15) 21 dL_acts_12 rfl rfl (fun h12 => ?_) (fun h12 => ?_)
  · skip
    skip
    refine wp_load (pc' := 22) (j := 0) dL_acts_21 rfl rfl rfl ?_
    refine wp_load (pc' := 23) (j := 1) dL_acts_22 rfl rfl rfl ?_
    refine wp_load (pc' := 24) (j := 2) dL_acts_23 rfl rfl rfl ?_
    refine wp_load (pc' := 25) (j := 3) dL_acts_24 rfl rfl rfl ?_
    refine wp_load (pc' := 27) (j := 5) dL_acts_25 rfl rfl rfl ?_
    refine wp_iconst (pc' := 28) (4) dL_acts_27 rfl rfl ?_
    refine wp_pure (pc' := 29) dL_acts_28 rfl rfl ?_
    refine wp_load (pc' := 31) (j := 6) dL_acts_29 rfl rfl rfl ?_
    refine wp_s6 60 2000 dL_acts_31 ml_L_153 (Nat.le_of_ble_eq_true rfl) (by omega) (by omega) ?_
    refine t_tells hO hk hW (fun σ1 N1 G1 hW1 => ?_) (Nat.le_refl _) (Nat.le_refl _)
    refine kt_v ?_
    refine wp_iret dL_acts_34 rfl rfl ?_
    exact hP _ _ _ hW1
  · skip
    skip
    refine wp_load (pc' := 16) (j := 1) dL_acts_15 rfl rfl rfl ?_
    refine wp_iconst (pc' := 17) (2) dL_acts_16 rfl rfl ?_
    refine wp_iald (pc' := 18) dL_acts_17 hg rfl (by decide) (by decide) rfl ?_
    rw [g2]
    refine wp_if_ne (pc' := 21) 35 dL_acts_18 rfl rfl (fun h18 => ?_) (fun h18 => ?_)
    · skip
      have h0 : 0 < N 2 := Nat.pos_of_ne_zero (fun z => h18 (by rw [z]; rfl))
      refine wp_load (pc' := 37) (j := 7) dL_acts_35 rfl rfl rfl ?_
      refine wp_bipush (pc' := 39) (7) dL_acts_37 rfl rfl ?_
      refine wp_icmp_ge (pc' := 42) 57 dL_acts_39 rfl rfl (fun h39 => ?_) (fun h39 => ?_)
      · skip
        skip
        refine wp_load (pc' := 59) (j := 7) dL_acts_57 rfl rfl rfl ?_
        refine wp_bipush (pc' := 61) (7) dL_acts_59 rfl rfl ?_
        refine wp_icmp_ne (pc' := 64) 76 dL_acts_61 rfl rfl (fun h61 => ?_) (fun h61 => ?_)
        · skip
          skip
          refine wp_load (pc' := 78) (j := 7) dL_acts_76 rfl rfl rfl ?_
          refine wp_bipush (pc' := 80) (10) dL_acts_78 rfl rfl ?_
          refine wp_icmp_ge (pc' := 83) 93 dL_acts_80 rfl rfl (fun h80 => ?_) (fun h80 => ?_)
          · skip
            skip
            refine wp_load (pc' := 95) (j := 7) dL_acts_93 rfl rfl rfl ?_
            refine wp_bipush (pc' := 97) (10) dL_acts_95 rfl rfl ?_
            refine wp_icmp_ne (pc' := 100) 120 dL_acts_97 rfl rfl (fun h97 => ?_) (fun h97 => ?_)
            · skip
              skip
              refine wp_load (pc' := 122) (j := 7) dL_acts_120 rfl rfl rfl ?_
              refine wp_bipush (pc' := 124) (11) dL_acts_122 rfl rfl ?_
              refine wp_icmp_ne (pc' := 127) 252 dL_acts_124 rfl rfl (fun h124 => ?_) (fun h124 => ?_)
              · skip
                skip
                refine wp_load (pc' := 254) (j := 7) dL_acts_252 rfl rfl rfl ?_
                refine wp_bipush (pc' := 256) (12) dL_acts_254 rfl rfl ?_
                refine wp_icmp_ne (pc' := 259) 341 dL_acts_256 rfl rfl (fun h256 => ?_) (fun h256 => ?_)
                · skip
                  skip
                  refine wp_load (pc' := 343) (j := 7) dL_acts_341 rfl rfl rfl ?_
                  refine wp_bipush (pc' := 345) (13) dL_acts_343 rfl rfl ?_
                  refine wp_icmp_ne (pc' := 348) 385 dL_acts_345 rfl rfl (fun h345 => ?_) (fun h345 => ?_)
                  · skip
                    skip
                    exact s_pass rfl hO hk hW hP hmc hms
                  · skip
                    skip
                    exact s_rule rfl hO hk hW hP hmc hms
                · skip
                  skip
                  refine wp_load (pc' := 261) (j := 5) dL_acts_259 rfl rfl rfl ?_
                  refine wp_iconst (pc' := 262) (4) dL_acts_261 rfl rfl ?_
                  refine wp_pure (pc' := 263) dL_acts_262 rfl rfl ?_
                  refine wp_iconst (pc' := 264) (1) dL_acts_263 rfl rfl ?_
                  refine wp_pure (pc' := 265) dL_acts_264 rfl rfl ?_
                  refine wp_iconst (pc' := 266) (1) dL_acts_265 rfl rfl ?_
                  refine wp_icmp_ne (pc' := 269) 273 dL_acts_266 rfl rfl (fun h266 => ?_) (fun h266 => ?_)
                  · skip
                    skip
                    refine wp_iconst (pc' := 274) (0) dL_acts_273 rfl rfl ?_
                    first
                      | exact s_block rfl (w0 := true) hO hk hW hP hmc hms
                      | exact s_block rfl (w0 := false) hO hk hW hP hmc hms
                  · skip
                    skip
                    refine wp_iconst (pc' := 270) (1) dL_acts_269 rfl rfl ?_
                    refine wp_goto 274 dL_acts_270 rfl ?_
                    first
                      | exact s_block rfl (w0 := true) hO hk hW hP hmc hms
                      | exact s_block rfl (w0 := false) hO hk hW hP hmc hms
              · skip
                skip
                exact s_per rfl hO hk hW hP hmc hms h0
            · skip
              skip
              refine wp_load (pc' := 101) (j := 1) dL_acts_100 rfl rfl rfl ?_
              refine wp_iconst (pc' := 102) (5) dL_acts_101 rfl rfl ?_
              refine wp_iald (pc' := 103) dL_acts_102 hg rfl (by decide) (by decide) rfl ?_
              rw [g5]
              refine wp_if_le (pc' := 106) 120 dL_acts_103 rfl rfl (fun h103 => ?_) (fun h103 => ?_)
              · skip
                skip
                refine wp_load (pc' := 122) (j := 7) dL_acts_120 rfl rfl rfl ?_
                refine wp_bipush (pc' := 124) (11) dL_acts_122 rfl rfl ?_
                refine wp_icmp_ne (pc' := 127) 252 dL_acts_124 rfl rfl (fun h124 => ?_) (fun h124 => ?_)
                · skip
                  skip
                  refine wp_load (pc' := 254) (j := 7) dL_acts_252 rfl rfl rfl ?_
                  refine wp_bipush (pc' := 256) (12) dL_acts_254 rfl rfl ?_
                  refine wp_icmp_ne (pc' := 259) 341 dL_acts_256 rfl rfl (fun h256 => ?_) (fun h256 => ?_)
                  · skip
                    skip
                    refine wp_load (pc' := 343) (j := 7) dL_acts_341 rfl rfl rfl ?_
                    refine wp_bipush (pc' := 345) (13) dL_acts_343 rfl rfl ?_
                    refine wp_icmp_ne (pc' := 348) 385 dL_acts_345 rfl rfl (fun h345 => ?_) (fun h345 => ?_)
                    · skip
                      skip
                      exact s_pass rfl hO hk hW hP hmc hms
                    · skip
                      skip
                      exact s_rule rfl hO hk hW hP hmc hms
                  · skip
                    skip
                    refine wp_load (pc' := 261) (j := 5) dL_acts_259 rfl rfl rfl ?_
                    refine wp_iconst (pc' := 262) (4) dL_acts_261 rfl rfl ?_
                    refine wp_pure (pc' := 263) dL_acts_262 rfl rfl ?_
                    refine wp_iconst (pc' := 264) (1) dL_acts_263 rfl rfl ?_
                    refine wp_pure (pc' := 265) dL_acts_264 rfl rfl ?_
                    refine wp_iconst (pc' := 266) (1) dL_acts_265 rfl rfl ?_
                    refine wp_icmp_ne (pc' := 269) 273 dL_acts_266 rfl rfl (fun h266 => ?_) (fun h266 => ?_)
                    · skip
                      skip
                      refine wp_iconst (pc' := 274) (0) dL_acts_273 rfl rfl ?_
                      first
                        | exact s_block rfl (w0 := true) hO hk hW hP hmc hms
                        | exact s_block rfl (w0 := false) hO hk hW hP hmc hms
                    · skip
                      skip
                      refine wp_iconst (pc' := 270) (1) dL_acts_269 rfl rfl ?_
                      refine wp_goto 274 dL_acts_270 rfl ?_
                      first
                        | exact s_block rfl (w0 := true) hO hk hW hP hmc hms
                        | exact s_block rfl (w0 := false) hO hk hW hP hmc hms
                · skip
                  skip
                  exact s_per rfl hO hk hW hP hmc hms h0
              · skip
                have h5 : 0 < N 5 := Nat.pos_of_ne_zero (fun z => h103 (by rw [z]; decide))
                refine wp_load (pc' := 107) (j := 0) dL_acts_106 rfl rfl rfl ?_
                refine wp_load (pc' := 108) (j := 1) dL_acts_107 rfl rfl rfl ?_
                refine wp_load (pc' := 110) (j := 4) dL_acts_108 rfl rfl rfl ?_
                refine wp_load (pc' := 112) (j := 5) dL_acts_110 rfl rfl rfl ?_
                refine wp_iconst (pc' := 113) (4) dL_acts_112 rfl rfl ?_
                refine wp_pure (pc' := 114) dL_acts_113 rfl rfl ?_
                refine wp_load (pc' := 116) (j := 6) dL_acts_114 rfl rfl rfl ?_
                refine wp_s5 300 8000 dL_acts_116 ml_L_168 (Nat.le_of_ble_eq_true rfl) (by omega) (by omega) ?_
                refine t_settles hO hk hW (fun σ1 N1 G1 hW1 => ?_) (Nat.le_refl _) (Nat.le_refl _) h5
                refine kt_v ?_
                refine wp_iret dL_acts_119 rfl rfl ?_
                exact hP _ _ _ hW1
          · skip
            skip
            refine wp_load (pc' := 84) (j := 0) dL_acts_83 rfl rfl rfl ?_
            refine wp_load (pc' := 85) (j := 1) dL_acts_84 rfl rfl rfl ?_
            refine wp_load (pc' := 87) (j := 4) dL_acts_85 rfl rfl rfl ?_
            refine wp_load (pc' := 89) (j := 6) dL_acts_87 rfl rfl rfl ?_
            refine wp_s4 700 13000 dL_acts_89 ml_L_164 (Nat.le_of_ble_eq_true rfl) (by omega) (by omega) ?_
            refine t_looks hO hk hW (fun σ1 N1 G1 hW1 => ?_) (Nat.le_refl _) (Nat.le_refl _)
            refine kt_v ?_
            refine wp_iret dL_acts_92 rfl rfl ?_
            exact hP _ _ _ hW1
        · skip
          skip
          refine wp_load (pc' := 65) (j := 0) dL_acts_64 rfl rfl rfl ?_
          refine wp_load (pc' := 66) (j := 1) dL_acts_65 rfl rfl rfl ?_
          refine wp_load (pc' := 68) (j := 5) dL_acts_66 rfl rfl rfl ?_
          refine wp_iconst (pc' := 69) (4) dL_acts_68 rfl rfl ?_
          refine wp_pure (pc' := 70) dL_acts_69 rfl rfl ?_
          refine wp_load (pc' := 72) (j := 6) dL_acts_70 rfl rfl rfl ?_
          refine wp_s4 100 6000 dL_acts_72 ml_L_160 (Nat.le_of_ble_eq_true rfl) (by omega) (by omega) ?_
          refine t_pays hO hk hW (fun σ1 N1 G1 hW1 => ?_) (Nat.le_refl _) (Nat.le_refl _) h0
          refine kt_v ?_
          refine wp_iret dL_acts_75 rfl rfl ?_
          exact hP _ _ _ hW1
      · skip
        skip
        refine wp_load (pc' := 43) (j := 0) dL_acts_42 rfl rfl rfl ?_
        refine wp_load (pc' := 44) (j := 1) dL_acts_43 rfl rfl rfl ?_
        refine wp_load (pc' := 45) (j := 2) dL_acts_44 rfl rfl rfl ?_
        refine wp_load (pc' := 47) (j := 4) dL_acts_45 rfl rfl rfl ?_
        refine wp_load (pc' := 49) (j := 5) dL_acts_47 rfl rfl rfl ?_
        refine wp_iconst (pc' := 50) (4) dL_acts_49 rfl rfl ?_
        refine wp_pure (pc' := 51) dL_acts_50 rfl rfl ?_
        refine wp_load (pc' := 53) (j := 6) dL_acts_51 rfl rfl rfl ?_
        refine wp_s6 100 6000 dL_acts_53 ml_L_157 (Nat.le_of_ble_eq_true rfl) (by omega) (by omega) ?_
        refine t_parks hO hk hW (fun σ1 N1 G1 hW1 => ?_) (Nat.le_refl _) (Nat.le_refl _) h0
        refine kt_v ?_
        refine wp_iret dL_acts_56 rfl rfl ?_
        exact hP _ _ _ hW1
    · skip
      skip
      refine wp_load (pc' := 22) (j := 0) dL_acts_21 rfl rfl rfl ?_
      refine wp_load (pc' := 23) (j := 1) dL_acts_22 rfl rfl rfl ?_
      refine wp_load (pc' := 24) (j := 2) dL_acts_23 rfl rfl rfl ?_
      refine wp_load (pc' := 25) (j := 3) dL_acts_24 rfl rfl rfl ?_
      refine wp_load (pc' := 27) (j := 5) dL_acts_25 rfl rfl rfl ?_
      refine wp_iconst (pc' := 28) (4) dL_acts_27 rfl rfl ?_
      refine wp_pure (pc' := 29) dL_acts_28 rfl rfl ?_
      refine wp_load (pc' := 31) (j := 6) dL_acts_29 rfl rfl rfl ?_
      refine wp_s6 60 2000 dL_acts_31 ml_L_153 (Nat.le_of_ble_eq_true rfl) (by omega) (by omega) ?_
      refine t_tells hO hk hW (fun σ1 N1 G1 hW1 => ?_) (Nat.le_refl _) (Nat.le_refl _)
      refine kt_v ?_
      refine wp_iret dL_acts_34 rfl rfl ?_
      exact hP _ _ _ hW1

