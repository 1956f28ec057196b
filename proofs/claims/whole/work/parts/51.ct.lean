/-! the turns of the law -/
theorem b2i_w {b : Bool} {w : Int32} (h : b2i b = w) : w = 0 ∨ w = 1 := by
  cases b
  · exact Or.inl h.symm
  · exact Or.inr h.symm
set_option maxRecDepth 20000 in
set_option maxHeartbeats 4000000 in
theorem t_block {E : XE} {mc ms : Nat} {P : Ps} {own aM : Nat → Nat} {m o x k kc nc : Nat} {σ : MS} {Q : (Nat → Int64) → Prop} {G : HP} {z5 z6 : Option Value} (hOW : OW m o aM own) (hT : TM E own aM m o x σ σ k Q G) (hk : 8 * k + 8 ≤ E.2.2.2.1) (hL : E.2.2.2.1 ≤ 4096) (hmc : kc + 100 ≤ mc) (hms : nc + 5000 ≤ ms) (hP : ∀ G' σ' Q' z5 z6, TM E own aM m o x σ' σ' (k + 1) Q' G' → WX E 12 (yL_law, cL_law, some .boolean, []) mc ms P 1842 [some (.ref E.2.2.1), some (.ref x), some (.ref m), some (.ref o), some (.int (nI (8 * k))), z5, z6] [] G' (kc + 100) (nc + 5000)) : WX E 12 (yL_law, cL_law, some .boolean, []) mc ms P 152 [some (.ref E.2.2.1), some (.ref x), some (.ref m), some (.ref o), some (.int (nI (8 * k))), z5, z6] [] G kc nc := by
  obtain ⟨-, -, A, F, N, hH, hV, -⟩ := id hT
  have hN := hH.2.1
  have hI := hV.1
  clear hH
  refine wp_load (pc' := 153) (j := 1) dL_law_152 rfl rfl rfl ?_
  refine wp_load (pc' := 154) (j := 0) dL_law_153 rfl rfl rfl ?_
  refine wp_load (pc' := 156) (j := 4) dL_law_154 rfl rfl rfl ?_
  refine wp_iconst (pc' := 157) (1) dL_law_156 rfl rfl ?_
  refine wp_pure (pc' := 158) dL_law_157 rfl rfl ?_
  refine wp_sld (pc' := 159) (j := 8 * k + 1) dL_law_158 (show nI (8 * k) + nI 1 = _ from nI_add _ _) (by omega) (by omega) rfl ?_
  refine wp_load (pc' := 160) (j := 0) dL_law_159 rfl rfl rfl ?_
  refine wp_load (pc' := 162) (j := 4) dL_law_160 rfl rfl rfl ?_
  refine wp_iconst (pc' := 163) (2) dL_law_162 rfl rfl ?_
  refine wp_pure (pc' := 164) dL_law_163 rfl rfl ?_
  refine wp_sld (pc' := 165) (j := 8 * k + 2) dL_law_164 (show nI (8 * k) + nI 2 = _ from nI_add _ _) (by omega) (by omega) rfl ?_
  refine wp_load (pc' := 166) (j := 0) dL_law_165 rfl rfl rfl ?_
  refine wp_load (pc' := 168) (j := 4) dL_law_166 rfl rfl rfl ?_
  refine wp_iconst (pc' := 169) (3) dL_law_168 rfl rfl ?_
  refine wp_pure (pc' := 170) dL_law_169 rfl rfl ?_
  refine wp_sld (pc' := 171) (j := 8 * k + 3) dL_law_170 (show nI (8 * k) + nI 3 = _ from nI_add _ _) (by omega) (by omega) rfl ?_
  refine wp_b01 dL_law_171 (L0 := 178) (L1 := 179) (p1 := 174) (p2 := 175) rfl rfl dL_law_174 rfl dL_law_175 rfl dL_law_178 rfl ?_
  refine wp_load (pc' := 180) (j := 3) dL_law_179 rfl rfl rfl ?_
  refine wp_s5 100 5000 dL_law_180 ml_L_102 (Nat.le_of_ble_eq_true rfl) (by omega) (by omega) ?_
  refine w_block hOW hT (by omega) (fun G1 hT1 => ?_)
  refine kt_v ?_
  refine wp_store (pc' := 185) (j := 5) (ls' := [_, _, _, _, _, _, _]) dL_law_183 rfl (Nat.le_of_ble_eq_true rfl) rfl rfl ?_
  refine wp_load (pc' := 186) (j := 2) dL_law_185 rfl rfl rfl ?_
  refine wp_load (pc' := 187) (j := 0) dL_law_186 rfl rfl rfl ?_
  refine wp_load (pc' := 189) (j := 4) dL_law_187 rfl rfl rfl ?_
  refine wp_iconst (pc' := 190) (1) dL_law_189 rfl rfl ?_
  refine wp_pure (pc' := 191) dL_law_190 rfl rfl ?_
  refine wp_sld (pc' := 192) (j := 8 * k + 1) dL_law_191 (show nI (8 * k) + nI 1 = _ from nI_add _ _) (by omega) (by omega) rfl ?_
  refine wp_load (pc' := 193) (j := 0) dL_law_192 rfl rfl rfl ?_
  refine wp_load (pc' := 195) (j := 4) dL_law_193 rfl rfl rfl ?_
  refine wp_iconst (pc' := 196) (2) dL_law_195 rfl rfl ?_
  refine wp_pure (pc' := 197) dL_law_196 rfl rfl ?_
  refine wp_sld (pc' := 198) (j := 8 * k + 2) dL_law_197 (show nI (8 * k) + nI 2 = _ from nI_add _ _) (by omega) (by omega) rfl ?_
  refine wp_load (pc' := 199) (j := 0) dL_law_198 rfl rfl rfl ?_
  refine wp_load (pc' := 201) (j := 4) dL_law_199 rfl rfl rfl ?_
  refine wp_iconst (pc' := 202) (3) dL_law_201 rfl rfl ?_
  refine wp_pure (pc' := 203) dL_law_202 rfl rfl ?_
  refine wp_sld (pc' := 204) (j := 8 * k + 3) dL_law_203 (show nI (8 * k) + nI 3 = _ from nI_add _ _) (by omega) (by omega) rfl ?_
  refine wp_b01 dL_law_204 (L0 := 211) (L1 := 212) (p1 := 207) (p2 := 208) rfl rfl dL_law_207 rfl dL_law_208 rfl dL_law_211 rfl ?_
  refine wp_v3 0 0 dL_law_212 ml_L_107 hT1.1.1 (Nat.le_of_ble_eq_true rfl) (by omega) (by omega) ?_
  refine pm_block hOW hN hI hT1 (fun v G2 hT2 hv => ?_)
  refine kt_v ?_
  refine wp_store (pc' := 217) (j := 6) (ls' := [_, _, _, _, _, _, _]) dL_law_215 rfl (Nat.le_of_ble_eq_true rfl) rfl rfl ?_
  refine wp_load (pc' := 218) (j := 2) dL_law_217 rfl rfl rfl ?_
  refine wp_v0 0 0 dL_law_218 ml_L_108 hT2.1.1 (Nat.le_of_ble_eq_true rfl) (by omega) (by omega) ?_
  refine p_thrown (d := 11) hT2.1 ?_
  refine kt_v ?_
  refine wp_load (pc' := 223) (j := 5) dL_law_221 rfl rfl rfl ?_
  refine wp_icmpT 228 dL_law_223 rfl th_block ?_
  refine wp_load (pc' := 230) (j := 5) dL_law_228 rfl rfl rfl ?_
  generalize hK : K_block (E.2.2.2.2 (8 * k + 1)) (E.2.2.2.2 (8 * k + 2)) = K at hv ⊢
  rcases Decidable.em (K = 0) with h0 | h0
  · skip
    refine wp_ifF (pc' := 233) 252 dL_law_230 rfl rfl (fun z => z h0) ?_
    obtain ⟨f, ho, hq⟩ := id hT2.2.1
    replace hv := hv h0
    replace hq := hq (hK.trans h0)
    generalize hb : b2i _ = w at hv hq
    refine wp_load (pc' := 234) (j := 3) dL_law_233 rfl rfl rfl ?_
    refine wp_iconst (pc' := 235) (0) dL_law_234 rfl rfl ?_
    refine wp_lald (pc' := 236) dL_law_235 ho (show (0 : Int32) = nI 0 from rfl) (by decide) (by decide) rfl ?_
    refine wp_load (pc' := 238) (j := 6) dL_law_236 rfl rfl rfl ?_
    rw [hv]
    refine wp_if_eq (pc' := 241) 245 dL_law_238 rfl rfl (fun hw => ?_) (fun hw => ?_)
    · skip
      refine wp_pure (pc' := 246) dL_law_245 rfl rfl ?_
      refine wp_pure (pc' := 247) dL_law_246 rfl rfl ?_
      refine wp_ifeqL (pc' := 250) 252 dL_law_247 rfl rfl (fun _ => ?_) (fun z => absurd (hq.trans (by rw [hw]; rfl)) z)
      refine wp_goto 1842 dL_law_252 rfl ?_
      exact hP _ _ _ _ _ hT2
    · skip
      refine wp_pure (pc' := 242) dL_law_241 rfl rfl ?_
      refine wp_goto 246 dL_law_242 rfl ?_
      refine wp_pure (pc' := 247) dL_law_246 rfl rfl ?_
      refine wp_ifeqL (pc' := 250) 252 dL_law_247 rfl rfl (fun _ => ?_) (fun z => absurd (hq.trans (by rw [(b2i_w hb).resolve_left hw]; rfl)) z)
      refine wp_goto 1842 dL_law_252 rfl ?_
      exact hP _ _ _ _ _ hT2
  · skip
    refine wp_ifT 252 dL_law_230 rfl (fun z => h0 z) ?_
    refine wp_goto 1842 dL_law_252 rfl ?_
    exact hP _ _ _ _ _ hT2

set_option maxRecDepth 20000 in
set_option maxHeartbeats 4000000 in
theorem t_times {E : XE} {mc ms : Nat} {P : Ps} {own aM : Nat → Nat} {m o x k kc nc : Nat} {σ : MS} {Q : (Nat → Int64) → Prop} {G : HP} {z5 z6 : Option Value} (hOW : OW m o aM own) (hT : TM E own aM m o x σ σ k Q G) (hk : 8 * k + 8 ≤ E.2.2.2.1) (hL : E.2.2.2.1 ≤ 4096) (hmc : kc + 100 ≤ mc) (hms : nc + 5000 ≤ ms) (hP : ∀ G' σ' Q' z5 z6, TM E own aM m o x σ' σ' (k + 1) Q' G' → WX E 12 (yL_law, cL_law, some .boolean, []) mc ms P 1842 [some (.ref E.2.2.1), some (.ref x), some (.ref m), some (.ref o), some (.int (nI (8 * k))), z5, z6] [] G' (kc + 100) (nc + 5000)) : WX E 12 (yL_law, cL_law, some .boolean, []) mc ms P 255 [some (.ref E.2.2.1), some (.ref x), some (.ref m), some (.ref o), some (.int (nI (8 * k))), z5, z6] [] G kc nc := by
  obtain ⟨-, -, A, F, N, hH, hV, -⟩ := id hT
  have hN := hH.2.1
  have hI := hV.1
  clear hH
  refine wp_load (pc' := 256) (j := 1) dL_law_255 rfl rfl rfl ?_
  refine wp_load (pc' := 257) (j := 0) dL_law_256 rfl rfl rfl ?_
  refine wp_load (pc' := 259) (j := 4) dL_law_257 rfl rfl rfl ?_
  refine wp_iconst (pc' := 260) (1) dL_law_259 rfl rfl ?_
  refine wp_pure (pc' := 261) dL_law_260 rfl rfl ?_
  refine wp_sld (pc' := 262) (j := 8 * k + 1) dL_law_261 (show nI (8 * k) + nI 1 = _ from nI_add _ _) (by omega) (by omega) rfl ?_
  refine wp_load (pc' := 263) (j := 0) dL_law_262 rfl rfl rfl ?_
  refine wp_load (pc' := 265) (j := 4) dL_law_263 rfl rfl rfl ?_
  refine wp_iconst (pc' := 266) (2) dL_law_265 rfl rfl ?_
  refine wp_pure (pc' := 267) dL_law_266 rfl rfl ?_
  refine wp_sld (pc' := 268) (j := 8 * k + 2) dL_law_267 (show nI (8 * k) + nI 2 = _ from nI_add _ _) (by omega) (by omega) rfl ?_
  refine wp_load (pc' := 269) (j := 0) dL_law_268 rfl rfl rfl ?_
  refine wp_load (pc' := 271) (j := 4) dL_law_269 rfl rfl rfl ?_
  refine wp_iconst (pc' := 272) (3) dL_law_271 rfl rfl ?_
  refine wp_pure (pc' := 273) dL_law_272 rfl rfl ?_
  refine wp_sld (pc' := 274) (j := 8 * k + 3) dL_law_273 (show nI (8 * k) + nI 3 = _ from nI_add _ _) (by omega) (by omega) rfl ?_
  refine wp_s4 100 5000 dL_law_274 ml_L_112 (Nat.le_of_ble_eq_true rfl) (by omega) (by omega) ?_
  refine w_times hOW hT (by omega) (fun G1 hT1 => ?_)
  refine kt_v ?_
  refine wp_store (pc' := 279) (j := 5) (ls' := [_, _, _, _, _, _, _]) dL_law_277 rfl (Nat.le_of_ble_eq_true rfl) rfl rfl ?_
  refine wp_load (pc' := 280) (j := 2) dL_law_279 rfl rfl rfl ?_
  refine wp_load (pc' := 281) (j := 0) dL_law_280 rfl rfl rfl ?_
  refine wp_load (pc' := 283) (j := 4) dL_law_281 rfl rfl rfl ?_
  refine wp_iconst (pc' := 284) (1) dL_law_283 rfl rfl ?_
  refine wp_pure (pc' := 285) dL_law_284 rfl rfl ?_
  refine wp_sld (pc' := 286) (j := 8 * k + 1) dL_law_285 (show nI (8 * k) + nI 1 = _ from nI_add _ _) (by omega) (by omega) rfl ?_
  refine wp_load (pc' := 287) (j := 0) dL_law_286 rfl rfl rfl ?_
  refine wp_load (pc' := 289) (j := 4) dL_law_287 rfl rfl rfl ?_
  refine wp_iconst (pc' := 290) (2) dL_law_289 rfl rfl ?_
  refine wp_pure (pc' := 291) dL_law_290 rfl rfl ?_
  refine wp_sld (pc' := 292) (j := 8 * k + 2) dL_law_291 (show nI (8 * k) + nI 2 = _ from nI_add _ _) (by omega) (by omega) rfl ?_
  refine wp_load (pc' := 293) (j := 0) dL_law_292 rfl rfl rfl ?_
  refine wp_load (pc' := 295) (j := 4) dL_law_293 rfl rfl rfl ?_
  refine wp_iconst (pc' := 296) (3) dL_law_295 rfl rfl ?_
  refine wp_pure (pc' := 297) dL_law_296 rfl rfl ?_
  refine wp_sld (pc' := 298) (j := 8 * k + 3) dL_law_297 (show nI (8 * k) + nI 3 = _ from nI_add _ _) (by omega) (by omega) rfl ?_
  refine wp_v3 0 0 dL_law_298 ml_L_115 hT1.1.1 (Nat.le_of_ble_eq_true rfl) (by omega) (by omega) ?_
  refine pm_times hOW hN hI hT1 (fun G2 hT2 => ?_)
  refine kt_u ?_
  refine wp_load (pc' := 302) (j := 2) dL_law_301 rfl rfl rfl ?_
  refine wp_v0 0 0 dL_law_302 ml_L_108 hT2.1.1 (Nat.le_of_ble_eq_true rfl) (by omega) (by omega) ?_
  refine p_thrown (d := 11) hT2.1 ?_
  refine kt_v ?_
  refine wp_load (pc' := 307) (j := 5) dL_law_305 rfl rfl rfl ?_
  refine wp_icmpT 312 dL_law_307 rfl th_times ?_
  refine wp_goto 1842 dL_law_312 rfl ?_
  exact hP _ _ _ _ _ hT2

set_option maxRecDepth 20000 in
set_option maxHeartbeats 4000000 in
theorem t_dates {E : XE} {mc ms : Nat} {P : Ps} {own aM : Nat → Nat} {m o x k kc nc : Nat} {σ : MS} {Q : (Nat → Int64) → Prop} {G : HP} {z5 z6 : Option Value} (hOW : OW m o aM own) (hT : TM E own aM m o x σ σ k Q G) (hk : 8 * k + 8 ≤ E.2.2.2.1) (hL : E.2.2.2.1 ≤ 4096) (hmc : kc + 100 ≤ mc) (hms : nc + 5000 ≤ ms) (hP : ∀ G' σ' Q' z5 z6, TM E own aM m o x σ' σ' (k + 1) Q' G' → WX E 12 (yL_law, cL_law, some .boolean, []) mc ms P 1842 [some (.ref E.2.2.1), some (.ref x), some (.ref m), some (.ref o), some (.int (nI (8 * k))), z5, z6] [] G' (kc + 100) (nc + 5000)) : WX E 12 (yL_law, cL_law, some .boolean, []) mc ms P 315 [some (.ref E.2.2.1), some (.ref x), some (.ref m), some (.ref o), some (.int (nI (8 * k))), z5, z6] [] G kc nc := by
  obtain ⟨-, -, A, F, N, hH, hV, -⟩ := id hT
  have hN := hH.2.1
  have hI := hV.1
  clear hH
  refine wp_load (pc' := 316) (j := 1) dL_law_315 rfl rfl rfl ?_
  refine wp_load (pc' := 317) (j := 0) dL_law_316 rfl rfl rfl ?_
  refine wp_load (pc' := 319) (j := 4) dL_law_317 rfl rfl rfl ?_
  refine wp_iconst (pc' := 320) (1) dL_law_319 rfl rfl ?_
  refine wp_pure (pc' := 321) dL_law_320 rfl rfl ?_
  refine wp_sld (pc' := 322) (j := 8 * k + 1) dL_law_321 (show nI (8 * k) + nI 1 = _ from nI_add _ _) (by omega) (by omega) rfl ?_
  refine wp_load (pc' := 323) (j := 0) dL_law_322 rfl rfl rfl ?_
  refine wp_load (pc' := 325) (j := 4) dL_law_323 rfl rfl rfl ?_
  refine wp_iconst (pc' := 326) (2) dL_law_325 rfl rfl ?_
  refine wp_pure (pc' := 327) dL_law_326 rfl rfl ?_
  refine wp_sld (pc' := 328) (j := 8 * k + 2) dL_law_327 (show nI (8 * k) + nI 2 = _ from nI_add _ _) (by omega) (by omega) rfl ?_
  refine wp_s3 100 5000 dL_law_328 ml_L_116 (Nat.le_of_ble_eq_true rfl) (by omega) (by omega) ?_
  refine w_dates hOW hT (by omega) (fun G1 hT1 => ?_)
  refine kt_v ?_
  refine wp_store (pc' := 333) (j := 5) (ls' := [_, _, _, _, _, _, _]) dL_law_331 rfl (Nat.le_of_ble_eq_true rfl) rfl rfl ?_
  refine wp_load (pc' := 334) (j := 2) dL_law_333 rfl rfl rfl ?_
  refine wp_load (pc' := 335) (j := 0) dL_law_334 rfl rfl rfl ?_
  refine wp_load (pc' := 337) (j := 4) dL_law_335 rfl rfl rfl ?_
  refine wp_iconst (pc' := 338) (1) dL_law_337 rfl rfl ?_
  refine wp_pure (pc' := 339) dL_law_338 rfl rfl ?_
  refine wp_sld (pc' := 340) (j := 8 * k + 1) dL_law_339 (show nI (8 * k) + nI 1 = _ from nI_add _ _) (by omega) (by omega) rfl ?_
  refine wp_load (pc' := 341) (j := 0) dL_law_340 rfl rfl rfl ?_
  refine wp_load (pc' := 343) (j := 4) dL_law_341 rfl rfl rfl ?_
  refine wp_iconst (pc' := 344) (2) dL_law_343 rfl rfl ?_
  refine wp_pure (pc' := 345) dL_law_344 rfl rfl ?_
  refine wp_sld (pc' := 346) (j := 8 * k + 2) dL_law_345 (show nI (8 * k) + nI 2 = _ from nI_add _ _) (by omega) (by omega) rfl ?_
  refine wp_v2 0 0 dL_law_346 ml_L_119 hT1.1.1 (Nat.le_of_ble_eq_true rfl) (by omega) (by omega) ?_
  refine pm_dates hOW hN hI hT1 (fun G2 hT2 => ?_)
  refine kt_u ?_
  refine wp_load (pc' := 350) (j := 2) dL_law_349 rfl rfl rfl ?_
  refine wp_v0 0 0 dL_law_350 ml_L_108 hT2.1.1 (Nat.le_of_ble_eq_true rfl) (by omega) (by omega) ?_
  refine p_thrown (d := 11) hT2.1 ?_
  refine kt_v ?_
  refine wp_load (pc' := 355) (j := 5) dL_law_353 rfl rfl rfl ?_
  refine wp_icmpT 360 dL_law_355 rfl th_dates ?_
  refine wp_goto 1842 dL_law_360 rfl ?_
  exact hP _ _ _ _ _ hT2

set_option maxRecDepth 20000 in
set_option maxHeartbeats 4000000 in
theorem t_sign {E : XE} {mc ms : Nat} {P : Ps} {own aM : Nat → Nat} {m o x k kc nc : Nat} {σ : MS} {Q : (Nat → Int64) → Prop} {G : HP} {z5 z6 : Option Value} (hOW : OW m o aM own) (hT : TM E own aM m o x σ σ k Q G) (hk : 8 * k + 8 ≤ E.2.2.2.1) (hL : E.2.2.2.1 ≤ 4096) (hmc : kc + 100 ≤ mc) (hms : nc + 5000 ≤ ms) (hP : ∀ G' σ' Q' z5 z6, TM E own aM m o x σ' σ' (k + 1) Q' G' → WX E 12 (yL_law, cL_law, some .boolean, []) mc ms P 1842 [some (.ref E.2.2.1), some (.ref x), some (.ref m), some (.ref o), some (.int (nI (8 * k))), z5, z6] [] G' (kc + 100) (nc + 5000)) : WX E 12 (yL_law, cL_law, some .boolean, []) mc ms P 363 [some (.ref E.2.2.1), some (.ref x), some (.ref m), some (.ref o), some (.int (nI (8 * k))), z5, z6] [] G kc nc := by
  obtain ⟨-, -, A, F, N, hH, hV, -⟩ := id hT
  have hN := hH.2.1
  have hI := hV.1
  clear hH
  refine wp_load (pc' := 364) (j := 1) dL_law_363 rfl rfl rfl ?_
  refine wp_load (pc' := 365) (j := 0) dL_law_364 rfl rfl rfl ?_
  refine wp_load (pc' := 367) (j := 4) dL_law_365 rfl rfl rfl ?_
  refine wp_iconst (pc' := 368) (1) dL_law_367 rfl rfl ?_
  refine wp_pure (pc' := 369) dL_law_368 rfl rfl ?_
  refine wp_sld (pc' := 370) (j := 8 * k + 1) dL_law_369 (show nI (8 * k) + nI 1 = _ from nI_add _ _) (by omega) (by omega) rfl ?_
  refine wp_load (pc' := 371) (j := 0) dL_law_370 rfl rfl rfl ?_
  refine wp_load (pc' := 373) (j := 4) dL_law_371 rfl rfl rfl ?_
  refine wp_iconst (pc' := 374) (2) dL_law_373 rfl rfl ?_
  refine wp_pure (pc' := 375) dL_law_374 rfl rfl ?_
  refine wp_sld (pc' := 376) (j := 8 * k + 2) dL_law_375 (show nI (8 * k) + nI 2 = _ from nI_add _ _) (by omega) (by omega) rfl ?_
  refine wp_load (pc' := 377) (j := 0) dL_law_376 rfl rfl rfl ?_
  refine wp_load (pc' := 379) (j := 4) dL_law_377 rfl rfl rfl ?_
  refine wp_iconst (pc' := 380) (3) dL_law_379 rfl rfl ?_
  refine wp_pure (pc' := 381) dL_law_380 rfl rfl ?_
  refine wp_sld (pc' := 382) (j := 8 * k + 3) dL_law_381 (show nI (8 * k) + nI 3 = _ from nI_add _ _) (by omega) (by omega) rfl ?_
  refine wp_load (pc' := 383) (j := 0) dL_law_382 rfl rfl rfl ?_
  refine wp_load (pc' := 385) (j := 4) dL_law_383 rfl rfl rfl ?_
  refine wp_iconst (pc' := 386) (4) dL_law_385 rfl rfl ?_
  refine wp_pure (pc' := 387) dL_law_386 rfl rfl ?_
  refine wp_sld (pc' := 388) (j := 8 * k + 4) dL_law_387 (show nI (8 * k) + nI 4 = _ from nI_add _ _) (by omega) (by omega) rfl ?_
  refine wp_load (pc' := 389) (j := 0) dL_law_388 rfl rfl rfl ?_
  refine wp_load (pc' := 391) (j := 4) dL_law_389 rfl rfl rfl ?_
  refine wp_iconst (pc' := 392) (5) dL_law_391 rfl rfl ?_
  refine wp_pure (pc' := 393) dL_law_392 rfl rfl ?_
  refine wp_sld (pc' := 394) (j := 8 * k + 5) dL_law_393 (show nI (8 * k) + nI 5 = _ from nI_add _ _) (by omega) (by omega) rfl ?_
  refine wp_load (pc' := 395) (j := 0) dL_law_394 rfl rfl rfl ?_
  refine wp_load (pc' := 397) (j := 4) dL_law_395 rfl rfl rfl ?_
  refine wp_bipush (pc' := 399) (6) dL_law_397 rfl rfl ?_
  refine wp_pure (pc' := 400) dL_law_399 rfl rfl ?_
  refine wp_sld (pc' := 401) (j := 8 * k + 6) dL_law_400 (show nI (8 * k) + nI 6 = _ from nI_add _ _) (by omega) (by omega) rfl ?_
  refine wp_b01 dL_law_401 (L0 := 408) (L1 := 409) (p1 := 404) (p2 := 405) rfl rfl dL_law_404 rfl dL_law_405 rfl dL_law_408 rfl ?_
  refine wp_load (pc' := 410) (j := 0) dL_law_409 rfl rfl rfl ?_
  refine wp_load (pc' := 412) (j := 4) dL_law_410 rfl rfl rfl ?_
  refine wp_bipush (pc' := 414) (7) dL_law_412 rfl rfl ?_
  refine wp_pure (pc' := 415) dL_law_414 rfl rfl ?_
  refine wp_sld (pc' := 416) (j := 8 * k + 7) dL_law_415 (show nI (8 * k) + nI 7 = _ from nI_add _ _) (by omega) (by omega) rfl ?_
  refine wp_b01 dL_law_416 (L0 := 423) (L1 := 424) (p1 := 419) (p2 := 420) rfl rfl dL_law_419 rfl dL_law_420 rfl dL_law_423 rfl ?_
  refine wp_load (pc' := 425) (j := 3) dL_law_424 rfl rfl rfl ?_
  refine wp_s9 100 5000 dL_law_425 ml_L_120 (Nat.le_of_ble_eq_true rfl) (by omega) (by omega) ?_
  refine w_sign hOW hT (by omega) (fun G1 hT1 => ?_)
  refine kt_v ?_
  refine wp_store (pc' := 430) (j := 5) (ls' := [_, _, _, _, _, _, _]) dL_law_428 rfl (Nat.le_of_ble_eq_true rfl) rfl rfl ?_
  refine wp_load (pc' := 431) (j := 2) dL_law_430 rfl rfl rfl ?_
  refine wp_load (pc' := 432) (j := 0) dL_law_431 rfl rfl rfl ?_
  refine wp_load (pc' := 434) (j := 4) dL_law_432 rfl rfl rfl ?_
  refine wp_iconst (pc' := 435) (1) dL_law_434 rfl rfl ?_
  refine wp_pure (pc' := 436) dL_law_435 rfl rfl ?_
  refine wp_sld (pc' := 437) (j := 8 * k + 1) dL_law_436 (show nI (8 * k) + nI 1 = _ from nI_add _ _) (by omega) (by omega) rfl ?_
  refine wp_load (pc' := 438) (j := 0) dL_law_437 rfl rfl rfl ?_
  refine wp_load (pc' := 440) (j := 4) dL_law_438 rfl rfl rfl ?_
  refine wp_iconst (pc' := 441) (2) dL_law_440 rfl rfl ?_
  refine wp_pure (pc' := 442) dL_law_441 rfl rfl ?_
  refine wp_sld (pc' := 443) (j := 8 * k + 2) dL_law_442 (show nI (8 * k) + nI 2 = _ from nI_add _ _) (by omega) (by omega) rfl ?_
  refine wp_load (pc' := 444) (j := 0) dL_law_443 rfl rfl rfl ?_
  refine wp_load (pc' := 446) (j := 4) dL_law_444 rfl rfl rfl ?_
  refine wp_iconst (pc' := 447) (3) dL_law_446 rfl rfl ?_
  refine wp_pure (pc' := 448) dL_law_447 rfl rfl ?_
  refine wp_sld (pc' := 449) (j := 8 * k + 3) dL_law_448 (show nI (8 * k) + nI 3 = _ from nI_add _ _) (by omega) (by omega) rfl ?_
  refine wp_load (pc' := 450) (j := 0) dL_law_449 rfl rfl rfl ?_
  refine wp_load (pc' := 452) (j := 4) dL_law_450 rfl rfl rfl ?_
  refine wp_iconst (pc' := 453) (4) dL_law_452 rfl rfl ?_
  refine wp_pure (pc' := 454) dL_law_453 rfl rfl ?_
  refine wp_sld (pc' := 455) (j := 8 * k + 4) dL_law_454 (show nI (8 * k) + nI 4 = _ from nI_add _ _) (by omega) (by omega) rfl ?_
  refine wp_load (pc' := 456) (j := 0) dL_law_455 rfl rfl rfl ?_
  refine wp_load (pc' := 458) (j := 4) dL_law_456 rfl rfl rfl ?_
  refine wp_iconst (pc' := 459) (5) dL_law_458 rfl rfl ?_
  refine wp_pure (pc' := 460) dL_law_459 rfl rfl ?_
  refine wp_sld (pc' := 461) (j := 8 * k + 5) dL_law_460 (show nI (8 * k) + nI 5 = _ from nI_add _ _) (by omega) (by omega) rfl ?_
  refine wp_load (pc' := 462) (j := 0) dL_law_461 rfl rfl rfl ?_
  refine wp_load (pc' := 464) (j := 4) dL_law_462 rfl rfl rfl ?_
  refine wp_bipush (pc' := 466) (6) dL_law_464 rfl rfl ?_
  refine wp_pure (pc' := 467) dL_law_466 rfl rfl ?_
  refine wp_sld (pc' := 468) (j := 8 * k + 6) dL_law_467 (show nI (8 * k) + nI 6 = _ from nI_add _ _) (by omega) (by omega) rfl ?_
  refine wp_b01 dL_law_468 (L0 := 475) (L1 := 476) (p1 := 471) (p2 := 472) rfl rfl dL_law_471 rfl dL_law_472 rfl dL_law_475 rfl ?_
  refine wp_load (pc' := 477) (j := 0) dL_law_476 rfl rfl rfl ?_
  refine wp_load (pc' := 479) (j := 4) dL_law_477 rfl rfl rfl ?_
  refine wp_bipush (pc' := 481) (7) dL_law_479 rfl rfl ?_
  refine wp_pure (pc' := 482) dL_law_481 rfl rfl ?_
  refine wp_sld (pc' := 483) (j := 8 * k + 7) dL_law_482 (show nI (8 * k) + nI 7 = _ from nI_add _ _) (by omega) (by omega) rfl ?_
  refine wp_b01 dL_law_483 (L0 := 490) (L1 := 491) (p1 := 486) (p2 := 487) rfl rfl dL_law_486 rfl dL_law_487 rfl dL_law_490 rfl ?_
  refine wp_v7 0 0 dL_law_491 ml_L_123 hT1.1.1 (Nat.le_of_ble_eq_true rfl) (by omega) (by omega) ?_
  refine pm_sign hOW hN hI hT1 (fun v G2 hT2 hv => ?_)
  refine kt_v ?_
  refine wp_store (pc' := 496) (j := 6) (ls' := [_, _, _, _, _, _, _]) dL_law_494 rfl (Nat.le_of_ble_eq_true rfl) rfl rfl ?_
  refine wp_load (pc' := 497) (j := 2) dL_law_496 rfl rfl rfl ?_
  refine wp_v0 0 0 dL_law_497 ml_L_108 hT2.1.1 (Nat.le_of_ble_eq_true rfl) (by omega) (by omega) ?_
  refine p_thrown (d := 11) hT2.1 ?_
  refine kt_v ?_
  refine wp_load (pc' := 502) (j := 5) dL_law_500 rfl rfl rfl ?_
  refine wp_icmpT 507 dL_law_502 rfl th_sign ?_
  refine wp_load (pc' := 509) (j := 5) dL_law_507 rfl rfl rfl ?_
  generalize hK : K_sign σ (E.2.2.2.2 (8 * k + 1)) (E.2.2.2.2 (8 * k + 2)) (E.2.2.2.2 (8 * k + 3)) (E.2.2.2.2 (8 * k + 4)) (E.2.2.2.2 (8 * k + 5)) = K at hv ⊢
  rcases Decidable.em (K = 0) with h0 | h0
  · skip
    refine wp_ifF (pc' := 512) 524 dL_law_509 rfl rfl (fun z => z h0) ?_
    obtain ⟨f, ho, hq⟩ := id hT2.2.1
    replace hv := hv h0
    replace hq := hq (hK.trans h0)
    rw [← hv] at hq
    refine wp_load (pc' := 513) (j := 3) dL_law_512 rfl rfl rfl ?_
    refine wp_iconst (pc' := 514) (0) dL_law_513 rfl rfl ?_
    refine wp_lald (pc' := 515) dL_law_514 ho (show (0 : Int32) = nI 0 from rfl) (by decide) (by decide) rfl ?_
    refine wp_load (pc' := 517) (j := 6) dL_law_515 rfl rfl rfl ?_
    refine wp_pure (pc' := 518) dL_law_517 rfl rfl ?_
    refine wp_pure (pc' := 519) dL_law_518 rfl rfl ?_
    refine wp_ifeqL (pc' := 522) 524 dL_law_519 rfl rfl (fun _ => ?_) (fun z => absurd hq z)
    refine wp_goto 1842 dL_law_524 rfl ?_
    exact hP _ _ _ _ _ hT2
  · skip
    refine wp_ifT 524 dL_law_509 rfl (fun z => h0 z) ?_
    refine wp_goto 1842 dL_law_524 rfl ?_
    exact hP _ _ _ _ _ hT2

set_option maxRecDepth 20000 in
set_option maxHeartbeats 4000000 in
theorem t_takeDown {E : XE} {mc ms : Nat} {P : Ps} {own aM : Nat → Nat} {m o x k kc nc : Nat} {σ : MS} {Q : (Nat → Int64) → Prop} {G : HP} {z5 z6 : Option Value} (hOW : OW m o aM own) (hT : TM E own aM m o x σ σ k Q G) (hk : 8 * k + 8 ≤ E.2.2.2.1) (hL : E.2.2.2.1 ≤ 4096) (hmc : kc + 100 ≤ mc) (hms : nc + 5000 ≤ ms) (hP : ∀ G' σ' Q' z5 z6, TM E own aM m o x σ' σ' (k + 1) Q' G' → WX E 12 (yL_law, cL_law, some .boolean, []) mc ms P 1842 [some (.ref E.2.2.1), some (.ref x), some (.ref m), some (.ref o), some (.int (nI (8 * k))), z5, z6] [] G' (kc + 100) (nc + 5000)) : WX E 12 (yL_law, cL_law, some .boolean, []) mc ms P 527 [some (.ref E.2.2.1), some (.ref x), some (.ref m), some (.ref o), some (.int (nI (8 * k))), z5, z6] [] G kc nc := by
  obtain ⟨-, -, A, F, N, hH, hV, -⟩ := id hT
  have hN := hH.2.1
  have hI := hV.1
  clear hH
  refine wp_load (pc' := 528) (j := 1) dL_law_527 rfl rfl rfl ?_
  refine wp_load (pc' := 529) (j := 0) dL_law_528 rfl rfl rfl ?_
  refine wp_load (pc' := 531) (j := 4) dL_law_529 rfl rfl rfl ?_
  refine wp_iconst (pc' := 532) (1) dL_law_531 rfl rfl ?_
  refine wp_pure (pc' := 533) dL_law_532 rfl rfl ?_
  refine wp_sld (pc' := 534) (j := 8 * k + 1) dL_law_533 (show nI (8 * k) + nI 1 = _ from nI_add _ _) (by omega) (by omega) rfl ?_
  refine wp_s2 100 5000 dL_law_534 ml_L_124 (Nat.le_of_ble_eq_true rfl) (by omega) (by omega) ?_
  refine w_takeDown hOW hT (by omega) (fun G1 hT1 => ?_)
  refine kt_v ?_
  refine wp_store (pc' := 539) (j := 5) (ls' := [_, _, _, _, _, _, _]) dL_law_537 rfl (Nat.le_of_ble_eq_true rfl) rfl rfl ?_
  refine wp_load (pc' := 540) (j := 2) dL_law_539 rfl rfl rfl ?_
  refine wp_load (pc' := 541) (j := 0) dL_law_540 rfl rfl rfl ?_
  refine wp_load (pc' := 543) (j := 4) dL_law_541 rfl rfl rfl ?_
  refine wp_iconst (pc' := 544) (1) dL_law_543 rfl rfl ?_
  refine wp_pure (pc' := 545) dL_law_544 rfl rfl ?_
  refine wp_sld (pc' := 546) (j := 8 * k + 1) dL_law_545 (show nI (8 * k) + nI 1 = _ from nI_add _ _) (by omega) (by omega) rfl ?_
  refine wp_v1 0 0 dL_law_546 ml_L_127 hT1.1.1 (Nat.le_of_ble_eq_true rfl) (by omega) (by omega) ?_
  refine pm_takeDown hOW hN hI hT1 (fun G2 hT2 => ?_)
  refine kt_u ?_
  refine wp_load (pc' := 550) (j := 2) dL_law_549 rfl rfl rfl ?_
  refine wp_v0 0 0 dL_law_550 ml_L_108 hT2.1.1 (Nat.le_of_ble_eq_true rfl) (by omega) (by omega) ?_
  refine p_thrown (d := 11) hT2.1 ?_
  refine kt_v ?_
  refine wp_load (pc' := 555) (j := 5) dL_law_553 rfl rfl rfl ?_
  refine wp_icmpT 560 dL_law_555 rfl th_takeDown ?_
  refine wp_goto 1842 dL_law_560 rfl ?_
  exact hP _ _ _ _ _ hT2

set_option maxRecDepth 20000 in
set_option maxHeartbeats 4000000 in
theorem t_rule {E : XE} {mc ms : Nat} {P : Ps} {own aM : Nat → Nat} {m o x k kc nc : Nat} {σ : MS} {Q : (Nat → Int64) → Prop} {G : HP} {z5 z6 : Option Value} (hOW : OW m o aM own) (hT : TM E own aM m o x σ σ k Q G) (hk : 8 * k + 8 ≤ E.2.2.2.1) (hL : E.2.2.2.1 ≤ 4096) (hmc : kc + 100 ≤ mc) (hms : nc + 5000 ≤ ms) (hP : ∀ G' σ' Q' z5 z6, TM E own aM m o x σ' σ' (k + 1) Q' G' → WX E 12 (yL_law, cL_law, some .boolean, []) mc ms P 1842 [some (.ref E.2.2.1), some (.ref x), some (.ref m), some (.ref o), some (.int (nI (8 * k))), z5, z6] [] G' (kc + 100) (nc + 5000)) : WX E 12 (yL_law, cL_law, some .boolean, []) mc ms P 563 [some (.ref E.2.2.1), some (.ref x), some (.ref m), some (.ref o), some (.int (nI (8 * k))), z5, z6] [] G kc nc := by
  obtain ⟨-, -, A, F, N, hH, hV, -⟩ := id hT
  have hN := hH.2.1
  have hI := hV.1
  clear hH
  refine wp_load (pc' := 564) (j := 1) dL_law_563 rfl rfl rfl ?_
  refine wp_load (pc' := 565) (j := 0) dL_law_564 rfl rfl rfl ?_
  refine wp_load (pc' := 567) (j := 4) dL_law_565 rfl rfl rfl ?_
  refine wp_iconst (pc' := 568) (1) dL_law_567 rfl rfl ?_
  refine wp_pure (pc' := 569) dL_law_568 rfl rfl ?_
  refine wp_sld (pc' := 570) (j := 8 * k + 1) dL_law_569 (show nI (8 * k) + nI 1 = _ from nI_add _ _) (by omega) (by omega) rfl ?_
  refine wp_load (pc' := 571) (j := 0) dL_law_570 rfl rfl rfl ?_
  refine wp_load (pc' := 573) (j := 4) dL_law_571 rfl rfl rfl ?_
  refine wp_iconst (pc' := 574) (2) dL_law_573 rfl rfl ?_
  refine wp_pure (pc' := 575) dL_law_574 rfl rfl ?_
  refine wp_sld (pc' := 576) (j := 8 * k + 2) dL_law_575 (show nI (8 * k) + nI 2 = _ from nI_add _ _) (by omega) (by omega) rfl ?_
  refine wp_load (pc' := 577) (j := 0) dL_law_576 rfl rfl rfl ?_
  refine wp_load (pc' := 579) (j := 4) dL_law_577 rfl rfl rfl ?_
  refine wp_iconst (pc' := 580) (3) dL_law_579 rfl rfl ?_
  refine wp_pure (pc' := 581) dL_law_580 rfl rfl ?_
  refine wp_sld (pc' := 582) (j := 8 * k + 3) dL_law_581 (show nI (8 * k) + nI 3 = _ from nI_add _ _) (by omega) (by omega) rfl ?_
  refine wp_load (pc' := 583) (j := 3) dL_law_582 rfl rfl rfl ?_
  refine wp_s5 100 5000 dL_law_583 ml_L_128 (Nat.le_of_ble_eq_true rfl) (by omega) (by omega) ?_
  refine w_rule hOW hT (by omega) (fun G1 hT1 => ?_)
  refine kt_v ?_
  refine wp_store (pc' := 588) (j := 5) (ls' := [_, _, _, _, _, _, _]) dL_law_586 rfl (Nat.le_of_ble_eq_true rfl) rfl rfl ?_
  refine wp_load (pc' := 589) (j := 2) dL_law_588 rfl rfl rfl ?_
  refine wp_load (pc' := 590) (j := 0) dL_law_589 rfl rfl rfl ?_
  refine wp_load (pc' := 592) (j := 4) dL_law_590 rfl rfl rfl ?_
  refine wp_iconst (pc' := 593) (1) dL_law_592 rfl rfl ?_
  refine wp_pure (pc' := 594) dL_law_593 rfl rfl ?_
  refine wp_sld (pc' := 595) (j := 8 * k + 1) dL_law_594 (show nI (8 * k) + nI 1 = _ from nI_add _ _) (by omega) (by omega) rfl ?_
  refine wp_load (pc' := 596) (j := 0) dL_law_595 rfl rfl rfl ?_
  refine wp_load (pc' := 598) (j := 4) dL_law_596 rfl rfl rfl ?_
  refine wp_iconst (pc' := 599) (2) dL_law_598 rfl rfl ?_
  refine wp_pure (pc' := 600) dL_law_599 rfl rfl ?_
  refine wp_sld (pc' := 601) (j := 8 * k + 2) dL_law_600 (show nI (8 * k) + nI 2 = _ from nI_add _ _) (by omega) (by omega) rfl ?_
  refine wp_load (pc' := 602) (j := 0) dL_law_601 rfl rfl rfl ?_
  refine wp_load (pc' := 604) (j := 4) dL_law_602 rfl rfl rfl ?_
  refine wp_iconst (pc' := 605) (3) dL_law_604 rfl rfl ?_
  refine wp_pure (pc' := 606) dL_law_605 rfl rfl ?_
  refine wp_sld (pc' := 607) (j := 8 * k + 3) dL_law_606 (show nI (8 * k) + nI 3 = _ from nI_add _ _) (by omega) (by omega) rfl ?_
  refine wp_v3 0 0 dL_law_607 ml_L_131 hT1.1.1 (Nat.le_of_ble_eq_true rfl) (by omega) (by omega) ?_
  refine pm_rule hOW hN hI hT1 (fun v G2 hT2 hv => ?_)
  refine kt_v ?_
  refine wp_store (pc' := 612) (j := 6) (ls' := [_, _, _, _, _, _, _]) dL_law_610 rfl (Nat.le_of_ble_eq_true rfl) rfl rfl ?_
  refine wp_load (pc' := 613) (j := 2) dL_law_612 rfl rfl rfl ?_
  refine wp_v0 0 0 dL_law_613 ml_L_108 hT2.1.1 (Nat.le_of_ble_eq_true rfl) (by omega) (by omega) ?_
  refine p_thrown (d := 11) hT2.1 ?_
  refine kt_v ?_
  refine wp_load (pc' := 618) (j := 5) dL_law_616 rfl rfl rfl ?_
  refine wp_icmpT 623 dL_law_618 rfl th_rule ?_
  refine wp_load (pc' := 625) (j := 5) dL_law_623 rfl rfl rfl ?_
  generalize hK : K_rule (E.2.2.2.2 (8 * k + 1)) (E.2.2.2.2 (8 * k + 2)) (E.2.2.2.2 (8 * k + 3)) = K at hv ⊢
  rcases Decidable.em (K = 0) with h0 | h0
  · skip
    refine wp_ifF (pc' := 628) 640 dL_law_625 rfl rfl (fun z => z h0) ?_
    obtain ⟨f, ho, hq⟩ := id hT2.2.1
    replace hv := hv h0
    replace hq := hq (hK.trans h0)
    rw [← hv] at hq
    refine wp_load (pc' := 629) (j := 3) dL_law_628 rfl rfl rfl ?_
    refine wp_iconst (pc' := 630) (0) dL_law_629 rfl rfl ?_
    refine wp_lald (pc' := 631) dL_law_630 ho (show (0 : Int32) = nI 0 from rfl) (by decide) (by decide) rfl ?_
    refine wp_load (pc' := 633) (j := 6) dL_law_631 rfl rfl rfl ?_
    refine wp_pure (pc' := 634) dL_law_633 rfl rfl ?_
    refine wp_pure (pc' := 635) dL_law_634 rfl rfl ?_
    refine wp_ifeqL (pc' := 638) 640 dL_law_635 rfl rfl (fun _ => ?_) (fun z => absurd hq z)
    refine wp_goto 1842 dL_law_640 rfl ?_
    exact hP _ _ _ _ _ hT2
  · skip
    refine wp_ifT 640 dL_law_625 rfl (fun z => h0 z) ?_
    refine wp_goto 1842 dL_law_640 rfl ?_
    exact hP _ _ _ _ _ hT2

set_option maxRecDepth 20000 in
set_option maxHeartbeats 4000000 in
theorem t_ruleAnew {E : XE} {mc ms : Nat} {P : Ps} {own aM : Nat → Nat} {m o x k kc nc : Nat} {σ : MS} {Q : (Nat → Int64) → Prop} {G : HP} {z5 z6 : Option Value} (hOW : OW m o aM own) (hT : TM E own aM m o x σ σ k Q G) (hk : 8 * k + 8 ≤ E.2.2.2.1) (hL : E.2.2.2.1 ≤ 4096) (hmc : kc + 100 ≤ mc) (hms : nc + 5000 ≤ ms) (hP : ∀ G' σ' Q' z5 z6, TM E own aM m o x σ' σ' (k + 1) Q' G' → WX E 12 (yL_law, cL_law, some .boolean, []) mc ms P 1842 [some (.ref E.2.2.1), some (.ref x), some (.ref m), some (.ref o), some (.int (nI (8 * k))), z5, z6] [] G' (kc + 100) (nc + 5000)) : WX E 12 (yL_law, cL_law, some .boolean, []) mc ms P 643 [some (.ref E.2.2.1), some (.ref x), some (.ref m), some (.ref o), some (.int (nI (8 * k))), z5, z6] [] G kc nc := by
  obtain ⟨-, -, A, F, N, hH, hV, -⟩ := id hT
  have hN := hH.2.1
  have hI := hV.1
  clear hH
  refine wp_load (pc' := 644) (j := 1) dL_law_643 rfl rfl rfl ?_
  refine wp_load (pc' := 645) (j := 0) dL_law_644 rfl rfl rfl ?_
  refine wp_load (pc' := 647) (j := 4) dL_law_645 rfl rfl rfl ?_
  refine wp_iconst (pc' := 648) (1) dL_law_647 rfl rfl ?_
  refine wp_pure (pc' := 649) dL_law_648 rfl rfl ?_
  refine wp_sld (pc' := 650) (j := 8 * k + 1) dL_law_649 (show nI (8 * k) + nI 1 = _ from nI_add _ _) (by omega) (by omega) rfl ?_
  refine wp_load (pc' := 651) (j := 0) dL_law_650 rfl rfl rfl ?_
  refine wp_load (pc' := 653) (j := 4) dL_law_651 rfl rfl rfl ?_
  refine wp_iconst (pc' := 654) (2) dL_law_653 rfl rfl ?_
  refine wp_pure (pc' := 655) dL_law_654 rfl rfl ?_
  refine wp_sld (pc' := 656) (j := 8 * k + 2) dL_law_655 (show nI (8 * k) + nI 2 = _ from nI_add _ _) (by omega) (by omega) rfl ?_
  refine wp_load (pc' := 657) (j := 0) dL_law_656 rfl rfl rfl ?_
  refine wp_load (pc' := 659) (j := 4) dL_law_657 rfl rfl rfl ?_
  refine wp_iconst (pc' := 660) (3) dL_law_659 rfl rfl ?_
  refine wp_pure (pc' := 661) dL_law_660 rfl rfl ?_
  refine wp_sld (pc' := 662) (j := 8 * k + 3) dL_law_661 (show nI (8 * k) + nI 3 = _ from nI_add _ _) (by omega) (by omega) rfl ?_
  refine wp_load (pc' := 663) (j := 3) dL_law_662 rfl rfl rfl ?_
  refine wp_s5 100 5000 dL_law_663 ml_L_132 (Nat.le_of_ble_eq_true rfl) (by omega) (by omega) ?_
  refine w_ruleAnew hOW hT (by omega) (fun G1 hT1 => ?_)
  refine kt_v ?_
  refine wp_store (pc' := 668) (j := 5) (ls' := [_, _, _, _, _, _, _]) dL_law_666 rfl (Nat.le_of_ble_eq_true rfl) rfl rfl ?_
  refine wp_load (pc' := 669) (j := 2) dL_law_668 rfl rfl rfl ?_
  refine wp_load (pc' := 670) (j := 0) dL_law_669 rfl rfl rfl ?_
  refine wp_load (pc' := 672) (j := 4) dL_law_670 rfl rfl rfl ?_
  refine wp_iconst (pc' := 673) (1) dL_law_672 rfl rfl ?_
  refine wp_pure (pc' := 674) dL_law_673 rfl rfl ?_
  refine wp_sld (pc' := 675) (j := 8 * k + 1) dL_law_674 (show nI (8 * k) + nI 1 = _ from nI_add _ _) (by omega) (by omega) rfl ?_
  refine wp_load (pc' := 676) (j := 0) dL_law_675 rfl rfl rfl ?_
  refine wp_load (pc' := 678) (j := 4) dL_law_676 rfl rfl rfl ?_
  refine wp_iconst (pc' := 679) (2) dL_law_678 rfl rfl ?_
  refine wp_pure (pc' := 680) dL_law_679 rfl rfl ?_
  refine wp_sld (pc' := 681) (j := 8 * k + 2) dL_law_680 (show nI (8 * k) + nI 2 = _ from nI_add _ _) (by omega) (by omega) rfl ?_
  refine wp_load (pc' := 682) (j := 0) dL_law_681 rfl rfl rfl ?_
  refine wp_load (pc' := 684) (j := 4) dL_law_682 rfl rfl rfl ?_
  refine wp_iconst (pc' := 685) (3) dL_law_684 rfl rfl ?_
  refine wp_pure (pc' := 686) dL_law_685 rfl rfl ?_
  refine wp_sld (pc' := 687) (j := 8 * k + 3) dL_law_686 (show nI (8 * k) + nI 3 = _ from nI_add _ _) (by omega) (by omega) rfl ?_
  refine wp_v3 0 0 dL_law_687 ml_L_134 hT1.1.1 (Nat.le_of_ble_eq_true rfl) (by omega) (by omega) ?_
  refine pm_ruleAnew hOW hN hI hT1 (fun v G2 hT2 hv => ?_)
  refine kt_v ?_
  refine wp_store (pc' := 692) (j := 6) (ls' := [_, _, _, _, _, _, _]) dL_law_690 rfl (Nat.le_of_ble_eq_true rfl) rfl rfl ?_
  refine wp_load (pc' := 693) (j := 2) dL_law_692 rfl rfl rfl ?_
  refine wp_v0 0 0 dL_law_693 ml_L_108 hT2.1.1 (Nat.le_of_ble_eq_true rfl) (by omega) (by omega) ?_
  refine p_thrown (d := 11) hT2.1 ?_
  refine kt_v ?_
  refine wp_load (pc' := 698) (j := 5) dL_law_696 rfl rfl rfl ?_
  refine wp_icmpT 703 dL_law_698 rfl th_ruleAnew ?_
  refine wp_load (pc' := 705) (j := 5) dL_law_703 rfl rfl rfl ?_
  generalize hK : K_rule (E.2.2.2.2 (8 * k + 1)) (E.2.2.2.2 (8 * k + 2)) (E.2.2.2.2 (8 * k + 3)) = K at hv ⊢
  rcases Decidable.em (K = 0) with h0 | h0
  · skip
    refine wp_ifF (pc' := 708) 720 dL_law_705 rfl rfl (fun z => z h0) ?_
    obtain ⟨f, ho, hq⟩ := id hT2.2.1
    replace hv := hv h0
    replace hq := hq (hK.trans h0)
    rw [← hv] at hq
    refine wp_load (pc' := 709) (j := 3) dL_law_708 rfl rfl rfl ?_
    refine wp_iconst (pc' := 710) (0) dL_law_709 rfl rfl ?_
    refine wp_lald (pc' := 711) dL_law_710 ho (show (0 : Int32) = nI 0 from rfl) (by decide) (by decide) rfl ?_
    refine wp_load (pc' := 713) (j := 6) dL_law_711 rfl rfl rfl ?_
    refine wp_pure (pc' := 714) dL_law_713 rfl rfl ?_
    refine wp_pure (pc' := 715) dL_law_714 rfl rfl ?_
    refine wp_ifeqL (pc' := 718) 720 dL_law_715 rfl rfl (fun _ => ?_) (fun z => absurd hq z)
    refine wp_goto 1842 dL_law_720 rfl ?_
    exact hP _ _ _ _ _ hT2
  · skip
    refine wp_ifT 720 dL_law_705 rfl (fun z => h0 z) ?_
    refine wp_goto 1842 dL_law_720 rfl ?_
    exact hP _ _ _ _ _ hT2

set_option maxRecDepth 20000 in
set_option maxHeartbeats 4000000 in
theorem t_car {E : XE} {mc ms : Nat} {P : Ps} {own aM : Nat → Nat} {m o x k kc nc : Nat} {σ : MS} {Q : (Nat → Int64) → Prop} {G : HP} {z5 z6 : Option Value} (hOW : OW m o aM own) (hT : TM E own aM m o x σ σ k Q G) (hk : 8 * k + 8 ≤ E.2.2.2.1) (hL : E.2.2.2.1 ≤ 4096) (hmc : kc + 100 ≤ mc) (hms : nc + 5000 ≤ ms) (hP : ∀ G' σ' Q' z5 z6, TM E own aM m o x σ' σ' (k + 1) Q' G' → WX E 12 (yL_law, cL_law, some .boolean, []) mc ms P 1842 [some (.ref E.2.2.1), some (.ref x), some (.ref m), some (.ref o), some (.int (nI (8 * k))), z5, z6] [] G' (kc + 100) (nc + 5000)) : WX E 12 (yL_law, cL_law, some .boolean, []) mc ms P 723 [some (.ref E.2.2.1), some (.ref x), some (.ref m), some (.ref o), some (.int (nI (8 * k))), z5, z6] [] G kc nc := by
  obtain ⟨-, -, A, F, N, hH, hV, -⟩ := id hT
  have hN := hH.2.1
  have hI := hV.1
  clear hH
  refine wp_load (pc' := 724) (j := 1) dL_law_723 rfl rfl rfl ?_
  refine wp_load (pc' := 725) (j := 0) dL_law_724 rfl rfl rfl ?_
  refine wp_load (pc' := 727) (j := 4) dL_law_725 rfl rfl rfl ?_
  refine wp_iconst (pc' := 728) (1) dL_law_727 rfl rfl ?_
  refine wp_pure (pc' := 729) dL_law_728 rfl rfl ?_
  refine wp_sld (pc' := 730) (j := 8 * k + 1) dL_law_729 (show nI (8 * k) + nI 1 = _ from nI_add _ _) (by omega) (by omega) rfl ?_
  refine wp_load (pc' := 731) (j := 0) dL_law_730 rfl rfl rfl ?_
  refine wp_load (pc' := 733) (j := 4) dL_law_731 rfl rfl rfl ?_
  refine wp_iconst (pc' := 734) (2) dL_law_733 rfl rfl ?_
  refine wp_pure (pc' := 735) dL_law_734 rfl rfl ?_
  refine wp_sld (pc' := 736) (j := 8 * k + 2) dL_law_735 (show nI (8 * k) + nI 2 = _ from nI_add _ _) (by omega) (by omega) rfl ?_
  refine wp_load (pc' := 737) (j := 3) dL_law_736 rfl rfl rfl ?_
  refine wp_s4 100 5000 dL_law_737 ml_L_135 (Nat.le_of_ble_eq_true rfl) (by omega) (by omega) ?_
  refine w_car hOW hT (by omega) (fun G1 hT1 => ?_)
  refine kt_v ?_
  refine wp_store (pc' := 742) (j := 5) (ls' := [_, _, _, _, _, _, _]) dL_law_740 rfl (Nat.le_of_ble_eq_true rfl) rfl rfl ?_
  refine wp_load (pc' := 743) (j := 2) dL_law_742 rfl rfl rfl ?_
  refine wp_load (pc' := 744) (j := 0) dL_law_743 rfl rfl rfl ?_
  refine wp_load (pc' := 746) (j := 4) dL_law_744 rfl rfl rfl ?_
  refine wp_iconst (pc' := 747) (1) dL_law_746 rfl rfl ?_
  refine wp_pure (pc' := 748) dL_law_747 rfl rfl ?_
  refine wp_sld (pc' := 749) (j := 8 * k + 1) dL_law_748 (show nI (8 * k) + nI 1 = _ from nI_add _ _) (by omega) (by omega) rfl ?_
  refine wp_load (pc' := 750) (j := 0) dL_law_749 rfl rfl rfl ?_
  refine wp_load (pc' := 752) (j := 4) dL_law_750 rfl rfl rfl ?_
  refine wp_iconst (pc' := 753) (2) dL_law_752 rfl rfl ?_
  refine wp_pure (pc' := 754) dL_law_753 rfl rfl ?_
  refine wp_sld (pc' := 755) (j := 8 * k + 2) dL_law_754 (show nI (8 * k) + nI 2 = _ from nI_add _ _) (by omega) (by omega) rfl ?_
  refine wp_v2 0 0 dL_law_755 ml_L_138 hT1.1.1 (Nat.le_of_ble_eq_true rfl) (by omega) (by omega) ?_
  refine pm_car hOW hN hI hT1 (fun v G2 hT2 hv => ?_)
  refine kt_v ?_
  refine wp_store (pc' := 760) (j := 6) (ls' := [_, _, _, _, _, _, _]) dL_law_758 rfl (Nat.le_of_ble_eq_true rfl) rfl rfl ?_
  refine wp_load (pc' := 761) (j := 2) dL_law_760 rfl rfl rfl ?_
  refine wp_v0 0 0 dL_law_761 ml_L_108 hT2.1.1 (Nat.le_of_ble_eq_true rfl) (by omega) (by omega) ?_
  refine p_thrown (d := 11) hT2.1 ?_
  refine kt_v ?_
  refine wp_load (pc' := 766) (j := 5) dL_law_764 rfl rfl rfl ?_
  refine wp_icmpT 771 dL_law_766 rfl th_car ?_
  refine wp_load (pc' := 773) (j := 5) dL_law_771 rfl rfl rfl ?_
  generalize hK : K_car σ (E.2.2.2.2 (8 * k + 1)) (E.2.2.2.2 (8 * k + 2)) = K at hv ⊢
  rcases Decidable.em (K = 0) with h0 | h0
  · skip
    refine wp_ifF (pc' := 776) 788 dL_law_773 rfl rfl (fun z => z h0) ?_
    obtain ⟨f, ho, hq⟩ := id hT2.2.1
    replace hv := hv h0
    replace hq := hq (hK.trans h0)
    rw [← hv] at hq
    refine wp_load (pc' := 777) (j := 3) dL_law_776 rfl rfl rfl ?_
    refine wp_iconst (pc' := 778) (0) dL_law_777 rfl rfl ?_
    refine wp_lald (pc' := 779) dL_law_778 ho (show (0 : Int32) = nI 0 from rfl) (by decide) (by decide) rfl ?_
    refine wp_load (pc' := 781) (j := 6) dL_law_779 rfl rfl rfl ?_
    refine wp_pure (pc' := 782) dL_law_781 rfl rfl ?_
    refine wp_pure (pc' := 783) dL_law_782 rfl rfl ?_
    refine wp_ifeqL (pc' := 786) 788 dL_law_783 rfl rfl (fun _ => ?_) (fun z => absurd hq z)
    refine wp_goto 1842 dL_law_788 rfl ?_
    exact hP _ _ _ _ _ hT2
  · skip
    refine wp_ifT 788 dL_law_773 rfl (fun z => h0 z) ?_
    refine wp_goto 1842 dL_law_788 rfl ?_
    exact hP _ _ _ _ _ hT2

set_option maxRecDepth 20000 in
set_option maxHeartbeats 4000000 in
theorem t_permit {E : XE} {mc ms : Nat} {P : Ps} {own aM : Nat → Nat} {m o x k kc nc : Nat} {σ : MS} {Q : (Nat → Int64) → Prop} {G : HP} {z5 z6 : Option Value} (hOW : OW m o aM own) (hT : TM E own aM m o x σ σ k Q G) (hk : 8 * k + 8 ≤ E.2.2.2.1) (hL : E.2.2.2.1 ≤ 4096) (hmc : kc + 100 ≤ mc) (hms : nc + 5000 ≤ ms) (hP : ∀ G' σ' Q' z5 z6, TM E own aM m o x σ' σ' (k + 1) Q' G' → WX E 12 (yL_law, cL_law, some .boolean, []) mc ms P 1842 [some (.ref E.2.2.1), some (.ref x), some (.ref m), some (.ref o), some (.int (nI (8 * k))), z5, z6] [] G' (kc + 100) (nc + 5000)) : WX E 12 (yL_law, cL_law, some .boolean, []) mc ms P 791 [some (.ref E.2.2.1), some (.ref x), some (.ref m), some (.ref o), some (.int (nI (8 * k))), z5, z6] [] G kc nc := by
  obtain ⟨-, -, A, F, N, hH, hV, -⟩ := id hT
  have hN := hH.2.1
  have hI := hV.1
  clear hH
  refine wp_load (pc' := 792) (j := 1) dL_law_791 rfl rfl rfl ?_
  refine wp_load (pc' := 793) (j := 0) dL_law_792 rfl rfl rfl ?_
  refine wp_load (pc' := 795) (j := 4) dL_law_793 rfl rfl rfl ?_
  refine wp_iconst (pc' := 796) (1) dL_law_795 rfl rfl ?_
  refine wp_pure (pc' := 797) dL_law_796 rfl rfl ?_
  refine wp_sld (pc' := 798) (j := 8 * k + 1) dL_law_797 (show nI (8 * k) + nI 1 = _ from nI_add _ _) (by omega) (by omega) rfl ?_
  refine wp_load (pc' := 799) (j := 0) dL_law_798 rfl rfl rfl ?_
  refine wp_load (pc' := 801) (j := 4) dL_law_799 rfl rfl rfl ?_
  refine wp_iconst (pc' := 802) (2) dL_law_801 rfl rfl ?_
  refine wp_pure (pc' := 803) dL_law_802 rfl rfl ?_
  refine wp_sld (pc' := 804) (j := 8 * k + 2) dL_law_803 (show nI (8 * k) + nI 2 = _ from nI_add _ _) (by omega) (by omega) rfl ?_
  refine wp_load (pc' := 805) (j := 0) dL_law_804 rfl rfl rfl ?_
  refine wp_load (pc' := 807) (j := 4) dL_law_805 rfl rfl rfl ?_
  refine wp_iconst (pc' := 808) (3) dL_law_807 rfl rfl ?_
  refine wp_pure (pc' := 809) dL_law_808 rfl rfl ?_
  refine wp_sld (pc' := 810) (j := 8 * k + 3) dL_law_809 (show nI (8 * k) + nI 3 = _ from nI_add _ _) (by omega) (by omega) rfl ?_
  refine wp_load (pc' := 811) (j := 0) dL_law_810 rfl rfl rfl ?_
  refine wp_load (pc' := 813) (j := 4) dL_law_811 rfl rfl rfl ?_
  refine wp_iconst (pc' := 814) (4) dL_law_813 rfl rfl ?_
  refine wp_pure (pc' := 815) dL_law_814 rfl rfl ?_
  refine wp_sld (pc' := 816) (j := 8 * k + 4) dL_law_815 (show nI (8 * k) + nI 4 = _ from nI_add _ _) (by omega) (by omega) rfl ?_
  refine wp_load (pc' := 817) (j := 0) dL_law_816 rfl rfl rfl ?_
  refine wp_load (pc' := 819) (j := 4) dL_law_817 rfl rfl rfl ?_
  refine wp_iconst (pc' := 820) (5) dL_law_819 rfl rfl ?_
  refine wp_pure (pc' := 821) dL_law_820 rfl rfl ?_
  refine wp_sld (pc' := 822) (j := 8 * k + 5) dL_law_821 (show nI (8 * k) + nI 5 = _ from nI_add _ _) (by omega) (by omega) rfl ?_
  refine wp_load (pc' := 823) (j := 3) dL_law_822 rfl rfl rfl ?_
  refine wp_s7 100 5000 dL_law_823 ml_L_139 (Nat.le_of_ble_eq_true rfl) (by omega) (by omega) ?_
  refine w_permit hOW hT (by omega) (fun G1 hT1 => ?_)
  refine kt_v ?_
  refine wp_store (pc' := 828) (j := 5) (ls' := [_, _, _, _, _, _, _]) dL_law_826 rfl (Nat.le_of_ble_eq_true rfl) rfl rfl ?_
  refine wp_load (pc' := 829) (j := 2) dL_law_828 rfl rfl rfl ?_
  refine wp_load (pc' := 830) (j := 0) dL_law_829 rfl rfl rfl ?_
  refine wp_load (pc' := 832) (j := 4) dL_law_830 rfl rfl rfl ?_
  refine wp_iconst (pc' := 833) (1) dL_law_832 rfl rfl ?_
  refine wp_pure (pc' := 834) dL_law_833 rfl rfl ?_
  refine wp_sld (pc' := 835) (j := 8 * k + 1) dL_law_834 (show nI (8 * k) + nI 1 = _ from nI_add _ _) (by omega) (by omega) rfl ?_
  refine wp_load (pc' := 836) (j := 0) dL_law_835 rfl rfl rfl ?_
  refine wp_load (pc' := 838) (j := 4) dL_law_836 rfl rfl rfl ?_
  refine wp_iconst (pc' := 839) (2) dL_law_838 rfl rfl ?_
  refine wp_pure (pc' := 840) dL_law_839 rfl rfl ?_
  refine wp_sld (pc' := 841) (j := 8 * k + 2) dL_law_840 (show nI (8 * k) + nI 2 = _ from nI_add _ _) (by omega) (by omega) rfl ?_
  refine wp_load (pc' := 842) (j := 0) dL_law_841 rfl rfl rfl ?_
  refine wp_load (pc' := 844) (j := 4) dL_law_842 rfl rfl rfl ?_
  refine wp_iconst (pc' := 845) (3) dL_law_844 rfl rfl ?_
  refine wp_pure (pc' := 846) dL_law_845 rfl rfl ?_
  refine wp_sld (pc' := 847) (j := 8 * k + 3) dL_law_846 (show nI (8 * k) + nI 3 = _ from nI_add _ _) (by omega) (by omega) rfl ?_
  refine wp_load (pc' := 848) (j := 0) dL_law_847 rfl rfl rfl ?_
  refine wp_load (pc' := 850) (j := 4) dL_law_848 rfl rfl rfl ?_
  refine wp_iconst (pc' := 851) (4) dL_law_850 rfl rfl ?_
  refine wp_pure (pc' := 852) dL_law_851 rfl rfl ?_
  refine wp_sld (pc' := 853) (j := 8 * k + 4) dL_law_852 (show nI (8 * k) + nI 4 = _ from nI_add _ _) (by omega) (by omega) rfl ?_
  refine wp_load (pc' := 854) (j := 0) dL_law_853 rfl rfl rfl ?_
  refine wp_load (pc' := 856) (j := 4) dL_law_854 rfl rfl rfl ?_
  refine wp_iconst (pc' := 857) (5) dL_law_856 rfl rfl ?_
  refine wp_pure (pc' := 858) dL_law_857 rfl rfl ?_
  refine wp_sld (pc' := 859) (j := 8 * k + 5) dL_law_858 (show nI (8 * k) + nI 5 = _ from nI_add _ _) (by omega) (by omega) rfl ?_
  refine wp_v5 0 0 dL_law_859 ml_L_142 hT1.1.1 (Nat.le_of_ble_eq_true rfl) (by omega) (by omega) ?_
  refine pm_permit hOW hN hI hT1 (fun v G2 hT2 hv => ?_)
  refine kt_v ?_
  refine wp_store (pc' := 864) (j := 6) (ls' := [_, _, _, _, _, _, _]) dL_law_862 rfl (Nat.le_of_ble_eq_true rfl) rfl rfl ?_
  refine wp_load (pc' := 865) (j := 2) dL_law_864 rfl rfl rfl ?_
  refine wp_v0 0 0 dL_law_865 ml_L_108 hT2.1.1 (Nat.le_of_ble_eq_true rfl) (by omega) (by omega) ?_
  refine p_thrown (d := 11) hT2.1 ?_
  refine kt_v ?_
  refine wp_load (pc' := 870) (j := 5) dL_law_868 rfl rfl rfl ?_
  refine wp_icmpT 875 dL_law_870 rfl th_permit ?_
  refine wp_load (pc' := 877) (j := 5) dL_law_875 rfl rfl rfl ?_
  generalize hK : K_permit σ (ix (σ.1 29)) (E.2.2.2.2 (8 * k + 1)) (E.2.2.2.2 (8 * k + 2)) (E.2.2.2.2 (8 * k + 3)) (E.2.2.2.2 (8 * k + 4)) (E.2.2.2.2 (8 * k + 5)) = K at hv ⊢
  rcases Decidable.em (K = 0) with h0 | h0
  · skip
    refine wp_ifF (pc' := 880) 892 dL_law_877 rfl rfl (fun z => z h0) ?_
    obtain ⟨f, ho, hq⟩ := id hT2.2.1
    replace hv := hv h0
    replace hq := hq (hK.trans h0)
    rw [← hv] at hq
    refine wp_load (pc' := 881) (j := 3) dL_law_880 rfl rfl rfl ?_
    refine wp_iconst (pc' := 882) (0) dL_law_881 rfl rfl ?_
    refine wp_lald (pc' := 883) dL_law_882 ho (show (0 : Int32) = nI 0 from rfl) (by decide) (by decide) rfl ?_
    refine wp_load (pc' := 885) (j := 6) dL_law_883 rfl rfl rfl ?_
    refine wp_pure (pc' := 886) dL_law_885 rfl rfl ?_
    refine wp_pure (pc' := 887) dL_law_886 rfl rfl ?_
    refine wp_ifeqL (pc' := 890) 892 dL_law_887 rfl rfl (fun _ => ?_) (fun z => absurd hq z)
    refine wp_goto 1842 dL_law_892 rfl ?_
    exact hP _ _ _ _ _ hT2
  · skip
    refine wp_ifT 892 dL_law_877 rfl (fun z => h0 z) ?_
    refine wp_goto 1842 dL_law_892 rfl ?_
    exact hP _ _ _ _ _ hT2

set_option maxRecDepth 20000 in
set_option maxHeartbeats 4000000 in
theorem t_hand {E : XE} {mc ms : Nat} {P : Ps} {own aM : Nat → Nat} {m o x k kc nc : Nat} {σ : MS} {Q : (Nat → Int64) → Prop} {G : HP} {z5 z6 : Option Value} (hOW : OW m o aM own) (hT : TM E own aM m o x σ σ k Q G) (hk : 8 * k + 8 ≤ E.2.2.2.1) (hL : E.2.2.2.1 ≤ 4096) (hmc : kc + 100 ≤ mc) (hms : nc + 5000 ≤ ms) (hP : ∀ G' σ' Q' z5 z6, TM E own aM m o x σ' σ' (k + 1) Q' G' → WX E 12 (yL_law, cL_law, some .boolean, []) mc ms P 1842 [some (.ref E.2.2.1), some (.ref x), some (.ref m), some (.ref o), some (.int (nI (8 * k))), z5, z6] [] G' (kc + 100) (nc + 5000)) : WX E 12 (yL_law, cL_law, some .boolean, []) mc ms P 895 [some (.ref E.2.2.1), some (.ref x), some (.ref m), some (.ref o), some (.int (nI (8 * k))), z5, z6] [] G kc nc := by
  obtain ⟨-, -, A, F, N, hH, hV, -⟩ := id hT
  have hN := hH.2.1
  have hI := hV.1
  clear hH
  refine wp_load (pc' := 896) (j := 1) dL_law_895 rfl rfl rfl ?_
  refine wp_load (pc' := 897) (j := 0) dL_law_896 rfl rfl rfl ?_
  refine wp_load (pc' := 899) (j := 4) dL_law_897 rfl rfl rfl ?_
  refine wp_iconst (pc' := 900) (1) dL_law_899 rfl rfl ?_
  refine wp_pure (pc' := 901) dL_law_900 rfl rfl ?_
  refine wp_sld (pc' := 902) (j := 8 * k + 1) dL_law_901 (show nI (8 * k) + nI 1 = _ from nI_add _ _) (by omega) (by omega) rfl ?_
  refine wp_load (pc' := 903) (j := 0) dL_law_902 rfl rfl rfl ?_
  refine wp_load (pc' := 905) (j := 4) dL_law_903 rfl rfl rfl ?_
  refine wp_iconst (pc' := 906) (2) dL_law_905 rfl rfl ?_
  refine wp_pure (pc' := 907) dL_law_906 rfl rfl ?_
  refine wp_sld (pc' := 908) (j := 8 * k + 2) dL_law_907 (show nI (8 * k) + nI 2 = _ from nI_add _ _) (by omega) (by omega) rfl ?_
  refine wp_load (pc' := 909) (j := 3) dL_law_908 rfl rfl rfl ?_
  refine wp_s4 100 5000 dL_law_909 ml_L_143 (Nat.le_of_ble_eq_true rfl) (by omega) (by omega) ?_
  refine w_hand hOW hT (by omega) (fun G1 hT1 => ?_)
  refine kt_v ?_
  refine wp_store (pc' := 914) (j := 5) (ls' := [_, _, _, _, _, _, _]) dL_law_912 rfl (Nat.le_of_ble_eq_true rfl) rfl rfl ?_
  refine wp_load (pc' := 915) (j := 2) dL_law_914 rfl rfl rfl ?_
  refine wp_load (pc' := 916) (j := 0) dL_law_915 rfl rfl rfl ?_
  refine wp_load (pc' := 918) (j := 4) dL_law_916 rfl rfl rfl ?_
  refine wp_iconst (pc' := 919) (1) dL_law_918 rfl rfl ?_
  refine wp_pure (pc' := 920) dL_law_919 rfl rfl ?_
  refine wp_sld (pc' := 921) (j := 8 * k + 1) dL_law_920 (show nI (8 * k) + nI 1 = _ from nI_add _ _) (by omega) (by omega) rfl ?_
  refine wp_load (pc' := 922) (j := 0) dL_law_921 rfl rfl rfl ?_
  refine wp_load (pc' := 924) (j := 4) dL_law_922 rfl rfl rfl ?_
  refine wp_iconst (pc' := 925) (2) dL_law_924 rfl rfl ?_
  refine wp_pure (pc' := 926) dL_law_925 rfl rfl ?_
  refine wp_sld (pc' := 927) (j := 8 * k + 2) dL_law_926 (show nI (8 * k) + nI 2 = _ from nI_add _ _) (by omega) (by omega) rfl ?_
  refine wp_v2 0 0 dL_law_927 ml_L_145 hT1.1.1 (Nat.le_of_ble_eq_true rfl) (by omega) (by omega) ?_
  refine pm_hand hOW hN hI hT1 (fun v G2 hT2 hv => ?_)
  refine kt_v ?_
  refine wp_store (pc' := 932) (j := 6) (ls' := [_, _, _, _, _, _, _]) dL_law_930 rfl (Nat.le_of_ble_eq_true rfl) rfl rfl ?_
  refine wp_load (pc' := 933) (j := 2) dL_law_932 rfl rfl rfl ?_
  refine wp_v0 0 0 dL_law_933 ml_L_108 hT2.1.1 (Nat.le_of_ble_eq_true rfl) (by omega) (by omega) ?_
  refine p_thrown (d := 11) hT2.1 ?_
  refine kt_v ?_
  refine wp_load (pc' := 938) (j := 5) dL_law_936 rfl rfl rfl ?_
  refine wp_icmpT 943 dL_law_938 rfl th_hand ?_
  refine wp_load (pc' := 945) (j := 5) dL_law_943 rfl rfl rfl ?_
  generalize hK : K_hand σ (E.2.2.2.2 (8 * k + 1)) (E.2.2.2.2 (8 * k + 2)) = K at hv ⊢
  rcases Decidable.em (K = 0) with h0 | h0
  · skip
    refine wp_ifF (pc' := 948) 960 dL_law_945 rfl rfl (fun z => z h0) ?_
    obtain ⟨f, ho, hq⟩ := id hT2.2.1
    replace hv := hv h0
    replace hq := hq (hK.trans h0)
    rw [← hv] at hq
    refine wp_load (pc' := 949) (j := 3) dL_law_948 rfl rfl rfl ?_
    refine wp_iconst (pc' := 950) (0) dL_law_949 rfl rfl ?_
    refine wp_lald (pc' := 951) dL_law_950 ho (show (0 : Int32) = nI 0 from rfl) (by decide) (by decide) rfl ?_
    refine wp_load (pc' := 953) (j := 6) dL_law_951 rfl rfl rfl ?_
    refine wp_pure (pc' := 954) dL_law_953 rfl rfl ?_
    refine wp_pure (pc' := 955) dL_law_954 rfl rfl ?_
    refine wp_ifeqL (pc' := 958) 960 dL_law_955 rfl rfl (fun _ => ?_) (fun z => absurd hq z)
    refine wp_goto 1842 dL_law_960 rfl ?_
    exact hP _ _ _ _ _ hT2
  · skip
    refine wp_ifT 960 dL_law_945 rfl (fun z => h0 z) ?_
    refine wp_goto 1842 dL_law_960 rfl ?_
    exact hP _ _ _ _ _ hT2

set_option maxRecDepth 20000 in
set_option maxHeartbeats 4000000 in
theorem t_countsAs {E : XE} {mc ms : Nat} {P : Ps} {own aM : Nat → Nat} {m o x k kc nc : Nat} {σ : MS} {Q : (Nat → Int64) → Prop} {G : HP} {z5 z6 : Option Value} (hOW : OW m o aM own) (hT : TM E own aM m o x σ σ k Q G) (hk : 8 * k + 8 ≤ E.2.2.2.1) (hL : E.2.2.2.1 ≤ 4096) (hmc : kc + 100 ≤ mc) (hms : nc + 5000 ≤ ms) (hP : ∀ G' σ' Q' z5 z6, TM E own aM m o x σ' σ' (k + 1) Q' G' → WX E 12 (yL_law, cL_law, some .boolean, []) mc ms P 1842 [some (.ref E.2.2.1), some (.ref x), some (.ref m), some (.ref o), some (.int (nI (8 * k))), z5, z6] [] G' (kc + 100) (nc + 5000)) : WX E 12 (yL_law, cL_law, some .boolean, []) mc ms P 963 [some (.ref E.2.2.1), some (.ref x), some (.ref m), some (.ref o), some (.int (nI (8 * k))), z5, z6] [] G kc nc := by
  obtain ⟨-, -, A, F, N, hH, hV, -⟩ := id hT
  have hN := hH.2.1
  have hI := hV.1
  clear hH
  refine wp_load (pc' := 964) (j := 1) dL_law_963 rfl rfl rfl ?_
  refine wp_load (pc' := 965) (j := 0) dL_law_964 rfl rfl rfl ?_
  refine wp_load (pc' := 967) (j := 4) dL_law_965 rfl rfl rfl ?_
  refine wp_iconst (pc' := 968) (1) dL_law_967 rfl rfl ?_
  refine wp_pure (pc' := 969) dL_law_968 rfl rfl ?_
  refine wp_sld (pc' := 970) (j := 8 * k + 1) dL_law_969 (show nI (8 * k) + nI 1 = _ from nI_add _ _) (by omega) (by omega) rfl ?_
  refine wp_load (pc' := 971) (j := 0) dL_law_970 rfl rfl rfl ?_
  refine wp_load (pc' := 973) (j := 4) dL_law_971 rfl rfl rfl ?_
  refine wp_iconst (pc' := 974) (2) dL_law_973 rfl rfl ?_
  refine wp_pure (pc' := 975) dL_law_974 rfl rfl ?_
  refine wp_sld (pc' := 976) (j := 8 * k + 2) dL_law_975 (show nI (8 * k) + nI 2 = _ from nI_add _ _) (by omega) (by omega) rfl ?_
  refine wp_load (pc' := 977) (j := 3) dL_law_976 rfl rfl rfl ?_
  refine wp_s4 100 5000 dL_law_977 ml_L_146 (Nat.le_of_ble_eq_true rfl) (by omega) (by omega) ?_
  refine w_countsAs hOW hT (by omega) (fun G1 hT1 => ?_)
  refine kt_v ?_
  refine wp_store (pc' := 982) (j := 5) (ls' := [_, _, _, _, _, _, _]) dL_law_980 rfl (Nat.le_of_ble_eq_true rfl) rfl rfl ?_
  refine wp_load (pc' := 983) (j := 2) dL_law_982 rfl rfl rfl ?_
  refine wp_load (pc' := 984) (j := 0) dL_law_983 rfl rfl rfl ?_
  refine wp_load (pc' := 986) (j := 4) dL_law_984 rfl rfl rfl ?_
  refine wp_iconst (pc' := 987) (1) dL_law_986 rfl rfl ?_
  refine wp_pure (pc' := 988) dL_law_987 rfl rfl ?_
  refine wp_sld (pc' := 989) (j := 8 * k + 1) dL_law_988 (show nI (8 * k) + nI 1 = _ from nI_add _ _) (by omega) (by omega) rfl ?_
  refine wp_load (pc' := 990) (j := 0) dL_law_989 rfl rfl rfl ?_
  refine wp_load (pc' := 992) (j := 4) dL_law_990 rfl rfl rfl ?_
  refine wp_iconst (pc' := 993) (2) dL_law_992 rfl rfl ?_
  refine wp_pure (pc' := 994) dL_law_993 rfl rfl ?_
  refine wp_sld (pc' := 995) (j := 8 * k + 2) dL_law_994 (show nI (8 * k) + nI 2 = _ from nI_add _ _) (by omega) (by omega) rfl ?_
  refine wp_v2 0 0 dL_law_995 ml_L_148 hT1.1.1 (Nat.le_of_ble_eq_true rfl) (by omega) (by omega) ?_
  refine pm_countsAs hOW hN hI hT1 (fun v G2 hT2 hv => ?_)
  refine kt_v ?_
  refine wp_store (pc' := 1000) (j := 6) (ls' := [_, _, _, _, _, _, _]) dL_law_998 rfl (Nat.le_of_ble_eq_true rfl) rfl rfl ?_
  refine wp_load (pc' := 1001) (j := 2) dL_law_1000 rfl rfl rfl ?_
  refine wp_v0 0 0 dL_law_1001 ml_L_108 hT2.1.1 (Nat.le_of_ble_eq_true rfl) (by omega) (by omega) ?_
  refine p_thrown (d := 11) hT2.1 ?_
  refine kt_v ?_
  refine wp_load (pc' := 1006) (j := 5) dL_law_1004 rfl rfl rfl ?_
  refine wp_icmpT 1011 dL_law_1006 rfl th_countsAs ?_
  refine wp_load (pc' := 1013) (j := 5) dL_law_1011 rfl rfl rfl ?_
  generalize hK : K_countsAs σ (E.2.2.2.2 (8 * k + 1)) (E.2.2.2.2 (8 * k + 2)) = K at hv ⊢
  rcases Decidable.em (K = 0) with h0 | h0
  · skip
    refine wp_ifF (pc' := 1016) 1028 dL_law_1013 rfl rfl (fun z => z h0) ?_
    obtain ⟨f, ho, hq⟩ := id hT2.2.1
    replace hv := hv h0
    replace hq := hq (hK.trans h0)
    rw [← hv] at hq
    refine wp_load (pc' := 1017) (j := 3) dL_law_1016 rfl rfl rfl ?_
    refine wp_iconst (pc' := 1018) (0) dL_law_1017 rfl rfl ?_
    refine wp_lald (pc' := 1019) dL_law_1018 ho (show (0 : Int32) = nI 0 from rfl) (by decide) (by decide) rfl ?_
    refine wp_load (pc' := 1021) (j := 6) dL_law_1019 rfl rfl rfl ?_
    refine wp_pure (pc' := 1022) dL_law_1021 rfl rfl ?_
    refine wp_pure (pc' := 1023) dL_law_1022 rfl rfl ?_
    refine wp_ifeqL (pc' := 1026) 1028 dL_law_1023 rfl rfl (fun _ => ?_) (fun z => absurd hq z)
    refine wp_goto 1842 dL_law_1028 rfl ?_
    exact hP _ _ _ _ _ hT2
  · skip
    refine wp_ifT 1028 dL_law_1013 rfl (fun z => h0 z) ?_
    refine wp_goto 1842 dL_law_1028 rfl ?_
    exact hP _ _ _ _ _ hT2

set_option maxRecDepth 20000 in
set_option maxHeartbeats 4000000 in
theorem t_park {E : XE} {mc ms : Nat} {P : Ps} {own aM : Nat → Nat} {m o x k kc nc : Nat} {σ : MS} {Q : (Nat → Int64) → Prop} {G : HP} {z5 z6 : Option Value} (hOW : OW m o aM own) (hT : TM E own aM m o x σ σ k Q G) (hk : 8 * k + 8 ≤ E.2.2.2.1) (hL : E.2.2.2.1 ≤ 4096) (hmc : kc + 100 ≤ mc) (hms : nc + 5000 ≤ ms) (hP : ∀ G' σ' Q' z5 z6, TM E own aM m o x σ' σ' (k + 1) Q' G' → WX E 12 (yL_law, cL_law, some .boolean, []) mc ms P 1842 [some (.ref E.2.2.1), some (.ref x), some (.ref m), some (.ref o), some (.int (nI (8 * k))), z5, z6] [] G' (kc + 100) (nc + 5000)) : WX E 12 (yL_law, cL_law, some .boolean, []) mc ms P 1031 [some (.ref E.2.2.1), some (.ref x), some (.ref m), some (.ref o), some (.int (nI (8 * k))), z5, z6] [] G kc nc := by
  obtain ⟨-, -, A, F, N, hH, hV, -⟩ := id hT
  have hN := hH.2.1
  have hI := hV.1
  clear hH
  refine wp_load (pc' := 1032) (j := 1) dL_law_1031 rfl rfl rfl ?_
  refine wp_load (pc' := 1033) (j := 0) dL_law_1032 rfl rfl rfl ?_
  refine wp_load (pc' := 1035) (j := 4) dL_law_1033 rfl rfl rfl ?_
  refine wp_iconst (pc' := 1036) (1) dL_law_1035 rfl rfl ?_
  refine wp_pure (pc' := 1037) dL_law_1036 rfl rfl ?_
  refine wp_sld (pc' := 1038) (j := 8 * k + 1) dL_law_1037 (show nI (8 * k) + nI 1 = _ from nI_add _ _) (by omega) (by omega) rfl ?_
  refine wp_load (pc' := 1039) (j := 0) dL_law_1038 rfl rfl rfl ?_
  refine wp_load (pc' := 1041) (j := 4) dL_law_1039 rfl rfl rfl ?_
  refine wp_iconst (pc' := 1042) (2) dL_law_1041 rfl rfl ?_
  refine wp_pure (pc' := 1043) dL_law_1042 rfl rfl ?_
  refine wp_sld (pc' := 1044) (j := 8 * k + 2) dL_law_1043 (show nI (8 * k) + nI 2 = _ from nI_add _ _) (by omega) (by omega) rfl ?_
  refine wp_load (pc' := 1045) (j := 0) dL_law_1044 rfl rfl rfl ?_
  refine wp_load (pc' := 1047) (j := 4) dL_law_1045 rfl rfl rfl ?_
  refine wp_iconst (pc' := 1048) (3) dL_law_1047 rfl rfl ?_
  refine wp_pure (pc' := 1049) dL_law_1048 rfl rfl ?_
  refine wp_sld (pc' := 1050) (j := 8 * k + 3) dL_law_1049 (show nI (8 * k) + nI 3 = _ from nI_add _ _) (by omega) (by omega) rfl ?_
  refine wp_s4 100 5000 dL_law_1050 ml_L_149 (Nat.le_of_ble_eq_true rfl) (by omega) (by omega) ?_
  refine w_park hOW hT (by omega) (fun G1 hT1 => ?_)
  refine kt_v ?_
  refine wp_store (pc' := 1055) (j := 5) (ls' := [_, _, _, _, _, _, _]) dL_law_1053 rfl (Nat.le_of_ble_eq_true rfl) rfl rfl ?_
  refine wp_load (pc' := 1056) (j := 2) dL_law_1055 rfl rfl rfl ?_
  refine wp_load (pc' := 1057) (j := 0) dL_law_1056 rfl rfl rfl ?_
  refine wp_load (pc' := 1059) (j := 4) dL_law_1057 rfl rfl rfl ?_
  refine wp_iconst (pc' := 1060) (1) dL_law_1059 rfl rfl ?_
  refine wp_pure (pc' := 1061) dL_law_1060 rfl rfl ?_
  refine wp_sld (pc' := 1062) (j := 8 * k + 1) dL_law_1061 (show nI (8 * k) + nI 1 = _ from nI_add _ _) (by omega) (by omega) rfl ?_
  refine wp_load (pc' := 1063) (j := 0) dL_law_1062 rfl rfl rfl ?_
  refine wp_load (pc' := 1065) (j := 4) dL_law_1063 rfl rfl rfl ?_
  refine wp_iconst (pc' := 1066) (2) dL_law_1065 rfl rfl ?_
  refine wp_pure (pc' := 1067) dL_law_1066 rfl rfl ?_
  refine wp_sld (pc' := 1068) (j := 8 * k + 2) dL_law_1067 (show nI (8 * k) + nI 2 = _ from nI_add _ _) (by omega) (by omega) rfl ?_
  refine wp_load (pc' := 1069) (j := 0) dL_law_1068 rfl rfl rfl ?_
  refine wp_load (pc' := 1071) (j := 4) dL_law_1069 rfl rfl rfl ?_
  refine wp_iconst (pc' := 1072) (3) dL_law_1071 rfl rfl ?_
  refine wp_pure (pc' := 1073) dL_law_1072 rfl rfl ?_
  refine wp_sld (pc' := 1074) (j := 8 * k + 3) dL_law_1073 (show nI (8 * k) + nI 3 = _ from nI_add _ _) (by omega) (by omega) rfl ?_
  refine wp_v3 0 0 dL_law_1074 ml_L_151 hT1.1.1 (Nat.le_of_ble_eq_true rfl) (by omega) (by omega) ?_
  refine pm_park hOW hN hI hT1 (fun G2 hT2 => ?_)
  refine kt_u ?_
  refine wp_load (pc' := 1078) (j := 2) dL_law_1077 rfl rfl rfl ?_
  refine wp_v0 0 0 dL_law_1078 ml_L_108 hT2.1.1 (Nat.le_of_ble_eq_true rfl) (by omega) (by omega) ?_
  refine p_thrown (d := 11) hT2.1 ?_
  refine kt_v ?_
  refine wp_load (pc' := 1083) (j := 5) dL_law_1081 rfl rfl rfl ?_
  refine wp_icmpT 1088 dL_law_1083 rfl th_park ?_
  refine wp_goto 1842 dL_law_1088 rfl ?_
  exact hP _ _ _ _ _ hT2

set_option maxRecDepth 20000 in
set_option maxHeartbeats 4000000 in
theorem t_leave {E : XE} {mc ms : Nat} {P : Ps} {own aM : Nat → Nat} {m o x k kc nc : Nat} {σ : MS} {Q : (Nat → Int64) → Prop} {G : HP} {z5 z6 : Option Value} (hOW : OW m o aM own) (hT : TM E own aM m o x σ σ k Q G) (hk : 8 * k + 8 ≤ E.2.2.2.1) (hL : E.2.2.2.1 ≤ 4096) (hmc : kc + 100 ≤ mc) (hms : nc + 5000 ≤ ms) (hP : ∀ G' σ' Q' z5 z6, TM E own aM m o x σ' σ' (k + 1) Q' G' → WX E 12 (yL_law, cL_law, some .boolean, []) mc ms P 1842 [some (.ref E.2.2.1), some (.ref x), some (.ref m), some (.ref o), some (.int (nI (8 * k))), z5, z6] [] G' (kc + 100) (nc + 5000)) : WX E 12 (yL_law, cL_law, some .boolean, []) mc ms P 1091 [some (.ref E.2.2.1), some (.ref x), some (.ref m), some (.ref o), some (.int (nI (8 * k))), z5, z6] [] G kc nc := by
  obtain ⟨-, -, A, F, N, hH, hV, -⟩ := id hT
  have hN := hH.2.1
  have hI := hV.1
  clear hH
  refine wp_load (pc' := 1092) (j := 1) dL_law_1091 rfl rfl rfl ?_
  refine wp_load (pc' := 1093) (j := 0) dL_law_1092 rfl rfl rfl ?_
  refine wp_load (pc' := 1095) (j := 4) dL_law_1093 rfl rfl rfl ?_
  refine wp_iconst (pc' := 1096) (1) dL_law_1095 rfl rfl ?_
  refine wp_pure (pc' := 1097) dL_law_1096 rfl rfl ?_
  refine wp_sld (pc' := 1098) (j := 8 * k + 1) dL_law_1097 (show nI (8 * k) + nI 1 = _ from nI_add _ _) (by omega) (by omega) rfl ?_
  refine wp_load (pc' := 1099) (j := 3) dL_law_1098 rfl rfl rfl ?_
  refine wp_s3 100 5000 dL_law_1099 ml_L_152 (Nat.le_of_ble_eq_true rfl) (by omega) (by omega) ?_
  refine w_leave hOW hT (by omega) (fun G1 hT1 => ?_)
  refine kt_v ?_
  refine wp_store (pc' := 1104) (j := 5) (ls' := [_, _, _, _, _, _, _]) dL_law_1102 rfl (Nat.le_of_ble_eq_true rfl) rfl rfl ?_
  refine wp_load (pc' := 1105) (j := 2) dL_law_1104 rfl rfl rfl ?_
  refine wp_load (pc' := 1106) (j := 0) dL_law_1105 rfl rfl rfl ?_
  refine wp_load (pc' := 1108) (j := 4) dL_law_1106 rfl rfl rfl ?_
  refine wp_iconst (pc' := 1109) (1) dL_law_1108 rfl rfl ?_
  refine wp_pure (pc' := 1110) dL_law_1109 rfl rfl ?_
  refine wp_sld (pc' := 1111) (j := 8 * k + 1) dL_law_1110 (show nI (8 * k) + nI 1 = _ from nI_add _ _) (by omega) (by omega) rfl ?_
  refine wp_v1 0 0 dL_law_1111 ml_L_155 hT1.1.1 (Nat.le_of_ble_eq_true rfl) (by omega) (by omega) ?_
  refine pm_leave hOW hN hI hT1 (fun v G2 hT2 hv => ?_)
  refine kt_v ?_
  refine wp_store (pc' := 1116) (j := 6) (ls' := [_, _, _, _, _, _, _]) dL_law_1114 rfl (Nat.le_of_ble_eq_true rfl) rfl rfl ?_
  refine wp_load (pc' := 1117) (j := 2) dL_law_1116 rfl rfl rfl ?_
  refine wp_v0 0 0 dL_law_1117 ml_L_108 hT2.1.1 (Nat.le_of_ble_eq_true rfl) (by omega) (by omega) ?_
  refine p_thrown (d := 11) hT2.1 ?_
  refine kt_v ?_
  refine wp_load (pc' := 1122) (j := 5) dL_law_1120 rfl rfl rfl ?_
  refine wp_icmpT 1127 dL_law_1122 rfl th_leave ?_
  refine wp_load (pc' := 1129) (j := 5) dL_law_1127 rfl rfl rfl ?_
  generalize hK : K_leave σ (E.2.2.2.2 (8 * k + 1)) = K at hv ⊢
  rcases Decidable.em (K = 0) with h0 | h0
  · skip
    refine wp_ifF (pc' := 1132) 1144 dL_law_1129 rfl rfl (fun z => z h0) ?_
    obtain ⟨f, ho, hq⟩ := id hT2.2.1
    replace hv := hv h0
    replace hq := hq (hK.trans h0)
    rw [← hv] at hq
    refine wp_load (pc' := 1133) (j := 3) dL_law_1132 rfl rfl rfl ?_
    refine wp_iconst (pc' := 1134) (0) dL_law_1133 rfl rfl ?_
    refine wp_lald (pc' := 1135) dL_law_1134 ho (show (0 : Int32) = nI 0 from rfl) (by decide) (by decide) rfl ?_
    refine wp_load (pc' := 1137) (j := 6) dL_law_1135 rfl rfl rfl ?_
    refine wp_pure (pc' := 1138) dL_law_1137 rfl rfl ?_
    refine wp_pure (pc' := 1139) dL_law_1138 rfl rfl ?_
    refine wp_ifeqL (pc' := 1142) 1144 dL_law_1139 rfl rfl (fun _ => ?_) (fun z => absurd hq z)
    refine wp_goto 1842 dL_law_1144 rfl ?_
    exact hP _ _ _ _ _ hT2
  · skip
    refine wp_ifT 1144 dL_law_1129 rfl (fun z => h0 z) ?_
    refine wp_goto 1842 dL_law_1144 rfl ?_
    exact hP _ _ _ _ _ hT2

set_option maxRecDepth 20000 in
set_option maxHeartbeats 4000000 in
theorem t_gap {E : XE} {mc ms : Nat} {P : Ps} {own aM : Nat → Nat} {m o x k kc nc : Nat} {σ : MS} {Q : (Nat → Int64) → Prop} {G : HP} {z5 z6 : Option Value} (hOW : OW m o aM own) (hT : TM E own aM m o x σ σ k Q G) (hk : 8 * k + 8 ≤ E.2.2.2.1) (hL : E.2.2.2.1 ≤ 4096) (hmc : kc + 100 ≤ mc) (hms : nc + 5000 ≤ ms) (hP : ∀ G' σ' Q' z5 z6, TM E own aM m o x σ' σ' (k + 1) Q' G' → WX E 12 (yL_law, cL_law, some .boolean, []) mc ms P 1842 [some (.ref E.2.2.1), some (.ref x), some (.ref m), some (.ref o), some (.int (nI (8 * k))), z5, z6] [] G' (kc + 100) (nc + 5000)) : WX E 12 (yL_law, cL_law, some .boolean, []) mc ms P 1147 [some (.ref E.2.2.1), some (.ref x), some (.ref m), some (.ref o), some (.int (nI (8 * k))), z5, z6] [] G kc nc := by
  obtain ⟨-, -, A, F, N, hH, hV, -⟩ := id hT
  have hN := hH.2.1
  have hI := hV.1
  clear hH
  refine wp_load (pc' := 1148) (j := 1) dL_law_1147 rfl rfl rfl ?_
  refine wp_load (pc' := 1149) (j := 0) dL_law_1148 rfl rfl rfl ?_
  refine wp_load (pc' := 1151) (j := 4) dL_law_1149 rfl rfl rfl ?_
  refine wp_iconst (pc' := 1152) (1) dL_law_1151 rfl rfl ?_
  refine wp_pure (pc' := 1153) dL_law_1152 rfl rfl ?_
  refine wp_sld (pc' := 1154) (j := 8 * k + 1) dL_law_1153 (show nI (8 * k) + nI 1 = _ from nI_add _ _) (by omega) (by omega) rfl ?_
  refine wp_load (pc' := 1155) (j := 0) dL_law_1154 rfl rfl rfl ?_
  refine wp_load (pc' := 1157) (j := 4) dL_law_1155 rfl rfl rfl ?_
  refine wp_iconst (pc' := 1158) (2) dL_law_1157 rfl rfl ?_
  refine wp_pure (pc' := 1159) dL_law_1158 rfl rfl ?_
  refine wp_sld (pc' := 1160) (j := 8 * k + 2) dL_law_1159 (show nI (8 * k) + nI 2 = _ from nI_add _ _) (by omega) (by omega) rfl ?_
  refine wp_load (pc' := 1161) (j := 3) dL_law_1160 rfl rfl rfl ?_
  refine wp_s4 100 5000 dL_law_1161 ml_L_156 (Nat.le_of_ble_eq_true rfl) (by omega) (by omega) ?_
  refine w_gap hOW hT (by omega) (fun G1 hT1 => ?_)
  refine kt_v ?_
  refine wp_store (pc' := 1166) (j := 5) (ls' := [_, _, _, _, _, _, _]) dL_law_1164 rfl (Nat.le_of_ble_eq_true rfl) rfl rfl ?_
  refine wp_load (pc' := 1167) (j := 2) dL_law_1166 rfl rfl rfl ?_
  refine wp_load (pc' := 1168) (j := 0) dL_law_1167 rfl rfl rfl ?_
  refine wp_load (pc' := 1170) (j := 4) dL_law_1168 rfl rfl rfl ?_
  refine wp_iconst (pc' := 1171) (1) dL_law_1170 rfl rfl ?_
  refine wp_pure (pc' := 1172) dL_law_1171 rfl rfl ?_
  refine wp_sld (pc' := 1173) (j := 8 * k + 1) dL_law_1172 (show nI (8 * k) + nI 1 = _ from nI_add _ _) (by omega) (by omega) rfl ?_
  refine wp_load (pc' := 1174) (j := 0) dL_law_1173 rfl rfl rfl ?_
  refine wp_load (pc' := 1176) (j := 4) dL_law_1174 rfl rfl rfl ?_
  refine wp_iconst (pc' := 1177) (2) dL_law_1176 rfl rfl ?_
  refine wp_pure (pc' := 1178) dL_law_1177 rfl rfl ?_
  refine wp_sld (pc' := 1179) (j := 8 * k + 2) dL_law_1178 (show nI (8 * k) + nI 2 = _ from nI_add _ _) (by omega) (by omega) rfl ?_
  refine wp_v2 0 0 dL_law_1179 ml_L_158 hT1.1.1 (Nat.le_of_ble_eq_true rfl) (by omega) (by omega) ?_
  refine pm_gap hOW hN hI hT1 (fun v G2 hT2 hv => ?_)
  refine kt_v ?_
  refine wp_store (pc' := 1184) (j := 6) (ls' := [_, _, _, _, _, _, _]) dL_law_1182 rfl (Nat.le_of_ble_eq_true rfl) rfl rfl ?_
  refine wp_load (pc' := 1185) (j := 2) dL_law_1184 rfl rfl rfl ?_
  refine wp_v0 0 0 dL_law_1185 ml_L_108 hT2.1.1 (Nat.le_of_ble_eq_true rfl) (by omega) (by omega) ?_
  refine p_thrown (d := 11) hT2.1 ?_
  refine kt_v ?_
  refine wp_load (pc' := 1190) (j := 5) dL_law_1188 rfl rfl rfl ?_
  refine wp_icmpT 1195 dL_law_1190 rfl th_gap ?_
  refine wp_load (pc' := 1197) (j := 5) dL_law_1195 rfl rfl rfl ?_
  generalize hK : K_gap (E.2.2.2.2 (8 * k + 1)) (E.2.2.2.2 (8 * k + 2)) = K at hv ⊢
  rcases Decidable.em (K = 0) with h0 | h0
  · skip
    refine wp_ifF (pc' := 1200) 1212 dL_law_1197 rfl rfl (fun z => z h0) ?_
    obtain ⟨f, ho, hq⟩ := id hT2.2.1
    replace hv := hv h0
    replace hq := hq (hK.trans h0)
    rw [← hv] at hq
    refine wp_load (pc' := 1201) (j := 3) dL_law_1200 rfl rfl rfl ?_
    refine wp_iconst (pc' := 1202) (0) dL_law_1201 rfl rfl ?_
    refine wp_lald (pc' := 1203) dL_law_1202 ho (show (0 : Int32) = nI 0 from rfl) (by decide) (by decide) rfl ?_
    refine wp_load (pc' := 1205) (j := 6) dL_law_1203 rfl rfl rfl ?_
    refine wp_pure (pc' := 1206) dL_law_1205 rfl rfl ?_
    refine wp_pure (pc' := 1207) dL_law_1206 rfl rfl ?_
    refine wp_ifeqL (pc' := 1210) 1212 dL_law_1207 rfl rfl (fun _ => ?_) (fun z => absurd hq z)
    refine wp_goto 1842 dL_law_1212 rfl ?_
    exact hP _ _ _ _ _ hT2
  · skip
    refine wp_ifT 1212 dL_law_1197 rfl (fun z => h0 z) ?_
    refine wp_goto 1842 dL_law_1212 rfl ?_
    exact hP _ _ _ _ _ hT2

set_option maxRecDepth 20000 in
set_option maxHeartbeats 4000000 in
theorem t_pay {E : XE} {mc ms : Nat} {P : Ps} {own aM : Nat → Nat} {m o x k kc nc : Nat} {σ : MS} {Q : (Nat → Int64) → Prop} {G : HP} {z5 z6 : Option Value} (hOW : OW m o aM own) (hT : TM E own aM m o x σ σ k Q G) (hk : 8 * k + 8 ≤ E.2.2.2.1) (hL : E.2.2.2.1 ≤ 4096) (hmc : kc + 100 ≤ mc) (hms : nc + 5000 ≤ ms) (hP : ∀ G' σ' Q' z5 z6, TM E own aM m o x σ' σ' (k + 1) Q' G' → WX E 12 (yL_law, cL_law, some .boolean, []) mc ms P 1842 [some (.ref E.2.2.1), some (.ref x), some (.ref m), some (.ref o), some (.int (nI (8 * k))), z5, z6] [] G' (kc + 100) (nc + 5000)) : WX E 12 (yL_law, cL_law, some .boolean, []) mc ms P 1215 [some (.ref E.2.2.1), some (.ref x), some (.ref m), some (.ref o), some (.int (nI (8 * k))), z5, z6] [] G kc nc := by
  obtain ⟨-, -, A, F, N, hH, hV, -⟩ := id hT
  have hN := hH.2.1
  have hI := hV.1
  clear hH
  refine wp_load (pc' := 1216) (j := 1) dL_law_1215 rfl rfl rfl ?_
  refine wp_load (pc' := 1217) (j := 0) dL_law_1216 rfl rfl rfl ?_
  refine wp_load (pc' := 1219) (j := 4) dL_law_1217 rfl rfl rfl ?_
  refine wp_iconst (pc' := 1220) (1) dL_law_1219 rfl rfl ?_
  refine wp_pure (pc' := 1221) dL_law_1220 rfl rfl ?_
  refine wp_sld (pc' := 1222) (j := 8 * k + 1) dL_law_1221 (show nI (8 * k) + nI 1 = _ from nI_add _ _) (by omega) (by omega) rfl ?_
  refine wp_load (pc' := 1223) (j := 0) dL_law_1222 rfl rfl rfl ?_
  refine wp_load (pc' := 1225) (j := 4) dL_law_1223 rfl rfl rfl ?_
  refine wp_iconst (pc' := 1226) (2) dL_law_1225 rfl rfl ?_
  refine wp_pure (pc' := 1227) dL_law_1226 rfl rfl ?_
  refine wp_sld (pc' := 1228) (j := 8 * k + 2) dL_law_1227 (show nI (8 * k) + nI 2 = _ from nI_add _ _) (by omega) (by omega) rfl ?_
  refine wp_load (pc' := 1229) (j := 0) dL_law_1228 rfl rfl rfl ?_
  refine wp_load (pc' := 1231) (j := 4) dL_law_1229 rfl rfl rfl ?_
  refine wp_iconst (pc' := 1232) (3) dL_law_1231 rfl rfl ?_
  refine wp_pure (pc' := 1233) dL_law_1232 rfl rfl ?_
  refine wp_sld (pc' := 1234) (j := 8 * k + 3) dL_law_1233 (show nI (8 * k) + nI 3 = _ from nI_add _ _) (by omega) (by omega) rfl ?_
  refine wp_load (pc' := 1235) (j := 0) dL_law_1234 rfl rfl rfl ?_
  refine wp_load (pc' := 1237) (j := 4) dL_law_1235 rfl rfl rfl ?_
  refine wp_iconst (pc' := 1238) (4) dL_law_1237 rfl rfl ?_
  refine wp_pure (pc' := 1239) dL_law_1238 rfl rfl ?_
  refine wp_sld (pc' := 1240) (j := 8 * k + 4) dL_law_1239 (show nI (8 * k) + nI 4 = _ from nI_add _ _) (by omega) (by omega) rfl ?_
  refine wp_load (pc' := 1241) (j := 3) dL_law_1240 rfl rfl rfl ?_
  refine wp_s6 100 5000 dL_law_1241 ml_L_159 (Nat.le_of_ble_eq_true rfl) (by omega) (by omega) ?_
  refine w_pay hOW hT (by omega) (fun G1 hT1 => ?_)
  refine kt_v ?_
  refine wp_store (pc' := 1246) (j := 5) (ls' := [_, _, _, _, _, _, _]) dL_law_1244 rfl (Nat.le_of_ble_eq_true rfl) rfl rfl ?_
  refine wp_load (pc' := 1247) (j := 2) dL_law_1246 rfl rfl rfl ?_
  refine wp_load (pc' := 1248) (j := 0) dL_law_1247 rfl rfl rfl ?_
  refine wp_load (pc' := 1250) (j := 4) dL_law_1248 rfl rfl rfl ?_
  refine wp_iconst (pc' := 1251) (1) dL_law_1250 rfl rfl ?_
  refine wp_pure (pc' := 1252) dL_law_1251 rfl rfl ?_
  refine wp_sld (pc' := 1253) (j := 8 * k + 1) dL_law_1252 (show nI (8 * k) + nI 1 = _ from nI_add _ _) (by omega) (by omega) rfl ?_
  refine wp_load (pc' := 1254) (j := 0) dL_law_1253 rfl rfl rfl ?_
  refine wp_load (pc' := 1256) (j := 4) dL_law_1254 rfl rfl rfl ?_
  refine wp_iconst (pc' := 1257) (2) dL_law_1256 rfl rfl ?_
  refine wp_pure (pc' := 1258) dL_law_1257 rfl rfl ?_
  refine wp_sld (pc' := 1259) (j := 8 * k + 2) dL_law_1258 (show nI (8 * k) + nI 2 = _ from nI_add _ _) (by omega) (by omega) rfl ?_
  refine wp_load (pc' := 1260) (j := 0) dL_law_1259 rfl rfl rfl ?_
  refine wp_load (pc' := 1262) (j := 4) dL_law_1260 rfl rfl rfl ?_
  refine wp_iconst (pc' := 1263) (3) dL_law_1262 rfl rfl ?_
  refine wp_pure (pc' := 1264) dL_law_1263 rfl rfl ?_
  refine wp_sld (pc' := 1265) (j := 8 * k + 3) dL_law_1264 (show nI (8 * k) + nI 3 = _ from nI_add _ _) (by omega) (by omega) rfl ?_
  refine wp_load (pc' := 1266) (j := 0) dL_law_1265 rfl rfl rfl ?_
  refine wp_load (pc' := 1268) (j := 4) dL_law_1266 rfl rfl rfl ?_
  refine wp_iconst (pc' := 1269) (4) dL_law_1268 rfl rfl ?_
  refine wp_pure (pc' := 1270) dL_law_1269 rfl rfl ?_
  refine wp_sld (pc' := 1271) (j := 8 * k + 4) dL_law_1270 (show nI (8 * k) + nI 4 = _ from nI_add _ _) (by omega) (by omega) rfl ?_
  refine wp_v4 0 0 dL_law_1271 ml_L_162 hT1.1.1 (Nat.le_of_ble_eq_true rfl) (by omega) (by omega) ?_
  refine pm_pay hOW hN hI hT1 (fun v G2 hT2 hv => ?_)
  refine kt_v ?_
  refine wp_store (pc' := 1276) (j := 6) (ls' := [_, _, _, _, _, _, _]) dL_law_1274 rfl (Nat.le_of_ble_eq_true rfl) rfl rfl ?_
  refine wp_load (pc' := 1277) (j := 2) dL_law_1276 rfl rfl rfl ?_
  refine wp_v0 0 0 dL_law_1277 ml_L_108 hT2.1.1 (Nat.le_of_ble_eq_true rfl) (by omega) (by omega) ?_
  refine p_thrown (d := 11) hT2.1 ?_
  refine kt_v ?_
  refine wp_load (pc' := 1282) (j := 5) dL_law_1280 rfl rfl rfl ?_
  refine wp_icmpT 1287 dL_law_1282 rfl th_pay ?_
  refine wp_load (pc' := 1289) (j := 5) dL_law_1287 rfl rfl rfl ?_
  generalize hK : K_pay σ (E.2.2.2.2 (8 * k + 1)) (E.2.2.2.2 (8 * k + 2)) (E.2.2.2.2 (8 * k + 3)) (E.2.2.2.2 (8 * k + 4)) = K at hv ⊢
  rcases Decidable.em (K = 0) with h0 | h0
  · skip
    refine wp_ifF (pc' := 1292) 1304 dL_law_1289 rfl rfl (fun z => z h0) ?_
    obtain ⟨f, ho, hq⟩ := id hT2.2.1
    replace hv := hv h0
    replace hq := hq (hK.trans h0)
    rw [← hv] at hq
    refine wp_load (pc' := 1293) (j := 3) dL_law_1292 rfl rfl rfl ?_
    refine wp_iconst (pc' := 1294) (0) dL_law_1293 rfl rfl ?_
    refine wp_lald (pc' := 1295) dL_law_1294 ho (show (0 : Int32) = nI 0 from rfl) (by decide) (by decide) rfl ?_
    refine wp_load (pc' := 1297) (j := 6) dL_law_1295 rfl rfl rfl ?_
    refine wp_pure (pc' := 1298) dL_law_1297 rfl rfl ?_
    refine wp_pure (pc' := 1299) dL_law_1298 rfl rfl ?_
    refine wp_ifeqL (pc' := 1302) 1304 dL_law_1299 rfl rfl (fun _ => ?_) (fun z => absurd hq z)
    refine wp_goto 1842 dL_law_1304 rfl ?_
    exact hP _ _ _ _ _ hT2
  · skip
    refine wp_ifT 1304 dL_law_1289 rfl (fun z => h0 z) ?_
    refine wp_goto 1842 dL_law_1304 rfl ?_
    exact hP _ _ _ _ _ hT2

set_option maxRecDepth 20000 in
set_option maxHeartbeats 4000000 in
theorem t_judge {E : XE} {mc ms : Nat} {P : Ps} {own aM : Nat → Nat} {m o x k kc nc : Nat} {σ : MS} {Q : (Nat → Int64) → Prop} {G : HP} {z5 z6 : Option Value} (hOW : OW m o aM own) (hT : TM E own aM m o x σ σ k Q G) (hk : 8 * k + 8 ≤ E.2.2.2.1) (hL : E.2.2.2.1 ≤ 4096) (hmc : kc + 100 ≤ mc) (hms : nc + 5000 ≤ ms) (hP : ∀ G' σ' Q' z5 z6, TM E own aM m o x σ' σ' (k + 1) Q' G' → WX E 12 (yL_law, cL_law, some .boolean, []) mc ms P 1842 [some (.ref E.2.2.1), some (.ref x), some (.ref m), some (.ref o), some (.int (nI (8 * k))), z5, z6] [] G' (kc + 100) (nc + 5000)) : WX E 12 (yL_law, cL_law, some .boolean, []) mc ms P 1307 [some (.ref E.2.2.1), some (.ref x), some (.ref m), some (.ref o), some (.int (nI (8 * k))), z5, z6] [] G kc nc := by
  obtain ⟨-, -, A, F, N, hH, hV, -⟩ := id hT
  have hN := hH.2.1
  have hI := hV.1
  clear hH
  refine wp_load (pc' := 1308) (j := 1) dL_law_1307 rfl rfl rfl ?_
  refine wp_load (pc' := 1309) (j := 0) dL_law_1308 rfl rfl rfl ?_
  refine wp_load (pc' := 1311) (j := 4) dL_law_1309 rfl rfl rfl ?_
  refine wp_iconst (pc' := 1312) (1) dL_law_1311 rfl rfl ?_
  refine wp_pure (pc' := 1313) dL_law_1312 rfl rfl ?_
  refine wp_sld (pc' := 1314) (j := 8 * k + 1) dL_law_1313 (show nI (8 * k) + nI 1 = _ from nI_add _ _) (by omega) (by omega) rfl ?_
  refine wp_load (pc' := 1315) (j := 3) dL_law_1314 rfl rfl rfl ?_
  refine wp_s3 100 5000 dL_law_1315 ml_L_163 (Nat.le_of_ble_eq_true rfl) (by omega) (by omega) ?_
  refine w_judge hOW hT (by omega) (fun G1 hT1 => ?_)
  refine kt_v ?_
  refine wp_store (pc' := 1320) (j := 5) (ls' := [_, _, _, _, _, _, _]) dL_law_1318 rfl (Nat.le_of_ble_eq_true rfl) rfl rfl ?_
  refine wp_load (pc' := 1321) (j := 2) dL_law_1320 rfl rfl rfl ?_
  refine wp_load (pc' := 1322) (j := 0) dL_law_1321 rfl rfl rfl ?_
  refine wp_load (pc' := 1324) (j := 4) dL_law_1322 rfl rfl rfl ?_
  refine wp_iconst (pc' := 1325) (1) dL_law_1324 rfl rfl ?_
  refine wp_pure (pc' := 1326) dL_law_1325 rfl rfl ?_
  refine wp_sld (pc' := 1327) (j := 8 * k + 1) dL_law_1326 (show nI (8 * k) + nI 1 = _ from nI_add _ _) (by omega) (by omega) rfl ?_
  refine wp_v1 0 0 dL_law_1327 ml_L_165 hT1.1.1 (Nat.le_of_ble_eq_true rfl) (by omega) (by omega) ?_
  refine pm_judge hOW hN hI hT1 (fun v G2 hT2 hv => ?_)
  refine kt_v ?_
  refine wp_store (pc' := 1332) (j := 6) (ls' := [_, _, _, _, _, _, _]) dL_law_1330 rfl (Nat.le_of_ble_eq_true rfl) rfl rfl ?_
  refine wp_load (pc' := 1333) (j := 2) dL_law_1332 rfl rfl rfl ?_
  refine wp_v0 0 0 dL_law_1333 ml_L_108 hT2.1.1 (Nat.le_of_ble_eq_true rfl) (by omega) (by omega) ?_
  refine p_thrown (d := 11) hT2.1 ?_
  refine kt_v ?_
  refine wp_load (pc' := 1338) (j := 5) dL_law_1336 rfl rfl rfl ?_
  refine wp_icmpT 1343 dL_law_1338 rfl th_judge ?_
  refine wp_load (pc' := 1345) (j := 5) dL_law_1343 rfl rfl rfl ?_
  generalize hK : K_car1 σ (E.2.2.2.2 (8 * k + 1)) = K at hv ⊢
  rcases Decidable.em (K = 0) with h0 | h0
  · skip
    refine wp_ifF (pc' := 1348) 1360 dL_law_1345 rfl rfl (fun z => z h0) ?_
    obtain ⟨f, ho, hq⟩ := id hT2.2.1
    replace hv := hv h0
    replace hq := hq (hK.trans h0)
    rw [← hv] at hq
    refine wp_load (pc' := 1349) (j := 3) dL_law_1348 rfl rfl rfl ?_
    refine wp_iconst (pc' := 1350) (0) dL_law_1349 rfl rfl ?_
    refine wp_lald (pc' := 1351) dL_law_1350 ho (show (0 : Int32) = nI 0 from rfl) (by decide) (by decide) rfl ?_
    refine wp_load (pc' := 1353) (j := 6) dL_law_1351 rfl rfl rfl ?_
    refine wp_pure (pc' := 1354) dL_law_1353 rfl rfl ?_
    refine wp_pure (pc' := 1355) dL_law_1354 rfl rfl ?_
    refine wp_ifeqL (pc' := 1358) 1360 dL_law_1355 rfl rfl (fun _ => ?_) (fun z => absurd hq z)
    refine wp_goto 1842 dL_law_1360 rfl ?_
    exact hP _ _ _ _ _ hT2
  · skip
    refine wp_ifT 1360 dL_law_1345 rfl (fun z => h0 z) ?_
    refine wp_goto 1842 dL_law_1360 rfl ?_
    exact hP _ _ _ _ _ hT2

set_option maxRecDepth 20000 in
set_option maxHeartbeats 4000000 in
theorem t_look {E : XE} {mc ms : Nat} {P : Ps} {own aM : Nat → Nat} {m o x k kc nc : Nat} {σ : MS} {Q : (Nat → Int64) → Prop} {G : HP} {z5 z6 : Option Value} (hOW : OW m o aM own) (hT : TM E own aM m o x σ σ k Q G) (hk : 8 * k + 8 ≤ E.2.2.2.1) (hL : E.2.2.2.1 ≤ 4096) (hmc : kc + 100 ≤ mc) (hms : nc + 5000 ≤ ms) (hP : ∀ G' σ' Q' z5 z6, TM E own aM m o x σ' σ' (k + 1) Q' G' → WX E 12 (yL_law, cL_law, some .boolean, []) mc ms P 1842 [some (.ref E.2.2.1), some (.ref x), some (.ref m), some (.ref o), some (.int (nI (8 * k))), z5, z6] [] G' (kc + 100) (nc + 5000)) : WX E 12 (yL_law, cL_law, some .boolean, []) mc ms P 1363 [some (.ref E.2.2.1), some (.ref x), some (.ref m), some (.ref o), some (.int (nI (8 * k))), z5, z6] [] G kc nc := by
  obtain ⟨-, -, A, F, N, hH, hV, -⟩ := id hT
  have hN := hH.2.1
  have hI := hV.1
  clear hH
  refine wp_load (pc' := 1364) (j := 1) dL_law_1363 rfl rfl rfl ?_
  refine wp_load (pc' := 1365) (j := 0) dL_law_1364 rfl rfl rfl ?_
  refine wp_load (pc' := 1367) (j := 4) dL_law_1365 rfl rfl rfl ?_
  refine wp_iconst (pc' := 1368) (1) dL_law_1367 rfl rfl ?_
  refine wp_pure (pc' := 1369) dL_law_1368 rfl rfl ?_
  refine wp_sld (pc' := 1370) (j := 8 * k + 1) dL_law_1369 (show nI (8 * k) + nI 1 = _ from nI_add _ _) (by omega) (by omega) rfl ?_
  refine wp_load (pc' := 1371) (j := 3) dL_law_1370 rfl rfl rfl ?_
  refine wp_s3 100 5000 dL_law_1371 ml_L_166 (Nat.le_of_ble_eq_true rfl) (by omega) (by omega) ?_
  refine w_look hOW hT (by omega) (fun G1 hT1 => ?_)
  refine kt_v ?_
  refine wp_store (pc' := 1376) (j := 5) (ls' := [_, _, _, _, _, _, _]) dL_law_1374 rfl (Nat.le_of_ble_eq_true rfl) rfl rfl ?_
  refine wp_load (pc' := 1377) (j := 2) dL_law_1376 rfl rfl rfl ?_
  refine wp_load (pc' := 1378) (j := 0) dL_law_1377 rfl rfl rfl ?_
  refine wp_load (pc' := 1380) (j := 4) dL_law_1378 rfl rfl rfl ?_
  refine wp_iconst (pc' := 1381) (1) dL_law_1380 rfl rfl ?_
  refine wp_pure (pc' := 1382) dL_law_1381 rfl rfl ?_
  refine wp_sld (pc' := 1383) (j := 8 * k + 1) dL_law_1382 (show nI (8 * k) + nI 1 = _ from nI_add _ _) (by omega) (by omega) rfl ?_
  refine wp_v1 0 0 dL_law_1383 ml_L_168 hT1.1.1 (Nat.le_of_ble_eq_true rfl) (by omega) (by omega) ?_
  refine pm_look hOW hN hI hT1 (fun v G2 hT2 hv => ?_)
  refine kt_v ?_
  refine wp_store (pc' := 1388) (j := 6) (ls' := [_, _, _, _, _, _, _]) dL_law_1386 rfl (Nat.le_of_ble_eq_true rfl) rfl rfl ?_
  refine wp_load (pc' := 1389) (j := 2) dL_law_1388 rfl rfl rfl ?_
  refine wp_v0 0 0 dL_law_1389 ml_L_108 hT2.1.1 (Nat.le_of_ble_eq_true rfl) (by omega) (by omega) ?_
  refine p_thrown (d := 11) hT2.1 ?_
  refine kt_v ?_
  refine wp_load (pc' := 1394) (j := 5) dL_law_1392 rfl rfl rfl ?_
  refine wp_icmpT 1399 dL_law_1394 rfl th_look ?_
  refine wp_load (pc' := 1401) (j := 5) dL_law_1399 rfl rfl rfl ?_
  generalize hK : K_look (E.2.2.2.2 (8 * k + 1)) = K at hv ⊢
  rcases Decidable.em (K = 0) with h0 | h0
  · skip
    refine wp_ifF (pc' := 1404) 1416 dL_law_1401 rfl rfl (fun z => z h0) ?_
    obtain ⟨f, ho, hq⟩ := id hT2.2.1
    replace hv := hv h0
    replace hq := hq (hK.trans h0)
    rw [← hv] at hq
    refine wp_load (pc' := 1405) (j := 3) dL_law_1404 rfl rfl rfl ?_
    refine wp_iconst (pc' := 1406) (0) dL_law_1405 rfl rfl ?_
    refine wp_lald (pc' := 1407) dL_law_1406 ho (show (0 : Int32) = nI 0 from rfl) (by decide) (by decide) rfl ?_
    refine wp_load (pc' := 1409) (j := 6) dL_law_1407 rfl rfl rfl ?_
    refine wp_pure (pc' := 1410) dL_law_1409 rfl rfl ?_
    refine wp_pure (pc' := 1411) dL_law_1410 rfl rfl ?_
    refine wp_ifeqL (pc' := 1414) 1416 dL_law_1411 rfl rfl (fun _ => ?_) (fun z => absurd hq z)
    refine wp_goto 1842 dL_law_1416 rfl ?_
    exact hP _ _ _ _ _ hT2
  · skip
    refine wp_ifT 1416 dL_law_1401 rfl (fun z => h0 z) ?_
    refine wp_goto 1842 dL_law_1416 rfl ?_
    exact hP _ _ _ _ _ hT2

set_option maxRecDepth 20000 in
set_option maxHeartbeats 4000000 in
theorem t_appeal {E : XE} {mc ms : Nat} {P : Ps} {own aM : Nat → Nat} {m o x k kc nc : Nat} {σ : MS} {Q : (Nat → Int64) → Prop} {G : HP} {z5 z6 : Option Value} (hOW : OW m o aM own) (hT : TM E own aM m o x σ σ k Q G) (hk : 8 * k + 8 ≤ E.2.2.2.1) (hL : E.2.2.2.1 ≤ 4096) (hmc : kc + 100 ≤ mc) (hms : nc + 5000 ≤ ms) (hP : ∀ G' σ' Q' z5 z6, TM E own aM m o x σ' σ' (k + 1) Q' G' → WX E 12 (yL_law, cL_law, some .boolean, []) mc ms P 1842 [some (.ref E.2.2.1), some (.ref x), some (.ref m), some (.ref o), some (.int (nI (8 * k))), z5, z6] [] G' (kc + 100) (nc + 5000)) : WX E 12 (yL_law, cL_law, some .boolean, []) mc ms P 1419 [some (.ref E.2.2.1), some (.ref x), some (.ref m), some (.ref o), some (.int (nI (8 * k))), z5, z6] [] G kc nc := by
  obtain ⟨-, -, A, F, N, hH, hV, -⟩ := id hT
  have hN := hH.2.1
  have hI := hV.1
  clear hH
  refine wp_load (pc' := 1420) (j := 1) dL_law_1419 rfl rfl rfl ?_
  refine wp_load (pc' := 1421) (j := 0) dL_law_1420 rfl rfl rfl ?_
  refine wp_load (pc' := 1423) (j := 4) dL_law_1421 rfl rfl rfl ?_
  refine wp_iconst (pc' := 1424) (1) dL_law_1423 rfl rfl ?_
  refine wp_pure (pc' := 1425) dL_law_1424 rfl rfl ?_
  refine wp_sld (pc' := 1426) (j := 8 * k + 1) dL_law_1425 (show nI (8 * k) + nI 1 = _ from nI_add _ _) (by omega) (by omega) rfl ?_
  refine wp_load (pc' := 1427) (j := 3) dL_law_1426 rfl rfl rfl ?_
  refine wp_s3 100 5000 dL_law_1427 ml_L_169 (Nat.le_of_ble_eq_true rfl) (by omega) (by omega) ?_
  refine w_appeal hOW hT (by omega) (fun G1 hT1 => ?_)
  refine kt_v ?_
  refine wp_store (pc' := 1432) (j := 5) (ls' := [_, _, _, _, _, _, _]) dL_law_1430 rfl (Nat.le_of_ble_eq_true rfl) rfl rfl ?_
  refine wp_load (pc' := 1433) (j := 2) dL_law_1432 rfl rfl rfl ?_
  refine wp_load (pc' := 1434) (j := 0) dL_law_1433 rfl rfl rfl ?_
  refine wp_load (pc' := 1436) (j := 4) dL_law_1434 rfl rfl rfl ?_
  refine wp_iconst (pc' := 1437) (1) dL_law_1436 rfl rfl ?_
  refine wp_pure (pc' := 1438) dL_law_1437 rfl rfl ?_
  refine wp_sld (pc' := 1439) (j := 8 * k + 1) dL_law_1438 (show nI (8 * k) + nI 1 = _ from nI_add _ _) (by omega) (by omega) rfl ?_
  refine wp_v1 0 0 dL_law_1439 ml_L_171 hT1.1.1 (Nat.le_of_ble_eq_true rfl) (by omega) (by omega) ?_
  refine pm_appeal hOW hN hI hT1 (fun v G2 hT2 hv => ?_)
  refine kt_v ?_
  refine wp_store (pc' := 1444) (j := 6) (ls' := [_, _, _, _, _, _, _]) dL_law_1442 rfl (Nat.le_of_ble_eq_true rfl) rfl rfl ?_
  refine wp_load (pc' := 1445) (j := 2) dL_law_1444 rfl rfl rfl ?_
  refine wp_v0 0 0 dL_law_1445 ml_L_108 hT2.1.1 (Nat.le_of_ble_eq_true rfl) (by omega) (by omega) ?_
  refine p_thrown (d := 11) hT2.1 ?_
  refine kt_v ?_
  refine wp_load (pc' := 1450) (j := 5) dL_law_1448 rfl rfl rfl ?_
  refine wp_icmpT 1455 dL_law_1450 rfl th_appeal ?_
  refine wp_load (pc' := 1457) (j := 5) dL_law_1455 rfl rfl rfl ?_
  generalize hK : K_appeal σ (E.2.2.2.2 (8 * k + 1)) = K at hv ⊢
  rcases Decidable.em (K = 0) with h0 | h0
  · skip
    refine wp_ifF (pc' := 1460) 1479 dL_law_1457 rfl rfl (fun z => z h0) ?_
    obtain ⟨f, ho, hq⟩ := id hT2.2.1
    replace hv := hv h0
    replace hq := hq (hK.trans h0)
    generalize hb : b2i _ = w at hv hq
    refine wp_load (pc' := 1461) (j := 3) dL_law_1460 rfl rfl rfl ?_
    refine wp_iconst (pc' := 1462) (0) dL_law_1461 rfl rfl ?_
    refine wp_lald (pc' := 1463) dL_law_1462 ho (show (0 : Int32) = nI 0 from rfl) (by decide) (by decide) rfl ?_
    refine wp_load (pc' := 1465) (j := 6) dL_law_1463 rfl rfl rfl ?_
    rw [hv]
    refine wp_if_eq (pc' := 1468) 1472 dL_law_1465 rfl rfl (fun hw => ?_) (fun hw => ?_)
    · skip
      refine wp_pure (pc' := 1473) dL_law_1472 rfl rfl ?_
      refine wp_pure (pc' := 1474) dL_law_1473 rfl rfl ?_
      refine wp_ifeqL (pc' := 1477) 1479 dL_law_1474 rfl rfl (fun _ => ?_) (fun z => absurd (hq.trans (by rw [hw]; rfl)) z)
      refine wp_goto 1842 dL_law_1479 rfl ?_
      exact hP _ _ _ _ _ hT2
    · skip
      refine wp_pure (pc' := 1469) dL_law_1468 rfl rfl ?_
      refine wp_goto 1473 dL_law_1469 rfl ?_
      refine wp_pure (pc' := 1474) dL_law_1473 rfl rfl ?_
      refine wp_ifeqL (pc' := 1477) 1479 dL_law_1474 rfl rfl (fun _ => ?_) (fun z => absurd (hq.trans (by rw [(b2i_w hb).resolve_left hw]; rfl)) z)
      refine wp_goto 1842 dL_law_1479 rfl ?_
      exact hP _ _ _ _ _ hT2
  · skip
    refine wp_ifT 1479 dL_law_1457 rfl (fun z => h0 z) ?_
    refine wp_goto 1842 dL_law_1479 rfl ?_
    exact hP _ _ _ _ _ hT2

set_option maxRecDepth 20000 in
set_option maxHeartbeats 4000000 in
theorem t_payFine {E : XE} {mc ms : Nat} {P : Ps} {own aM : Nat → Nat} {m o x k kc nc : Nat} {σ : MS} {Q : (Nat → Int64) → Prop} {G : HP} {z5 z6 : Option Value} (hOW : OW m o aM own) (hT : TM E own aM m o x σ σ k Q G) (hk : 8 * k + 8 ≤ E.2.2.2.1) (hL : E.2.2.2.1 ≤ 4096) (hmc : kc + 100 ≤ mc) (hms : nc + 5000 ≤ ms) (hP : ∀ G' σ' Q' z5 z6, TM E own aM m o x σ' σ' (k + 1) Q' G' → WX E 12 (yL_law, cL_law, some .boolean, []) mc ms P 1842 [some (.ref E.2.2.1), some (.ref x), some (.ref m), some (.ref o), some (.int (nI (8 * k))), z5, z6] [] G' (kc + 100) (nc + 5000)) : WX E 12 (yL_law, cL_law, some .boolean, []) mc ms P 1482 [some (.ref E.2.2.1), some (.ref x), some (.ref m), some (.ref o), some (.int (nI (8 * k))), z5, z6] [] G kc nc := by
  obtain ⟨-, -, A, F, N, hH, hV, -⟩ := id hT
  have hN := hH.2.1
  have hI := hV.1
  clear hH
  refine wp_load (pc' := 1483) (j := 1) dL_law_1482 rfl rfl rfl ?_
  refine wp_load (pc' := 1484) (j := 0) dL_law_1483 rfl rfl rfl ?_
  refine wp_load (pc' := 1486) (j := 4) dL_law_1484 rfl rfl rfl ?_
  refine wp_iconst (pc' := 1487) (1) dL_law_1486 rfl rfl ?_
  refine wp_pure (pc' := 1488) dL_law_1487 rfl rfl ?_
  refine wp_sld (pc' := 1489) (j := 8 * k + 1) dL_law_1488 (show nI (8 * k) + nI 1 = _ from nI_add _ _) (by omega) (by omega) rfl ?_
  refine wp_load (pc' := 1490) (j := 3) dL_law_1489 rfl rfl rfl ?_
  refine wp_s3 100 5000 dL_law_1490 ml_L_172 (Nat.le_of_ble_eq_true rfl) (by omega) (by omega) ?_
  refine w_payFine hOW hT (by omega) (fun G1 hT1 => ?_)
  refine kt_v ?_
  refine wp_store (pc' := 1495) (j := 5) (ls' := [_, _, _, _, _, _, _]) dL_law_1493 rfl (Nat.le_of_ble_eq_true rfl) rfl rfl ?_
  refine wp_load (pc' := 1496) (j := 2) dL_law_1495 rfl rfl rfl ?_
  refine wp_load (pc' := 1497) (j := 0) dL_law_1496 rfl rfl rfl ?_
  refine wp_load (pc' := 1499) (j := 4) dL_law_1497 rfl rfl rfl ?_
  refine wp_iconst (pc' := 1500) (1) dL_law_1499 rfl rfl ?_
  refine wp_pure (pc' := 1501) dL_law_1500 rfl rfl ?_
  refine wp_sld (pc' := 1502) (j := 8 * k + 1) dL_law_1501 (show nI (8 * k) + nI 1 = _ from nI_add _ _) (by omega) (by omega) rfl ?_
  refine wp_v1 0 0 dL_law_1502 ml_L_174 hT1.1.1 (Nat.le_of_ble_eq_true rfl) (by omega) (by omega) ?_
  refine pm_payFine hOW hN hI hT1 (fun v G2 hT2 hv => ?_)
  refine kt_v ?_
  refine wp_store (pc' := 1507) (j := 6) (ls' := [_, _, _, _, _, _, _]) dL_law_1505 rfl (Nat.le_of_ble_eq_true rfl) rfl rfl ?_
  refine wp_load (pc' := 1508) (j := 2) dL_law_1507 rfl rfl rfl ?_
  refine wp_v0 0 0 dL_law_1508 ml_L_108 hT2.1.1 (Nat.le_of_ble_eq_true rfl) (by omega) (by omega) ?_
  refine p_thrown (d := 11) hT2.1 ?_
  refine kt_v ?_
  refine wp_load (pc' := 1513) (j := 5) dL_law_1511 rfl rfl rfl ?_
  refine wp_icmpT 1518 dL_law_1513 rfl th_payFine ?_
  refine wp_load (pc' := 1520) (j := 5) dL_law_1518 rfl rfl rfl ?_
  generalize hK : K_payFine σ (E.2.2.2.2 (8 * k + 1)) = K at hv ⊢
  rcases Decidable.em (K = 0) with h0 | h0
  · skip
    refine wp_ifF (pc' := 1523) 1535 dL_law_1520 rfl rfl (fun z => z h0) ?_
    obtain ⟨f, ho, hq⟩ := id hT2.2.1
    replace hv := hv h0
    replace hq := hq (hK.trans h0)
    rw [← hv] at hq
    refine wp_load (pc' := 1524) (j := 3) dL_law_1523 rfl rfl rfl ?_
    refine wp_iconst (pc' := 1525) (0) dL_law_1524 rfl rfl ?_
    refine wp_lald (pc' := 1526) dL_law_1525 ho (show (0 : Int32) = nI 0 from rfl) (by decide) (by decide) rfl ?_
    refine wp_load (pc' := 1528) (j := 6) dL_law_1526 rfl rfl rfl ?_
    refine wp_pure (pc' := 1529) dL_law_1528 rfl rfl ?_
    refine wp_pure (pc' := 1530) dL_law_1529 rfl rfl ?_
    refine wp_ifeqL (pc' := 1533) 1535 dL_law_1530 rfl rfl (fun _ => ?_) (fun z => absurd hq z)
    refine wp_goto 1842 dL_law_1535 rfl ?_
    exact hP _ _ _ _ _ hT2
  · skip
    refine wp_ifT 1535 dL_law_1520 rfl (fun z => h0 z) ?_
    refine wp_goto 1842 dL_law_1535 rfl ?_
    exact hP _ _ _ _ _ hT2

set_option maxRecDepth 20000 in
set_option maxHeartbeats 4000000 in
theorem t_fine {E : XE} {mc ms : Nat} {P : Ps} {own aM : Nat → Nat} {m o x k kc nc : Nat} {σ : MS} {Q : (Nat → Int64) → Prop} {G : HP} {z5 z6 : Option Value} (hOW : OW m o aM own) (hT : TM E own aM m o x σ σ k Q G) (hk : 8 * k + 8 ≤ E.2.2.2.1) (hL : E.2.2.2.1 ≤ 4096) (hmc : kc + 100 ≤ mc) (hms : nc + 5000 ≤ ms) (hP : ∀ G' σ' Q' z5 z6, TM E own aM m o x σ' σ' (k + 1) Q' G' → WX E 12 (yL_law, cL_law, some .boolean, []) mc ms P 1842 [some (.ref E.2.2.1), some (.ref x), some (.ref m), some (.ref o), some (.int (nI (8 * k))), z5, z6] [] G' (kc + 100) (nc + 5000)) : WX E 12 (yL_law, cL_law, some .boolean, []) mc ms P 1538 [some (.ref E.2.2.1), some (.ref x), some (.ref m), some (.ref o), some (.int (nI (8 * k))), z5, z6] [] G kc nc := by
  obtain ⟨-, -, A, F, N, hH, hV, -⟩ := id hT
  have hN := hH.2.1
  have hI := hV.1
  clear hH
  refine wp_load (pc' := 1539) (j := 1) dL_law_1538 rfl rfl rfl ?_
  refine wp_load (pc' := 1540) (j := 0) dL_law_1539 rfl rfl rfl ?_
  refine wp_load (pc' := 1542) (j := 4) dL_law_1540 rfl rfl rfl ?_
  refine wp_iconst (pc' := 1543) (1) dL_law_1542 rfl rfl ?_
  refine wp_pure (pc' := 1544) dL_law_1543 rfl rfl ?_
  refine wp_sld (pc' := 1545) (j := 8 * k + 1) dL_law_1544 (show nI (8 * k) + nI 1 = _ from nI_add _ _) (by omega) (by omega) rfl ?_
  refine wp_load (pc' := 1546) (j := 0) dL_law_1545 rfl rfl rfl ?_
  refine wp_load (pc' := 1548) (j := 4) dL_law_1546 rfl rfl rfl ?_
  refine wp_iconst (pc' := 1549) (2) dL_law_1548 rfl rfl ?_
  refine wp_pure (pc' := 1550) dL_law_1549 rfl rfl ?_
  refine wp_sld (pc' := 1551) (j := 8 * k + 2) dL_law_1550 (show nI (8 * k) + nI 2 = _ from nI_add _ _) (by omega) (by omega) rfl ?_
  refine wp_load (pc' := 1552) (j := 3) dL_law_1551 rfl rfl rfl ?_
  refine wp_s4 100 5000 dL_law_1552 ml_L_175 (Nat.le_of_ble_eq_true rfl) (by omega) (by omega) ?_
  refine w_fine hOW hT (by omega) (fun G1 hT1 => ?_)
  refine kt_v ?_
  refine wp_store (pc' := 1557) (j := 5) (ls' := [_, _, _, _, _, _, _]) dL_law_1555 rfl (Nat.le_of_ble_eq_true rfl) rfl rfl ?_
  refine wp_load (pc' := 1558) (j := 2) dL_law_1557 rfl rfl rfl ?_
  refine wp_load (pc' := 1559) (j := 0) dL_law_1558 rfl rfl rfl ?_
  refine wp_load (pc' := 1561) (j := 4) dL_law_1559 rfl rfl rfl ?_
  refine wp_iconst (pc' := 1562) (1) dL_law_1561 rfl rfl ?_
  refine wp_pure (pc' := 1563) dL_law_1562 rfl rfl ?_
  refine wp_sld (pc' := 1564) (j := 8 * k + 1) dL_law_1563 (show nI (8 * k) + nI 1 = _ from nI_add _ _) (by omega) (by omega) rfl ?_
  refine wp_load (pc' := 1565) (j := 0) dL_law_1564 rfl rfl rfl ?_
  refine wp_load (pc' := 1567) (j := 4) dL_law_1565 rfl rfl rfl ?_
  refine wp_iconst (pc' := 1568) (2) dL_law_1567 rfl rfl ?_
  refine wp_pure (pc' := 1569) dL_law_1568 rfl rfl ?_
  refine wp_sld (pc' := 1570) (j := 8 * k + 2) dL_law_1569 (show nI (8 * k) + nI 2 = _ from nI_add _ _) (by omega) (by omega) rfl ?_
  refine wp_v2 0 0 dL_law_1570 ml_L_177 hT1.1.1 (Nat.le_of_ble_eq_true rfl) (by omega) (by omega) ?_
  refine pm_fine hOW hN hI hT1 (fun v G2 hT2 hv => ?_)
  refine kt_v ?_
  refine wp_store (pc' := 1575) (j := 6) (ls' := [_, _, _, _, _, _, _]) dL_law_1573 rfl (Nat.le_of_ble_eq_true rfl) rfl rfl ?_
  refine wp_load (pc' := 1576) (j := 2) dL_law_1575 rfl rfl rfl ?_
  refine wp_v0 0 0 dL_law_1576 ml_L_108 hT2.1.1 (Nat.le_of_ble_eq_true rfl) (by omega) (by omega) ?_
  refine p_thrown (d := 11) hT2.1 ?_
  refine kt_v ?_
  refine wp_load (pc' := 1581) (j := 5) dL_law_1579 rfl rfl rfl ?_
  refine wp_icmpT 1586 dL_law_1581 rfl th_fine ?_
  refine wp_load (pc' := 1588) (j := 5) dL_law_1586 rfl rfl rfl ?_
  generalize hK : K_fine σ (E.2.2.2.2 (8 * k + 1)) (E.2.2.2.2 (8 * k + 2)) = K at hv ⊢
  rcases Decidable.em (K = 0) with h0 | h0
  · skip
    refine wp_ifF (pc' := 1591) 1603 dL_law_1588 rfl rfl (fun z => z h0) ?_
    obtain ⟨f, ho, hq⟩ := id hT2.2.1
    replace hv := hv h0
    replace hq := hq (hK.trans h0)
    rw [← hv] at hq
    refine wp_load (pc' := 1592) (j := 3) dL_law_1591 rfl rfl rfl ?_
    refine wp_iconst (pc' := 1593) (0) dL_law_1592 rfl rfl ?_
    refine wp_lald (pc' := 1594) dL_law_1593 ho (show (0 : Int32) = nI 0 from rfl) (by decide) (by decide) rfl ?_
    refine wp_load (pc' := 1596) (j := 6) dL_law_1594 rfl rfl rfl ?_
    refine wp_pure (pc' := 1597) dL_law_1596 rfl rfl ?_
    refine wp_pure (pc' := 1598) dL_law_1597 rfl rfl ?_
    refine wp_ifeqL (pc' := 1601) 1603 dL_law_1598 rfl rfl (fun _ => ?_) (fun z => absurd hq z)
    refine wp_goto 1842 dL_law_1603 rfl ?_
    exact hP _ _ _ _ _ hT2
  · skip
    refine wp_ifT 1603 dL_law_1588 rfl (fun z => h0 z) ?_
    refine wp_goto 1842 dL_law_1603 rfl ?_
    exact hP _ _ _ _ _ hT2

set_option maxRecDepth 20000 in
set_option maxHeartbeats 4000000 in
theorem t_debt {E : XE} {mc ms : Nat} {P : Ps} {own aM : Nat → Nat} {m o x k kc nc : Nat} {σ : MS} {Q : (Nat → Int64) → Prop} {G : HP} {z5 z6 : Option Value} (hOW : OW m o aM own) (hT : TM E own aM m o x σ σ k Q G) (hk : 8 * k + 8 ≤ E.2.2.2.1) (hL : E.2.2.2.1 ≤ 4096) (hmc : kc + 100 ≤ mc) (hms : nc + 5000 ≤ ms) (hP : ∀ G' σ' Q' z5 z6, TM E own aM m o x σ' σ' (k + 1) Q' G' → WX E 12 (yL_law, cL_law, some .boolean, []) mc ms P 1842 [some (.ref E.2.2.1), some (.ref x), some (.ref m), some (.ref o), some (.int (nI (8 * k))), z5, z6] [] G' (kc + 100) (nc + 5000)) : WX E 12 (yL_law, cL_law, some .boolean, []) mc ms P 1606 [some (.ref E.2.2.1), some (.ref x), some (.ref m), some (.ref o), some (.int (nI (8 * k))), z5, z6] [] G kc nc := by
  obtain ⟨-, -, A, F, N, hH, hV, -⟩ := id hT
  have hN := hH.2.1
  have hI := hV.1
  clear hH
  refine wp_load (pc' := 1607) (j := 1) dL_law_1606 rfl rfl rfl ?_
  refine wp_load (pc' := 1608) (j := 0) dL_law_1607 rfl rfl rfl ?_
  refine wp_load (pc' := 1610) (j := 4) dL_law_1608 rfl rfl rfl ?_
  refine wp_iconst (pc' := 1611) (1) dL_law_1610 rfl rfl ?_
  refine wp_pure (pc' := 1612) dL_law_1611 rfl rfl ?_
  refine wp_sld (pc' := 1613) (j := 8 * k + 1) dL_law_1612 (show nI (8 * k) + nI 1 = _ from nI_add _ _) (by omega) (by omega) rfl ?_
  refine wp_load (pc' := 1614) (j := 3) dL_law_1613 rfl rfl rfl ?_
  refine wp_s3 100 5000 dL_law_1614 ml_L_178 (Nat.le_of_ble_eq_true rfl) (by omega) (by omega) ?_
  refine w_debt hOW hT (by omega) (fun G1 hT1 => ?_)
  refine kt_v ?_
  refine wp_store (pc' := 1619) (j := 5) (ls' := [_, _, _, _, _, _, _]) dL_law_1617 rfl (Nat.le_of_ble_eq_true rfl) rfl rfl ?_
  refine wp_load (pc' := 1620) (j := 2) dL_law_1619 rfl rfl rfl ?_
  refine wp_load (pc' := 1621) (j := 0) dL_law_1620 rfl rfl rfl ?_
  refine wp_load (pc' := 1623) (j := 4) dL_law_1621 rfl rfl rfl ?_
  refine wp_iconst (pc' := 1624) (1) dL_law_1623 rfl rfl ?_
  refine wp_pure (pc' := 1625) dL_law_1624 rfl rfl ?_
  refine wp_sld (pc' := 1626) (j := 8 * k + 1) dL_law_1625 (show nI (8 * k) + nI 1 = _ from nI_add _ _) (by omega) (by omega) rfl ?_
  refine wp_v1 0 0 dL_law_1626 ml_L_180 hT1.1.1 (Nat.le_of_ble_eq_true rfl) (by omega) (by omega) ?_
  refine pm_debt hOW hN hI hT1 (fun v G2 hT2 hv => ?_)
  refine kt_v ?_
  refine wp_store (pc' := 1631) (j := 6) (ls' := [_, _, _, _, _, _, _]) dL_law_1629 rfl (Nat.le_of_ble_eq_true rfl) rfl rfl ?_
  refine wp_load (pc' := 1632) (j := 2) dL_law_1631 rfl rfl rfl ?_
  refine wp_v0 0 0 dL_law_1632 ml_L_108 hT2.1.1 (Nat.le_of_ble_eq_true rfl) (by omega) (by omega) ?_
  refine p_thrown (d := 11) hT2.1 ?_
  refine kt_v ?_
  refine wp_load (pc' := 1637) (j := 5) dL_law_1635 rfl rfl rfl ?_
  refine wp_icmpT 1642 dL_law_1637 rfl th_debt ?_
  refine wp_load (pc' := 1644) (j := 5) dL_law_1642 rfl rfl rfl ?_
  generalize hK : K_car1 σ (E.2.2.2.2 (8 * k + 1)) = K at hv ⊢
  rcases Decidable.em (K = 0) with h0 | h0
  · skip
    refine wp_ifF (pc' := 1647) 1659 dL_law_1644 rfl rfl (fun z => z h0) ?_
    obtain ⟨f, ho, hq⟩ := id hT2.2.1
    replace hv := hv h0
    replace hq := hq (hK.trans h0)
    rw [← hv] at hq
    refine wp_load (pc' := 1648) (j := 3) dL_law_1647 rfl rfl rfl ?_
    refine wp_iconst (pc' := 1649) (0) dL_law_1648 rfl rfl ?_
    refine wp_lald (pc' := 1650) dL_law_1649 ho (show (0 : Int32) = nI 0 from rfl) (by decide) (by decide) rfl ?_
    refine wp_load (pc' := 1652) (j := 6) dL_law_1650 rfl rfl rfl ?_
    refine wp_pure (pc' := 1653) dL_law_1652 rfl rfl ?_
    refine wp_pure (pc' := 1654) dL_law_1653 rfl rfl ?_
    refine wp_ifeqL (pc' := 1657) 1659 dL_law_1654 rfl rfl (fun _ => ?_) (fun z => absurd hq z)
    refine wp_goto 1842 dL_law_1659 rfl ?_
    exact hP _ _ _ _ _ hT2
  · skip
    refine wp_ifT 1659 dL_law_1644 rfl (fun z => h0 z) ?_
    refine wp_goto 1842 dL_law_1659 rfl ?_
    exact hP _ _ _ _ _ hT2

set_option maxRecDepth 20000 in
set_option maxHeartbeats 4000000 in
theorem t_tow {E : XE} {mc ms : Nat} {P : Ps} {own aM : Nat → Nat} {m o x k kc nc : Nat} {σ : MS} {Q : (Nat → Int64) → Prop} {G : HP} {z5 z6 : Option Value} (hOW : OW m o aM own) (hT : TM E own aM m o x σ σ k Q G) (hk : 8 * k + 8 ≤ E.2.2.2.1) (hL : E.2.2.2.1 ≤ 4096) (hmc : kc + 100 ≤ mc) (hms : nc + 5000 ≤ ms) (hP : ∀ G' σ' Q' z5 z6, TM E own aM m o x σ' σ' (k + 1) Q' G' → WX E 12 (yL_law, cL_law, some .boolean, []) mc ms P 1842 [some (.ref E.2.2.1), some (.ref x), some (.ref m), some (.ref o), some (.int (nI (8 * k))), z5, z6] [] G' (kc + 100) (nc + 5000)) : WX E 12 (yL_law, cL_law, some .boolean, []) mc ms P 1662 [some (.ref E.2.2.1), some (.ref x), some (.ref m), some (.ref o), some (.int (nI (8 * k))), z5, z6] [] G kc nc := by
  obtain ⟨-, -, A, F, N, hH, hV, -⟩ := id hT
  have hN := hH.2.1
  have hI := hV.1
  clear hH
  refine wp_load (pc' := 1663) (j := 1) dL_law_1662 rfl rfl rfl ?_
  refine wp_load (pc' := 1664) (j := 0) dL_law_1663 rfl rfl rfl ?_
  refine wp_load (pc' := 1666) (j := 4) dL_law_1664 rfl rfl rfl ?_
  refine wp_iconst (pc' := 1667) (1) dL_law_1666 rfl rfl ?_
  refine wp_pure (pc' := 1668) dL_law_1667 rfl rfl ?_
  refine wp_sld (pc' := 1669) (j := 8 * k + 1) dL_law_1668 (show nI (8 * k) + nI 1 = _ from nI_add _ _) (by omega) (by omega) rfl ?_
  refine wp_load (pc' := 1670) (j := 3) dL_law_1669 rfl rfl rfl ?_
  refine wp_s3 100 5000 dL_law_1670 ml_L_181 (Nat.le_of_ble_eq_true rfl) (by omega) (by omega) ?_
  refine w_tow hOW hT (by omega) (fun G1 hT1 => ?_)
  refine kt_v ?_
  refine wp_store (pc' := 1675) (j := 5) (ls' := [_, _, _, _, _, _, _]) dL_law_1673 rfl (Nat.le_of_ble_eq_true rfl) rfl rfl ?_
  refine wp_load (pc' := 1676) (j := 2) dL_law_1675 rfl rfl rfl ?_
  refine wp_load (pc' := 1677) (j := 0) dL_law_1676 rfl rfl rfl ?_
  refine wp_load (pc' := 1679) (j := 4) dL_law_1677 rfl rfl rfl ?_
  refine wp_iconst (pc' := 1680) (1) dL_law_1679 rfl rfl ?_
  refine wp_pure (pc' := 1681) dL_law_1680 rfl rfl ?_
  refine wp_sld (pc' := 1682) (j := 8 * k + 1) dL_law_1681 (show nI (8 * k) + nI 1 = _ from nI_add _ _) (by omega) (by omega) rfl ?_
  refine wp_v1 0 0 dL_law_1682 ml_L_183 hT1.1.1 (Nat.le_of_ble_eq_true rfl) (by omega) (by omega) ?_
  refine pm_tow hOW hN hI hT1 (fun v G2 hT2 hv => ?_)
  refine kt_v ?_
  refine wp_store (pc' := 1687) (j := 6) (ls' := [_, _, _, _, _, _, _]) dL_law_1685 rfl (Nat.le_of_ble_eq_true rfl) rfl rfl ?_
  refine wp_load (pc' := 1688) (j := 2) dL_law_1687 rfl rfl rfl ?_
  refine wp_v0 0 0 dL_law_1688 ml_L_108 hT2.1.1 (Nat.le_of_ble_eq_true rfl) (by omega) (by omega) ?_
  refine p_thrown (d := 11) hT2.1 ?_
  refine kt_v ?_
  refine wp_load (pc' := 1693) (j := 5) dL_law_1691 rfl rfl rfl ?_
  refine wp_icmpT 1698 dL_law_1693 rfl th_tow ?_
  refine wp_load (pc' := 1700) (j := 5) dL_law_1698 rfl rfl rfl ?_
  generalize hK : K_tow σ (ix (σ.1 40)) (E.2.2.2.2 (8 * k + 1)) = K at hv ⊢
  rcases Decidable.em (K = 0) with h0 | h0
  · skip
    refine wp_ifF (pc' := 1703) 1715 dL_law_1700 rfl rfl (fun z => z h0) ?_
    obtain ⟨f, ho, hq⟩ := id hT2.2.1
    replace hv := hv h0
    replace hq := hq (hK.trans h0)
    rw [← hv] at hq
    refine wp_load (pc' := 1704) (j := 3) dL_law_1703 rfl rfl rfl ?_
    refine wp_iconst (pc' := 1705) (0) dL_law_1704 rfl rfl ?_
    refine wp_lald (pc' := 1706) dL_law_1705 ho (show (0 : Int32) = nI 0 from rfl) (by decide) (by decide) rfl ?_
    refine wp_load (pc' := 1708) (j := 6) dL_law_1706 rfl rfl rfl ?_
    refine wp_pure (pc' := 1709) dL_law_1708 rfl rfl ?_
    refine wp_pure (pc' := 1710) dL_law_1709 rfl rfl ?_
    refine wp_ifeqL (pc' := 1713) 1715 dL_law_1710 rfl rfl (fun _ => ?_) (fun z => absurd hq z)
    refine wp_goto 1842 dL_law_1715 rfl ?_
    exact hP _ _ _ _ _ hT2
  · skip
    refine wp_ifT 1715 dL_law_1700 rfl (fun z => h0 z) ?_
    refine wp_goto 1842 dL_law_1715 rfl ?_
    exact hP _ _ _ _ _ hT2

set_option maxRecDepth 20000 in
set_option maxHeartbeats 4000000 in
theorem t_streetIs {E : XE} {mc ms : Nat} {P : Ps} {own aM : Nat → Nat} {m o x k kc nc : Nat} {σ : MS} {Q : (Nat → Int64) → Prop} {G : HP} {z5 z6 : Option Value} (hOW : OW m o aM own) (hT : TM E own aM m o x σ σ k Q G) (hk : 8 * k + 8 ≤ E.2.2.2.1) (hL : E.2.2.2.1 ≤ 4096) (hmc : kc + 100 ≤ mc) (hms : nc + 5000 ≤ ms) (hP : ∀ G' σ' Q' z5 z6, TM E own aM m o x σ' σ' (k + 1) Q' G' → WX E 12 (yL_law, cL_law, some .boolean, []) mc ms P 1842 [some (.ref E.2.2.1), some (.ref x), some (.ref m), some (.ref o), some (.int (nI (8 * k))), z5, z6] [] G' (kc + 100) (nc + 5000)) : WX E 12 (yL_law, cL_law, some .boolean, []) mc ms P 1718 [some (.ref E.2.2.1), some (.ref x), some (.ref m), some (.ref o), some (.int (nI (8 * k))), z5, z6] [] G kc nc := by
  obtain ⟨-, -, A, F, N, hH, hV, -⟩ := id hT
  have hN := hH.2.1
  have hI := hV.1
  clear hH
  refine wp_load (pc' := 1719) (j := 1) dL_law_1718 rfl rfl rfl ?_
  refine wp_load (pc' := 1720) (j := 0) dL_law_1719 rfl rfl rfl ?_
  refine wp_load (pc' := 1722) (j := 4) dL_law_1720 rfl rfl rfl ?_
  refine wp_iconst (pc' := 1723) (1) dL_law_1722 rfl rfl ?_
  refine wp_pure (pc' := 1724) dL_law_1723 rfl rfl ?_
  refine wp_sld (pc' := 1725) (j := 8 * k + 1) dL_law_1724 (show nI (8 * k) + nI 1 = _ from nI_add _ _) (by omega) (by omega) rfl ?_
  refine wp_load (pc' := 1726) (j := 0) dL_law_1725 rfl rfl rfl ?_
  refine wp_load (pc' := 1728) (j := 4) dL_law_1726 rfl rfl rfl ?_
  refine wp_iconst (pc' := 1729) (2) dL_law_1728 rfl rfl ?_
  refine wp_pure (pc' := 1730) dL_law_1729 rfl rfl ?_
  refine wp_sld (pc' := 1731) (j := 8 * k + 2) dL_law_1730 (show nI (8 * k) + nI 2 = _ from nI_add _ _) (by omega) (by omega) rfl ?_
  refine wp_load (pc' := 1732) (j := 3) dL_law_1731 rfl rfl rfl ?_
  refine wp_s4 100 5000 dL_law_1732 ml_L_184 (Nat.le_of_ble_eq_true rfl) (by omega) (by omega) ?_
  refine w_streetIs hOW hT (by omega) (fun G1 hT1 => ?_)
  refine kt_v ?_
  refine wp_store (pc' := 1737) (j := 5) (ls' := [_, _, _, _, _, _, _]) dL_law_1735 rfl (Nat.le_of_ble_eq_true rfl) rfl rfl ?_
  refine wp_load (pc' := 1738) (j := 2) dL_law_1737 rfl rfl rfl ?_
  refine wp_load (pc' := 1739) (j := 0) dL_law_1738 rfl rfl rfl ?_
  refine wp_load (pc' := 1741) (j := 4) dL_law_1739 rfl rfl rfl ?_
  refine wp_iconst (pc' := 1742) (1) dL_law_1741 rfl rfl ?_
  refine wp_pure (pc' := 1743) dL_law_1742 rfl rfl ?_
  refine wp_sld (pc' := 1744) (j := 8 * k + 1) dL_law_1743 (show nI (8 * k) + nI 1 = _ from nI_add _ _) (by omega) (by omega) rfl ?_
  refine wp_load (pc' := 1745) (j := 0) dL_law_1744 rfl rfl rfl ?_
  refine wp_load (pc' := 1747) (j := 4) dL_law_1745 rfl rfl rfl ?_
  refine wp_iconst (pc' := 1748) (2) dL_law_1747 rfl rfl ?_
  refine wp_pure (pc' := 1749) dL_law_1748 rfl rfl ?_
  refine wp_sld (pc' := 1750) (j := 8 * k + 2) dL_law_1749 (show nI (8 * k) + nI 2 = _ from nI_add _ _) (by omega) (by omega) rfl ?_
  refine wp_v2 0 0 dL_law_1750 ml_L_186 hT1.1.1 (Nat.le_of_ble_eq_true rfl) (by omega) (by omega) ?_
  refine pm_streetIs hOW hN hI hT1 (fun v G2 hT2 hv => ?_)
  refine kt_v ?_
  refine wp_store (pc' := 1755) (j := 6) (ls' := [_, _, _, _, _, _, _]) dL_law_1753 rfl (Nat.le_of_ble_eq_true rfl) rfl rfl ?_
  refine wp_load (pc' := 1756) (j := 2) dL_law_1755 rfl rfl rfl ?_
  refine wp_v0 0 0 dL_law_1756 ml_L_108 hT2.1.1 (Nat.le_of_ble_eq_true rfl) (by omega) (by omega) ?_
  refine p_thrown (d := 11) hT2.1 ?_
  refine kt_v ?_
  refine wp_load (pc' := 1761) (j := 5) dL_law_1759 rfl rfl rfl ?_
  refine wp_icmpT 1766 dL_law_1761 rfl th_streetIs ?_
  refine wp_load (pc' := 1768) (j := 5) dL_law_1766 rfl rfl rfl ?_
  generalize hK : K_streetIs (E.2.2.2.2 (8 * k + 1)) (E.2.2.2.2 (8 * k + 2)) = K at hv ⊢
  rcases Decidable.em (K = 0) with h0 | h0
  · skip
    refine wp_ifF (pc' := 1771) 1783 dL_law_1768 rfl rfl (fun z => z h0) ?_
    obtain ⟨f, ho, hq⟩ := id hT2.2.1
    replace hv := hv h0
    replace hq := hq (hK.trans h0)
    rw [← hv] at hq
    refine wp_load (pc' := 1772) (j := 3) dL_law_1771 rfl rfl rfl ?_
    refine wp_iconst (pc' := 1773) (0) dL_law_1772 rfl rfl ?_
    refine wp_lald (pc' := 1774) dL_law_1773 ho (show (0 : Int32) = nI 0 from rfl) (by decide) (by decide) rfl ?_
    refine wp_load (pc' := 1776) (j := 6) dL_law_1774 rfl rfl rfl ?_
    refine wp_pure (pc' := 1777) dL_law_1776 rfl rfl ?_
    refine wp_pure (pc' := 1778) dL_law_1777 rfl rfl ?_
    refine wp_ifeqL (pc' := 1781) 1783 dL_law_1778 rfl rfl (fun _ => ?_) (fun z => absurd hq z)
    refine wp_goto 1842 dL_law_1783 rfl ?_
    exact hP _ _ _ _ _ hT2
  · skip
    refine wp_ifT 1783 dL_law_1768 rfl (fun z => h0 z) ?_
    refine wp_goto 1842 dL_law_1783 rfl ?_
    exact hP _ _ _ _ _ hT2

set_option maxRecDepth 20000 in
set_option maxHeartbeats 4000000 in
theorem t_pass {E : XE} {mc ms : Nat} {P : Ps} {own aM : Nat → Nat} {m o x k kc nc : Nat} {σ : MS} {Q : (Nat → Int64) → Prop} {G : HP} {z5 z6 : Option Value} (hOW : OW m o aM own) (hT : TM E own aM m o x σ σ k Q G) (hk : 8 * k + 8 ≤ E.2.2.2.1) (hL : E.2.2.2.1 ≤ 4096) (hmc : kc + 100 ≤ mc) (hms : nc + 5000 ≤ ms) (hP : ∀ G' σ' Q' z5 z6, TM E own aM m o x σ' σ' (k + 1) Q' G' → WX E 12 (yL_law, cL_law, some .boolean, []) mc ms P 1842 [some (.ref E.2.2.1), some (.ref x), some (.ref m), some (.ref o), some (.int (nI (8 * k))), z5, z6] [] G' (kc + 100) (nc + 5000)) : WX E 12 (yL_law, cL_law, some .boolean, []) mc ms P 1786 [some (.ref E.2.2.1), some (.ref x), some (.ref m), some (.ref o), some (.int (nI (8 * k))), z5, z6] [] G kc nc := by
  obtain ⟨-, -, A, F, N, hH, hV, -⟩ := id hT
  have hN := hH.2.1
  have hI := hV.1
  clear hH
  refine wp_load (pc' := 1787) (j := 1) dL_law_1786 rfl rfl rfl ?_
  refine wp_load (pc' := 1788) (j := 0) dL_law_1787 rfl rfl rfl ?_
  refine wp_load (pc' := 1790) (j := 4) dL_law_1788 rfl rfl rfl ?_
  refine wp_iconst (pc' := 1791) (1) dL_law_1790 rfl rfl ?_
  refine wp_pure (pc' := 1792) dL_law_1791 rfl rfl ?_
  refine wp_sld (pc' := 1793) (j := 8 * k + 1) dL_law_1792 (show nI (8 * k) + nI 1 = _ from nI_add _ _) (by omega) (by omega) rfl ?_
  refine wp_load (pc' := 1794) (j := 3) dL_law_1793 rfl rfl rfl ?_
  refine wp_s3 100 5000 dL_law_1794 ml_L_187 (Nat.le_of_ble_eq_true rfl) (by omega) (by omega) ?_
  refine w_pass hOW hT (by omega) (fun G1 hT1 => ?_)
  refine kt_v ?_
  refine wp_store (pc' := 1799) (j := 5) (ls' := [_, _, _, _, _, _, _]) dL_law_1797 rfl (Nat.le_of_ble_eq_true rfl) rfl rfl ?_
  refine wp_load (pc' := 1800) (j := 2) dL_law_1799 rfl rfl rfl ?_
  refine wp_load (pc' := 1801) (j := 0) dL_law_1800 rfl rfl rfl ?_
  refine wp_load (pc' := 1803) (j := 4) dL_law_1801 rfl rfl rfl ?_
  refine wp_iconst (pc' := 1804) (1) dL_law_1803 rfl rfl ?_
  refine wp_pure (pc' := 1805) dL_law_1804 rfl rfl ?_
  refine wp_sld (pc' := 1806) (j := 8 * k + 1) dL_law_1805 (show nI (8 * k) + nI 1 = _ from nI_add _ _) (by omega) (by omega) rfl ?_
  refine wp_v1 0 0 dL_law_1806 ml_L_189 hT1.1.1 (Nat.le_of_ble_eq_true rfl) (by omega) (by omega) ?_
  refine pm_pass hOW hN hI hT1 (fun v G2 hT2 hv => ?_)
  refine kt_v ?_
  refine wp_store (pc' := 1811) (j := 6) (ls' := [_, _, _, _, _, _, _]) dL_law_1809 rfl (Nat.le_of_ble_eq_true rfl) rfl rfl ?_
  refine wp_load (pc' := 1812) (j := 2) dL_law_1811 rfl rfl rfl ?_
  refine wp_v0 0 0 dL_law_1812 ml_L_108 hT2.1.1 (Nat.le_of_ble_eq_true rfl) (by omega) (by omega) ?_
  refine p_thrown (d := 11) hT2.1 ?_
  refine kt_v ?_
  refine wp_load (pc' := 1817) (j := 5) dL_law_1815 rfl rfl rfl ?_
  refine wp_icmpT 1822 dL_law_1817 rfl th_pass ?_
  refine wp_load (pc' := 1824) (j := 5) dL_law_1822 rfl rfl rfl ?_
  generalize hK : K_pass σ (E.2.2.2.2 (8 * k + 1)) = K at hv ⊢
  rcases Decidable.em (K = 0) with h0 | h0
  · skip
    refine wp_ifF (pc' := 1827) 1839 dL_law_1824 rfl rfl (fun z => z h0) ?_
    obtain ⟨f, ho, hq⟩ := id hT2.2.1
    replace hv := hv h0
    replace hq := hq (hK.trans h0)
    rw [← hv] at hq
    refine wp_load (pc' := 1828) (j := 3) dL_law_1827 rfl rfl rfl ?_
    refine wp_iconst (pc' := 1829) (0) dL_law_1828 rfl rfl ?_
    refine wp_lald (pc' := 1830) dL_law_1829 ho (show (0 : Int32) = nI 0 from rfl) (by decide) (by decide) rfl ?_
    refine wp_load (pc' := 1832) (j := 6) dL_law_1830 rfl rfl rfl ?_
    refine wp_pure (pc' := 1833) dL_law_1832 rfl rfl ?_
    refine wp_pure (pc' := 1834) dL_law_1833 rfl rfl ?_
    refine wp_ifeqL (pc' := 1837) 1839 dL_law_1834 rfl rfl (fun _ => ?_) (fun z => absurd hq z)
    refine wp_goto 1842 dL_law_1839 rfl ?_
    exact hP _ _ _ _ _ hT2
  · skip
    refine wp_ifT 1839 dL_law_1824 rfl (fun z => h0 z) ?_
    refine wp_goto 1842 dL_law_1839 rfl ?_
    exact hP _ _ _ _ _ hT2

