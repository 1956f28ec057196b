/-! the law: its loop -/
theorem and31 (y : Int32) : ∃ v, v < 32 ∧ y &&& 31 = nI v := by
  refine ⟨(y &&& 31).toBitVec.toNat, ?_, ?_⟩
  · rw [Int32.toBitVec_and, BitVec.toNat_and]
    exact Nat.lt_of_le_of_lt Nat.and_le_right (by decide)
  · apply Int32.toBitVec_inj.mp
    show _ = BitVec.ofNat 32 _
    rw [BitVec.ofNat_toNat, BitVec.setWidth_eq]
theorem lp_gt {k L : Nat} (hk : 8 * k < 2 ^ 30) (hL : L < 2 ^ 30) : (nI L - 8 : Int32) < nI (8 * k) ↔ L < 8 * k + 8 := by
  rw [Int32.lt_iff_toInt_lt, show (8 : Int32) = nI 8 from rfl, pk_sub_toInt hL (by decide), nI_toInt (by omega)]
  omega
theorem tm_T {E : XE} {own aM : Nat → Nat} {m o x T : Nat} {σ σ' : MS} {Q : (Nat → Int64) → Prop} {G : HP} (h : TM E own aM m o x σ σ' T Q G) (hT : T + 1 ≤ 1000) : TM E own aM m o x σ σ' (T + 1) Q G := by
  obtain ⟨h1, h2, A, F, N, h3, h4, h5⟩ := h
  exact ⟨h1, h2, A, F, N, h3, inv_T h4 hT, h5⟩
set_option maxRecDepth 20000 in
set_option maxHeartbeats 4000000 in
theorem l_law {E : XE} {mc ms : Nat} {P : Ps} {own aM : Nat → Nat} {m o x : Nat} (hOW : OW m o aM own) (hL : E.2.2.2.1 ≤ 4096) (hP : ∀ G, P (.inl (some (.int 1))) G) : ∀ j k, k + j = 513 → ∀ (σ : MS) (Q : (Nat → Int64) → Prop) (G : HP) (z5 z6 : Option Value) (kc nc : Nat), kc + 100 * j ≤ mc → nc + 5000 * j ≤ ms → TM E own aM m o x σ σ k Q G → WX E 12 (yL_law, cL_law, some .boolean, []) mc ms P 23 [some (.ref E.2.2.1), some (.ref x), some (.ref m), some (.ref o), some (.int (nI (8 * k))), z5, z6] [] G kc nc
  | 0, k, hk, σ, Q, G, z5, z6, kc, nc, hkc, hnc, hT => by
    refine wp_load (pc' := 25) (j := 4) dL_law_23 rfl rfl rfl ?_
    refine wp_load (pc' := 26) (j := 0) dL_law_25 rfl rfl rfl ?_
    refine wp_slen (pc' := 27) dL_law_26 rfl ?_
    refine wp_bipush (pc' := 29) (8) dL_law_27 rfl rfl ?_
    refine wp_pure (pc' := 30) dL_law_29 rfl rfl ?_
    refine wp_icmp_gt (pc' := 33) 1848 dL_law_30 rfl rfl (fun hx => ?_) (fun hx => ?_)
    · skip
      refine wp_iconst (pc' := 1849) (1) dL_law_1848 rfl rfl ?_
      exact wp_iret dL_law_1849 rfl rfl (hP _)
    · exact absurd ((lp_gt (by omega) (by omega)).mpr (by omega)) hx
  | j + 1, k, hk, σ, Q, G, z5, z6, kc, nc, hkc, hnc, hT => by
    have ih := l_law (E := E) (mc := mc) (ms := ms) (x := x) hOW hL hP j (k + 1) (by omega)
    refine wp_load (pc' := 25) (j := 4) dL_law_23 rfl rfl rfl ?_
    refine wp_load (pc' := 26) (j := 0) dL_law_25 rfl rfl rfl ?_
    refine wp_slen (pc' := 27) dL_law_26 rfl ?_
    refine wp_bipush (pc' := 29) (8) dL_law_27 rfl rfl ?_
    refine wp_pure (pc' := 30) dL_law_29 rfl rfl ?_
    refine wp_icmp_gt (pc' := 33) 1848 dL_law_30 rfl rfl (fun hx => ?_) (fun hx => ?_)
    · skip
      refine wp_iconst (pc' := 1849) (1) dL_law_1848 rfl rfl ?_
      exact wp_iret dL_law_1849 rfl rfl (hP _)
    · skip
      have hk8 : 8 * k + 8 ≤ E.2.2.2.1 := by
        rcases Nat.lt_or_ge E.2.2.2.1 (8 * k + 8) with z | z
        · exact absurd ((lp_gt (by omega) (by omega)).mpr z) hx
        · exact z
      have nx : ∀ G' σ' Q' z5 z6 kc nc, kc + 100 * j ≤ mc → nc + 5000 * j ≤ ms → TM E own aM m o x σ' σ' (k + 1) Q' G' → WX E 12 (yL_law, cL_law, some .boolean, []) mc ms P 1842 [some (.ref E.2.2.1), some (.ref x), some (.ref m), some (.ref o), some (.int (nI (8 * k))), z5, z6] [] G' kc nc := fun G' σ' Q' z5 z6 kc nc h1 h2 hT' => by
        refine wp_iinc (pc' := 1845) (j := 4) (ls' := [_, _, _, _, _, _, _]) (nI (8 * (k + 1))) dL_law_1842 rfl (show nI (8 * k) + nI 8 = _ from nI_add _ _) rfl rfl ?_
        refine wp_goto 23 dL_law_1845 rfl ?_
        exact ih σ' Q' G' z5 z6 kc nc h1 h2 hT'
      refine wp_load (pc' := 34) (j := 0) dL_law_33 rfl rfl rfl ?_
      refine wp_load (pc' := 36) (j := 4) dL_law_34 rfl rfl rfl ?_
      refine wp_sld (pc' := 37) (j := 8 * k) dL_law_36 rfl (by omega) (by omega) rfl ?_
      refine wp_bipush (pc' := 39) (31) dL_law_37 rfl rfl ?_
      refine wp_pure (pc' := 40) dL_law_39 rfl rfl ?_
      obtain ⟨v, hv, e⟩ := and31 (E.2.2.2.2 (8 * k))
      rw [e]
      rcases (show v = 0 ∨ v = 1 ∨ v = 2 ∨ v = 3 ∨ v = 4 ∨ v = 5 ∨ v = 6 ∨ v = 7 ∨ v = 8 ∨ v = 9 ∨ v = 10 ∨ v = 11 ∨ v = 12 ∨ v = 13 ∨ v = 14 ∨ v = 15 ∨ v = 16 ∨ v = 17 ∨ v = 18 ∨ v = 19 ∨ v = 20 ∨ v = 21 ∨ v = 22 ∨ v = 23 ∨ 24 ≤ v by omega) with rfl | rfl | rfl | rfl | rfl | rfl | rfl | rfl | rfl | rfl | rfl | rfl | rfl | rfl | rfl | rfl | rfl | rfl | rfl | rfl | rfl | rfl | rfl | rfl | h24
      · refine wp_swIn 152 dL_law_40 (by decide) (by decide) rfl rfl ?_
        exact t_block hOW hT hk8 hL (by omega) (by omega) (fun G' σ' Q' z5 z6 hT' => nx G' σ' Q' z5 z6 _ _ (by omega) (by omega) hT')
      · refine wp_swIn 255 dL_law_40 (by decide) (by decide) rfl rfl ?_
        exact t_times hOW hT hk8 hL (by omega) (by omega) (fun G' σ' Q' z5 z6 hT' => nx G' σ' Q' z5 z6 _ _ (by omega) (by omega) hT')
      · refine wp_swIn 315 dL_law_40 (by decide) (by decide) rfl rfl ?_
        exact t_dates hOW hT hk8 hL (by omega) (by omega) (fun G' σ' Q' z5 z6 hT' => nx G' σ' Q' z5 z6 _ _ (by omega) (by omega) hT')
      · refine wp_swIn 363 dL_law_40 (by decide) (by decide) rfl rfl ?_
        exact t_sign hOW hT hk8 hL (by omega) (by omega) (fun G' σ' Q' z5 z6 hT' => nx G' σ' Q' z5 z6 _ _ (by omega) (by omega) hT')
      · refine wp_swIn 527 dL_law_40 (by decide) (by decide) rfl rfl ?_
        exact t_takeDown hOW hT hk8 hL (by omega) (by omega) (fun G' σ' Q' z5 z6 hT' => nx G' σ' Q' z5 z6 _ _ (by omega) (by omega) hT')
      · refine wp_swIn 563 dL_law_40 (by decide) (by decide) rfl rfl ?_
        exact t_rule hOW hT hk8 hL (by omega) (by omega) (fun G' σ' Q' z5 z6 hT' => nx G' σ' Q' z5 z6 _ _ (by omega) (by omega) hT')
      · refine wp_swIn 643 dL_law_40 (by decide) (by decide) rfl rfl ?_
        exact t_ruleAnew hOW hT hk8 hL (by omega) (by omega) (fun G' σ' Q' z5 z6 hT' => nx G' σ' Q' z5 z6 _ _ (by omega) (by omega) hT')
      · refine wp_swIn 723 dL_law_40 (by decide) (by decide) rfl rfl ?_
        exact t_car hOW hT hk8 hL (by omega) (by omega) (fun G' σ' Q' z5 z6 hT' => nx G' σ' Q' z5 z6 _ _ (by omega) (by omega) hT')
      · refine wp_swIn 791 dL_law_40 (by decide) (by decide) rfl rfl ?_
        exact t_permit hOW hT hk8 hL (by omega) (by omega) (fun G' σ' Q' z5 z6 hT' => nx G' σ' Q' z5 z6 _ _ (by omega) (by omega) hT')
      · refine wp_swIn 895 dL_law_40 (by decide) (by decide) rfl rfl ?_
        exact t_hand hOW hT hk8 hL (by omega) (by omega) (fun G' σ' Q' z5 z6 hT' => nx G' σ' Q' z5 z6 _ _ (by omega) (by omega) hT')
      · refine wp_swIn 963 dL_law_40 (by decide) (by decide) rfl rfl ?_
        exact t_countsAs hOW hT hk8 hL (by omega) (by omega) (fun G' σ' Q' z5 z6 hT' => nx G' σ' Q' z5 z6 _ _ (by omega) (by omega) hT')
      · refine wp_swIn 1031 dL_law_40 (by decide) (by decide) rfl rfl ?_
        exact t_park hOW hT hk8 hL (by omega) (by omega) (fun G' σ' Q' z5 z6 hT' => nx G' σ' Q' z5 z6 _ _ (by omega) (by omega) hT')
      · refine wp_swIn 1091 dL_law_40 (by decide) (by decide) rfl rfl ?_
        exact t_leave hOW hT hk8 hL (by omega) (by omega) (fun G' σ' Q' z5 z6 hT' => nx G' σ' Q' z5 z6 _ _ (by omega) (by omega) hT')
      · refine wp_swIn 1147 dL_law_40 (by decide) (by decide) rfl rfl ?_
        exact t_gap hOW hT hk8 hL (by omega) (by omega) (fun G' σ' Q' z5 z6 hT' => nx G' σ' Q' z5 z6 _ _ (by omega) (by omega) hT')
      · refine wp_swIn 1215 dL_law_40 (by decide) (by decide) rfl rfl ?_
        exact t_pay hOW hT hk8 hL (by omega) (by omega) (fun G' σ' Q' z5 z6 hT' => nx G' σ' Q' z5 z6 _ _ (by omega) (by omega) hT')
      · refine wp_swIn 1307 dL_law_40 (by decide) (by decide) rfl rfl ?_
        exact t_judge hOW hT hk8 hL (by omega) (by omega) (fun G' σ' Q' z5 z6 hT' => nx G' σ' Q' z5 z6 _ _ (by omega) (by omega) hT')
      · refine wp_swIn 1363 dL_law_40 (by decide) (by decide) rfl rfl ?_
        exact t_look hOW hT hk8 hL (by omega) (by omega) (fun G' σ' Q' z5 z6 hT' => nx G' σ' Q' z5 z6 _ _ (by omega) (by omega) hT')
      · refine wp_swIn 1419 dL_law_40 (by decide) (by decide) rfl rfl ?_
        exact t_appeal hOW hT hk8 hL (by omega) (by omega) (fun G' σ' Q' z5 z6 hT' => nx G' σ' Q' z5 z6 _ _ (by omega) (by omega) hT')
      · refine wp_swIn 1482 dL_law_40 (by decide) (by decide) rfl rfl ?_
        exact t_payFine hOW hT hk8 hL (by omega) (by omega) (fun G' σ' Q' z5 z6 hT' => nx G' σ' Q' z5 z6 _ _ (by omega) (by omega) hT')
      · refine wp_swIn 1538 dL_law_40 (by decide) (by decide) rfl rfl ?_
        exact t_fine hOW hT hk8 hL (by omega) (by omega) (fun G' σ' Q' z5 z6 hT' => nx G' σ' Q' z5 z6 _ _ (by omega) (by omega) hT')
      · refine wp_swIn 1606 dL_law_40 (by decide) (by decide) rfl rfl ?_
        exact t_debt hOW hT hk8 hL (by omega) (by omega) (fun G' σ' Q' z5 z6 hT' => nx G' σ' Q' z5 z6 _ _ (by omega) (by omega) hT')
      · refine wp_swIn 1662 dL_law_40 (by decide) (by decide) rfl rfl ?_
        exact t_tow hOW hT hk8 hL (by omega) (by omega) (fun G' σ' Q' z5 z6 hT' => nx G' σ' Q' z5 z6 _ _ (by omega) (by omega) hT')
      · refine wp_swIn 1718 dL_law_40 (by decide) (by decide) rfl rfl ?_
        exact t_streetIs hOW hT hk8 hL (by omega) (by omega) (fun G' σ' Q' z5 z6 hT' => nx G' σ' Q' z5 z6 _ _ (by omega) (by omega) hT')
      · refine wp_swIn 1786 dL_law_40 (by decide) (by decide) rfl rfl ?_
        exact t_pass hOW hT hk8 hL (by omega) (by omega) (fun G' σ' Q' z5 z6 hT' => nx G' σ' Q' z5 z6 _ _ (by omega) (by omega) hT')
      · refine wp_swOut 1842 dL_law_40 (Or.inr ?_) rfl ?_
        · rw [nI_toInt (by omega)]
          omega
        · exact nx G σ Q z5 z6 kc nc (by omega) (by omega) (tm_T hT (by omega))

