/-! the class: what writes to one object -/
theorem mar_s {σ : MS} {k i : Nat} {x : Int32} : (mar σ k i x).2.1 k i = x := by
  show va_up σ.2.1 k (va_up (σ.2.1 k) i x) k i = x
  rw [va_up, if_pos rfl, va_up, if_pos rfl]
theorem mar_n {σ : MS} {k i j : Nat} {x : Int32} (h : j ≠ i) : (mar σ k i x).2.1 k j = σ.2.1 k j := by
  show va_up σ.2.1 k (va_up (σ.2.1 k) i x) k j = _
  rw [va_up, if_pos rfl, va_up, if_neg h]
theorem mbr_s {σ : MS} {k i : Nat} {x : Bool} : (mbr σ k i x).2.2 k i = x := by
  show va_up σ.2.2 k (va_up (σ.2.2 k) i x) k i = x
  rw [va_up, if_pos rfl, va_up, if_pos rfl]
theorem mbr_n {σ : MS} {k i j : Nat} {x : Bool} (h : j ≠ i) : (mbr σ k i x).2.2 k j = σ.2.2 k j := by
  show va_up σ.2.2 k (va_up (σ.2.2 k) i x) k j = _
  rw [va_up, if_pos rfl, va_up, if_neg h]
theorem mbr_k {σ : MS} {k k' i : Nat} {x : Bool} (h : k' ≠ k) : (mbr σ k i x).2.2 k' = σ.2.2 k' := by
  show va_up σ.2.2 k (va_up (σ.2.2 k) i x) k' = _
  rw [va_up, if_neg h]
theorem mbr_o {σ : MS} {k k' i j : Nat} {x : Bool} (h : j ≠ i) : (mbr σ k i x).2.2 k' j = σ.2.2 k' j := by
  by_cases e : k' = k
  · rw [e, mbr_n h]
  · rw [mbr_k e]
theorem dn_now {x : Int32} {t : Nat} (h : x = nI t) (ht : t ≤ 49999) : dnF x = x := if_neg (fun e => by rw [h] at e; have := (nI_eq (show t < 2 ^ 31 by omega) (show 50000 < 2 ^ 31 by decide)).1 e; omega)
set_option maxRecDepth 20000 in
set_option maxHeartbeats 2000000 in
theorem q_block {E : XE} {d mc ms : Nat} {P : Ps} {G : HP} {own : Nat → Nat} {A : Nat → Nat → Nat} {F : Nat → Int32} {σ : MS} {N : Nat → Nat} (hH : CH E own A F σ N G) {T : Nat} (hI : PI σ N T) {s mt : Int32} {is : Bool} (hmc : 10 ≤ mc) (hms : 1000 ≤ ms) (hX : ∀ X, exO (K_block s mt) X → P (.inr X) G) (hT2 : K_block s mt = 0 → ∀ a b, a < 4 → b < 60 → s = nI a → mt = nI b → ∀ G', CW E own A F (mbr (zz σ) 1 (60 * a + b) is) N G G' → P (.inl (some (.int (b2i (σ.2.2 1 (60 * a + b)))))) G') : Sp E (d + 11) yX8_block mc ms [.ref (A 0 0), .int s, .int mt, .int (b2i is)] G P := by
  obtain ⟨hON, hN, hK, hL, hD, hT, hS, hW, hC, hPm, hY, hF⟩ := id hH
  obtain ⟨n0, n1, n2, n3, n4, n5, e7, e22, e29, e35, e40⟩ := id hN
  refine sp_intro bd_X8_block (v1_all rfl) (Nat.le_of_ble_eq_true rfl) ?_
  change WX _ _ _ _ _ _ 0 [some (.ref (A 0 0)), some (.int s), some (.int mt), some (.int (b2i is)), none, none] [] _ 0 0
  refine wp_load (pc' := 1) (j := 0) dX8_block_0 rfl rfl rfl ?_
  refine wp_load (pc' := 2) (j := 1) dX8_block_1 rfl rfl rfl ?_
  refine wp_v1 1 6 dX8_block_2 ml_X8_49 hK.1 (Nat.le_of_ble_eq_true rfl) (by omega) (by omega) ?_
  refine c_streetOf hH (by omega) (by omega) (fun h2 => kt_x rfl (hX _ (ex1 (by simp only [mcode, K_block, e7, e22, e29, e35, e40, if_true, h2, Bool.false_eq_true, decide_true, decide_false, Bool.not_true, Bool.not_false, Bool.and_true, Bool.true_and, Bool.and_false, Bool.false_and, Bool.or_true, Bool.true_or, Bool.or_false, Bool.false_or, if_true, if_false, ite_true, ite_false])))) (fun s2 hs2 es2 h2 => ?_)
  obtain rfl := es2
  have ix2 : ix (nI s2) = s2 := ix_nI (by omega)
  refine kt_v ?_
  refine wp_store (pc' := 7) (j := 4) (ls' := [_, _, _, _, _, _]) dX8_block_5 rfl (Nat.le_of_ble_eq_true rfl) rfl rfl ?_
  refine wp_load (pc' := 8) (j := 2) dX8_block_7 rfl rfl rfl ?_
  refine wp_s1 1 6 dX8_block_8 ml_X8_53 (Nat.le_of_ble_eq_true rfl) (by omega) (by omega) ?_
  refine c_needMetre (by omega) (by omega) (fun h8 => kt_x rfl (hX _ (ex1 (by simp only [mcode, K_block, e7, e22, e29, e35, e40, h2, ix2, h8, Bool.false_eq_true, decide_true, decide_false, Bool.not_true, Bool.not_false, Bool.and_true, Bool.true_and, Bool.and_false, Bool.false_and, Bool.or_true, Bool.true_or, Bool.or_false, Bool.false_or, if_true, if_false, ite_true, ite_false])))) (fun h8 => ?_)
  refine kt_u ?_
  have h0 := h8
  obtain ⟨b, hb, rfl⟩ := clt_nI (n := 60) (show inB mt 0 (nI 60 - 1) = true from by rw [show (nI 60 - 1 : Int32) = 59 from by decide]; exact h8) (by decide)
  refine wp_load (pc' := 13) (j := 4) dX8_block_11 rfl rfl rfl ?_
  refine wp_load (pc' := 14) (j := 2) dX8_block_13 rfl rfl rfl ?_
  refine wp_v1 0 0 dX8_block_14 ml_X8_57 (hT s2 hs2).1.1 (Nat.le_of_ble_eq_true rfl) (by omega) (by omega) ?_
  obtain ⟨f, hf1, hf2⟩ := (hT s2 hs2).2
  refine c_isBlocked (hT s2 hs2).1.1 hf1.1 hb (hf2 b hb) ?_
  refine kt_v ?_
  refine wp_store (pc' := 19) (j := 5) (ls' := [_, _, _, _, _, _]) dX8_block_17 rfl (Nat.le_of_ble_eq_true rfl) rfl rfl ?_
  refine wp_load (pc' := 21) (j := 4) dX8_block_19 rfl rfl rfl ?_
  refine wp_load (pc' := 22) (j := 2) dX8_block_21 rfl rfl rfl ?_
  refine wp_load (pc' := 23) (j := 3) dX8_block_22 rfl rfl rfl ?_
  refine wp_v2 0 0 dX8_block_23 ml_X8_61 (hT s2 hs2).1.1 (Nat.le_of_ble_eq_true rfl) (by omega) (by omega) ?_
  refine c_setBlocked (hT s2 hs2).1.1 hf1.1 hb ?_
  refine kt_u ?_
  refine wp_load (pc' := 28) (j := 5) dX8_block_26 rfl rfl rfl ?_
  refine wp_iret dX8_block_28 rfl nar_b2i ?_
  refine hT2 (by simp only [mcode, K_block, h2, ix2, h8, Bool.false_eq_true, decide_true, decide_false, Bool.not_true, Bool.not_false, Bool.and_true, Bool.true_and, Bool.and_false, Bool.false_and, Bool.or_true, Bool.true_or, Bool.or_false, Bool.false_or, if_true, if_false, ite_true, ite_false]) _ _ hs2 hb rfl rfl _ ?_
  refine w_fr (C := CW E own A F (mbr (zz σ) 1 (60 * s2 + b) is) N G) (x := A 11 s2) (G := G) (fun q hq => by simp only [hu_n hq]) (fun kq => ?_)
  have kp := kp_putF hf1.1 rfl kq
  have fr := fr0_putF hf1.2 kq
  exact ⟨⟨on_fr hON fr, hN, kK hK kp rfl, kL hL kp rfl rfl, hD, (fun a ha => by
      rw [taken_c (σ := σ) (σ' := mbr (zz σ) 1 (60 * s2 + b) is) rfl rfl]
      refine ⟨cl_kp (hT a ha).1 kp rfl, ?_⟩
      by_cases e : a = s2
      · subst e
        refine ⟨_, ⟨hu_s, hf1.2⟩, fun i hi => ?_⟩
        by_cases e2 : i = b
        · subst e2
          rw [mbr_s, va_up, if_pos rfl]
        · rw [mbr_n (by omega), va_up, if_neg e2]
          exact hf2 i hi
      · obtain ⟨g, hg1, hg2⟩ := (hT a ha).2
        refine ⟨g, ⟨(kq _ (fun z => e (hD.2.2 a s2 ha hs2 z))).trans hg1.1, hg1.2⟩, fun i hi => ?_⟩
        rw [mbr_n (by omega)]
        exact hg2 i hi), kS hS kp rfl rfl, kWn hW kp rfl, kC hC kp rfl rfl, kPm hPm kp rfl, kY hY kp rfl, kF hF kp rfl rfl⟩, fr⟩

theorem w_F {E : XE} {own : Nat → Nat} {A : Nat → Nat → Nat} {F : Nat → Int32} {σ σ' : MS} {N : Nat → Nat} {G G' : HP} (hH : CH E own A F σ N G) {j : Nat} (hj : j < N 5) (h1 : G' (A 8 j) = some (hO 2 [.ref (A 13 j), .int (σ.2.1 46 j), .int (σ.2.1 47 j), .int (b2i (σ'.2.2 49 j)), .int (b2i (σ'.2.2 50 j)), .int (b2i (σ'.2.2 51 j))])) (kq : ∀ q, q ≠ A 8 j → G' q = G q) {x : Int32} (e1 : σ'.1 = va_up σ.1 56 x) (e2 : σ'.2.1 = σ.2.1) (eb : ∀ k, k < 49 → σ'.2.2 k = σ.2.2 k) (en : ∀ k i, i ≠ j → σ'.2.2 k i = σ.2.2 k i) : CW E own A F σ' N G G' := by
  obtain ⟨hON, hN, hK, hL, hD, hT, hS, hW, hC, hPm, hY, hF⟩ := id hH
  obtain ⟨n0, n1, n2, n3, n4, n5, e7, e22, e29, e35, e40⟩ := id hN
  obtain ⟨s1, s2, s3⟩ := σ'
  simp only at e1 e2 eb en h1
  subst e1
  subst e2
  have kp := kp_putF (hF j hj).1.1 rfl kq
  have fr := fr0_putF (hF j hj).1.2 kq
  refine ⟨⟨on_fr hON fr, hN, kK hK kp rfl, kL hL kp rfl rfl, hD, kT hT kp rfl rfl rfl rfl rfl rfl rfl rfl (eb 1 (by decide)), ?_, kWn hW kp rfl, kC hC kp rfl rfl, kPm hPm kp rfl, kY hY kp rfl, ?_⟩, fr⟩
  · intro i hi
    have z := kS hS kp rfl rfl i hi
    rw [← eb 13 (by decide), ← eb 14 (by decide)] at z
    exact z
  · intro i hi
    by_cases e : i = j
    · subst e
      exact ⟨⟨h1, (hF i hi).1.2⟩, (hF i hi).2.imp (fun _ z => cl_kp z kp rfl)⟩
    · refine ⟨⟨(kq _ (fun z => e (hD.2.1 5 (by decide) i j hi hj z))).trans ((hF i hi).1.1.trans ?_), (hF i hi).1.2⟩, (hF i hi).2.imp (fun _ z => cl_kp z kp rfl)⟩
      show _ = some (hO 2 [_, _, _, .int (b2i (s3 49 i)), .int (b2i (s3 50 i)), .int (b2i (s3 51 i))])
      rw [en 49 i e, en 50 i e, en 51 i e]
set_option maxRecDepth 20000 in
set_option maxHeartbeats 2000000 in
theorem q_payFine {E : XE} {d mc ms : Nat} {P : Ps} {G : HP} {own : Nat → Nat} {A : Nat → Nat → Nat} {F : Nat → Int32} {σ : MS} {N : Nat → Nat} (hH : CH E own A F σ N G) {T : Nat} (hI : PI σ N T) {f : Int32} (hmc : 10 ≤ mc) (hms : 1000 ≤ ms) (hX : ∀ X, exQ (K_payFine σ f) X → P (.inr X) G) (hT2 : K_payFine σ f = 0 → ∀ j, j < N 5 → f = nI j → ∀ G', CW E own A F (mbr (zz σ) 51 j true) N G G' → P (.inl (some (.int (amoF σ j)))) G') : Sp E (d + 11) yX8_payFine mc ms [.ref (A 0 0), .int f] G P := by
  obtain ⟨hON, hN, hK, hL, hD, hT, hS, hW, hC, hPm, hY, hF⟩ := id hH
  obtain ⟨n0, n1, n2, n3, n4, n5, e7, e22, e29, e35, e40⟩ := id hN
  refine sp_intro bd_X8_payFine (v1_all rfl) (Nat.le_of_ble_eq_true rfl) ?_
  change WX _ _ _ _ _ _ 0 [some (.ref (A 0 0)), some (.int f), none] [] _ 0 0
  refine wp_load (pc' := 1) (j := 0) dX8_payFine_0 rfl rfl rfl ?_
  refine wp_load (pc' := 2) (j := 1) dX8_payFine_1 rfl rfl rfl ?_
  refine wp_v1 1 6 dX8_payFine_2 ml_X8_233 hK.1 (Nat.le_of_ble_eq_true rfl) (by omega) (by omega) ?_
  refine c_fineOf hH (by omega) (by omega) (fun h2 => kt_x rfl (hX _ (exQ1 (by simp only [mcode, K_payFine, e7, e22, e29, e35, e40, if_true, h2, Bool.false_eq_true, decide_true, decide_false, Bool.not_true, Bool.not_false, Bool.and_true, Bool.true_and, Bool.and_false, Bool.false_and, Bool.or_true, Bool.true_or, Bool.or_false, Bool.false_or, if_true, if_false, ite_true, ite_false])))) (fun s2 hs2 es2 h2 => ?_)
  obtain rfl := es2
  have ix2 : ix (nI s2) = s2 := ix_nI (by omega)
  refine kt_v ?_
  refine wp_store (pc' := 6) (j := 2) (ls' := [_, _, _]) dX8_payFine_5 rfl (Nat.le_of_ble_eq_true rfl) rfl rfl ?_
  refine wp_load (pc' := 7) (j := 2) dX8_payFine_6 rfl rfl rfl ?_
  refine wp_v0 0 0 dX8_payFine_7 ml_X8_256 (hF s2 hs2).1.1 (Nat.le_of_ble_eq_true rfl) (by omega) (by omega) ?_
  refine c_isOpen (hF s2 hs2).1.1 ?_
  refine kt_v ?_
  refine wp_s1 1 6 dX8_payFine_10 ml_X8_92 (Nat.le_of_ble_eq_true rfl) (by omega) (by omega) ?_
  refine c_needStateB (by omega) (by omega) (fun h10 => kt_x rfl (hX _ (exQ3 (by simp only [mcode, K_payFine, e7, e22, e29, e35, e40, h2, ix2, h10, Bool.false_eq_true, decide_true, decide_false, Bool.not_true, Bool.not_false, Bool.and_true, Bool.true_and, Bool.and_false, Bool.false_and, Bool.or_true, Bool.true_or, Bool.or_false, Bool.false_or, if_true, if_false, ite_true, ite_false])))) (fun h10 => ?_)
  refine kt_u ?_
  refine wp_load (pc' := 14) (j := 2) dX8_payFine_13 rfl rfl rfl ?_
  refine wp_iconst (pc' := 15) (1) dX8_payFine_14 rfl rfl ?_
  refine wp_put (pc' := 18) (fs' := [_, _, _, _, _, _]) dX8_payFine_15 fl_X8_243 (hF s2 hs2).1.1 (Nat.le_of_ble_eq_true rfl) rfl rfl rfl rfl ?_
  refine wp_load (pc' := 19) (j := 2) dX8_payFine_18 rfl rfl rfl ?_
  refine wp_v0 0 0 dX8_payFine_19 ml_X8_260 hu_s (Nat.le_of_ble_eq_true rfl) (by omega) (by omega) ?_
  obtain ⟨-, -, -, -, hI5, -⟩ := id hI
  obtain ⟨c, a, m, p, hc, e41, -, -, -, -, -, -, h47, -⟩ := hI5 s2 hs2
  refine c_amount (pa := true) h47 hu_s ?_
  refine kt_v ?_
  refine wp_iret dX8_payFine_22 rfl rfl ?_
  refine hT2 (by simp only [mcode, K_payFine, h2, ix2, h10, Bool.false_eq_true, decide_true, decide_false, Bool.not_true, Bool.not_false, Bool.and_true, Bool.true_and, Bool.and_false, Bool.false_and, Bool.or_true, Bool.true_or, Bool.or_false, Bool.false_or, if_true, if_false, ite_true, ite_false]) _ hs2 rfl _ ?_
  exact w_F hH hs2 (hu_s.trans (by rw [mbr_s]; rfl)) (fun q hq => hu_n hq) (x := 0) rfl rfl (fun k hk => mbr_k (by omega)) (fun k i hi => mbr_o hi)

theorem jf_eq {σ : MS} {N : Nat → Nat} {f c a m L q : Nat} (hN : cN σ N) (e41 : σ.2.1 41 f = nI c) (hc : c < N 2) (e42 : σ.2.1 42 f = nI a) (e43 : σ.2.1 43 f = nI m) (el : σ.2.1 23 c = nI L) (hL : L ≤ 60) (e46 : σ.2.1 46 f = nI q) : judFine σ f = judF σ c L (N 1) (N 3) (N 4) (nI a) (nI m) (σ.2.1 44 f) (nI q) := by
  obtain ⟨n0, n1, n2, n3, n4, n5, e7, e22, e29, e35, e40⟩ := hN
  unfold judFine
  rw [e41, ix_nI (by omega), el, e42, e43, e46, e7, e29, e35, ix_nI (by omega), ix_nI (by omega), ix_nI (by omega), ix_nI (by omega)]
