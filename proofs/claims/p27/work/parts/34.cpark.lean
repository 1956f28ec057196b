/-! the class: park -/
def aSt (A : Nat → Nat → Nat) (i b : Nat) : Nat → Nat → Nat := fun r => if r = 12 then va_up (A 12) i b else A r
theorem aSt_r {A : Nat → Nat → Nat} {i b r : Nat} (h : r < 12) : aSt A i b r = A r := if_neg (by omega)
theorem cL_row {E : XE} {own : Nat → Nat} {A A' : Nat → Nat → Nat} {N : Nat → Nat} {G : HP} (h : ∀ r, r < 9 → A' r = A r) (hL : cL E own A N G) : cL E own A' N G := fun k hk => by
  rw [h 1 (by omega), h 2 (by omega), h (3 + k) (by omega)]
  exact hL k hk
theorem cD_row {A A' : Nat → Nat → Nat} {N : Nat → Nat} (h : ∀ r, r < 9 → A' r = A r) (h11 : A' 11 = A 11) (hD : cD A N) : cD A' N := by
  obtain ⟨d1, d2, d3⟩ := hD
  refine ⟨?_, fun k hk => ?_, ?_⟩
  · rw [h 1 (by omega), h 2 (by omega)]; exact d1
  · rw [h (3 + k) (by omega)]; exact d2 k hk
  · rw [h11]; exact d3
theorem taken_on {σ τ : MS} {i a b : Nat} (h25 : ∀ j, j ≠ i → τ.2.1 25 j = σ.2.1 25 j) (hi : σ.2.1 25 i = -1) (hb : τ.2.1 25 i = nI b) (hb4 : b < 4) (h23 : τ.2.1 23 = σ.2.1 23) (ha : a < 4) {n : Nat} (hn : i < n) : takenF τ (nI a) n = if a = b then takenF σ (nI a) n + σ.2.1 23 i else takenF σ (nI a) n := by
  have h := taken_off (σ := τ) (τ := σ) (i := i) (a := a) (fun j hj => (h25 j hj).symm) hi h23.symm rfl ha n
  by_cases e : a = b
  · subst e
    rw [if_pos ⟨hn, hb⟩] at h
    rw [if_pos rfl, h, h23, Int32.sub_add_cancel]
  · rw [if_neg (fun z => e ((nI_eq (show a < 2 ^ 31 by omega) (show b < 2 ^ 31 by omega)).1 (z.2.symm.trans hb)))] at h
    rw [if_neg e, h]
set_option maxRecDepth 20000 in
set_option maxHeartbeats 2000000 in
theorem q_park {E : XE} {d mc ms : Nat} {P : Ps} {G : HP} {own : Nat → Nat} {A : Nat → Nat → Nat} {F : Nat → Int32} {σ : MS} {N : Nat → Nat} (hH : CH E own A F σ N G) {T : Nat} (hI : PI σ N T) {i s mt : Int32} (hmc : 10 ≤ mc) (hms : 1000 ≤ ms) (hX : ∀ X, exQ (K_park σ (N 2) i s mt) X → P (.inr X) G) (hT2 : K_park σ (N 2) i s mt = 0 → ∀ j, j < N 2 → i = nI j → ∀ A' G', A' 0 0 = A 0 0 → CW E own A' (va_up F j (-1)) (parkF σ j s mt) N G G' → P (.inl none) G') : Sp E (d + 11) yX8_park mc ms [.ref (A 0 0), .int i, .int s, .int mt] G P := by
  obtain ⟨hON, hN, hK, hL, hD, hT, hS, hW, hC, hPm, hY, hF⟩ := id hH
  obtain ⟨n0, n1, n2, n3, n4, n5, e7, e22, e29, e35, e40⟩ := id hN
  refine sp_intro bd_X8_park (v1_all rfl) (Nat.le_of_ble_eq_true rfl) ?_
  change WX _ _ _ _ _ _ 0 [some (.ref (A 0 0)), some (.int i), some (.int s), some (.int mt), none, none] [] _ 0 0
  refine wp_load (pc' := 1) (j := 0) dX8_park_0 rfl rfl rfl ?_
  refine wp_load (pc' := 2) (j := 1) dX8_park_1 rfl rfl rfl ?_
  refine wp_v1 1 6 dX8_park_2 ml_X8_146 hK.1 (Nat.le_of_ble_eq_true rfl) (by omega) (by omega) ?_
  refine c_carOf hH (by omega) (by omega) (fun h2 => kt_x rfl (hX _ (exQ1 (by simp only [mcode, K_park, e7, e22, e29, e35, e40, if_true, h2, Bool.false_eq_true, decide_true, decide_false, Bool.not_true, Bool.not_false, Bool.and_true, Bool.true_and, Bool.and_false, Bool.false_and, Bool.or_true, Bool.true_or, Bool.or_false, Bool.false_or, if_true, if_false, ite_true, ite_false])))) (fun s2 hs2 es2 h2 => ?_)
  obtain rfl := es2
  have ix2 : ix (nI s2) = s2 := ix_nI (by omega)
  refine kt_v ?_
  refine wp_store (pc' := 7) (j := 4) (ls' := [_, _, _, _, _, _]) dX8_park_5 rfl (Nat.le_of_ble_eq_true rfl) rfl rfl ?_
  refine wp_load (pc' := 8) (j := 0) dX8_park_7 rfl rfl rfl ?_
  refine wp_load (pc' := 9) (j := 2) dX8_park_8 rfl rfl rfl ?_
  refine wp_v1 1 6 dX8_park_9 ml_X8_49 hK.1 (Nat.le_of_ble_eq_true rfl) (by omega) (by omega) ?_
  refine c_streetOf hH (by omega) (by omega) (fun h9 => kt_x rfl (hX _ (exQ1 (by simp only [mcode, K_park, e7, e22, e29, e35, e40, h2, ix2, h9, Bool.false_eq_true, decide_true, decide_false, Bool.not_true, Bool.not_false, Bool.and_true, Bool.true_and, Bool.and_false, Bool.false_and, Bool.or_true, Bool.true_or, Bool.or_false, Bool.false_or, if_true, if_false, ite_true, ite_false])))) (fun s9 hs9 es9 h9 => ?_)
  obtain rfl := es9
  have ix9 : ix (nI s9) = s9 := ix_nI (by omega)
  refine kt_v ?_
  refine wp_store (pc' := 14) (j := 5) (ls' := [_, _, _, _, _, _]) dX8_park_12 rfl (Nat.le_of_ble_eq_true rfl) rfl rfl ?_
  refine wp_load (pc' := 15) (j := 3) dX8_park_14 rfl rfl rfl ?_
  refine wp_s1 1 6 dX8_park_15 ml_X8_53 (Nat.le_of_ble_eq_true rfl) (by omega) (by omega) ?_
  refine c_needMetre (by omega) (by omega) (fun h15 => kt_x rfl (hX _ (exQ1 (by simp only [mcode, K_park, e7, e22, e29, e35, e40, h2, ix2, h9, ix9, h15, Bool.false_eq_true, decide_true, decide_false, Bool.not_true, Bool.not_false, Bool.and_true, Bool.true_and, Bool.and_false, Bool.false_and, Bool.or_true, Bool.true_or, Bool.or_false, Bool.false_or, if_true, if_false, ite_true, ite_false])))) (fun h15 => ?_)
  refine kt_u ?_
  refine wp_load (pc' := 20) (j := 4) dX8_park_18 rfl rfl rfl ?_
  refine wp_get (pc' := 23) dX8_park_20 fl_X8_169 (hC s2 hs2).1.1 rfl rfl ?_
  by_cases hs5 : σ.2.1 25 s2 = -1
  · skip
    rw [show stV A σ s2 = .null from if_pos hs5]
    refine wp_non (pc' := 26) dX8_park_23 rfl ?_
    refine wp_load (pc' := 27) (j := 0) dX8_park_26 rfl rfl rfl ?_
    refine wp_load (pc' := 28) (j := 2) dX8_park_27 rfl rfl rfl ?_
    refine wp_load (pc' := 29) (j := 3) dX8_park_28 rfl rfl rfl ?_
    refine wp_load (pc' := 31) (j := 4) dX8_park_29 rfl rfl rfl ?_
    refine wp_get (pc' := 34) dX8_park_31 fl_X8_173 (hC s2 hs2).1.1 rfl rfl ?_
    refine wp_v3 0 0 dX8_park_34 ml_X8_176 hK.1 (Nat.le_of_ble_eq_true rfl) (by omega) (by omega) ?_
    refine c_isGap hH hs9 ?_
    refine kt_v ?_
    refine wp_ifeqB (pc' := 40) 44 dX8_park_37 rfl rfl (fun h37 => ?_) (fun h37 => ?_)
    · skip
      refine wp_iconst (pc' := 45) (0) dX8_park_44 rfl rfl ?_
      refine wp_s1 1 6 dX8_park_45 ml_X8_92 (Nat.le_of_ble_eq_true rfl) (by omega) (by omega) ?_
      refine c_needState0 (by omega) (by omega) (kt_x rfl ?_)
      exact hX _ (exQ3 (by simp only [mcode, K_park, e7, e22, e29, e35, e40, h2, ix2, h9, ix9, h15, hs5, h37, Bool.false_eq_true, decide_true, decide_false, Bool.not_true, Bool.not_false, Bool.and_true, Bool.true_and, Bool.and_false, Bool.false_and, Bool.or_true, Bool.true_or, Bool.or_false, Bool.false_or, if_true, if_false, ite_true, ite_false]))
    · skip
      refine wp_iconst (pc' := 41) (1) dX8_park_40 rfl rfl ?_
      refine wp_goto 45 dX8_park_41 rfl ?_
      refine wp_s1 1 6 dX8_park_45 ml_X8_92 (Nat.le_of_ble_eq_true rfl) (by omega) (by omega) ?_
      refine c_needState1 ?_
      refine kt_u ?_
      refine wp_load (pc' := 50) (j := 4) dX8_park_48 rfl rfl rfl ?_
      refine wp_newL (pc' := 53) 5 dX8_park_50 nw_X8_179 rfl (by omega) (by omega) rfl (fun b hb => ?_)
      have kp0 : Kp (fun _ => false) G (hu G b (hO 6 [.null, .int 0, .int 0, .int 0, .int 0])) := kp_new hb
      refine wp_dup (pc' := 54) dX8_park_53 rfl rfl ?_
      refine wp_load (pc' := 56) (j := 4) dX8_park_54 rfl rfl rfl ?_
      refine wp_load (pc' := 57) (j := 2) dX8_park_56 rfl rfl rfl ?_
      refine wp_load (pc' := 58) (j := 3) dX8_park_57 rfl rfl rfl ?_
      refine wp_load (pc' := 59) (j := 0) dX8_park_58 rfl rfl rfl ?_
      refine wp_get (pc' := 62) dX8_park_59 fl_X8_38 (kp0 _ _ hK.1 rfl) rfl rfl ?_
      refine wp_i4 0 0 dX8_park_62 ml_X8_181 (Nat.le_of_ble_eq_true rfl) (by omega) (by omega) ?_
      refine c_stI hu_s (fun G2 hb2 hk2 => ?_)
      refine kt_u ?_
      have kp2 : Kp (fun _ => false) G G2 := kp_newF hb (fun q hq => (hk2 q hq).trans (hu_n hq))
      have fr2 : Fr0 own G G2 := fr0_putF (own_new hON hb) (fun q hq => (hk2 q hq).trans (hu_n hq))
      refine wp_put (pc' := 68) (fs' := [_, _, _, _]) dX8_park_65 fl_X8_169 (kp2 _ _ (hC s2 hs2).1.1 rfl) (Nat.le_of_ble_eq_true rfl) rfl rfl rfl rfl ?_
      refine wp_load (pc' := 70) (j := 5) dX8_park_68 rfl rfl rfl ?_
      refine wp_dup (pc' := 71) dX8_park_70 rfl rfl ?_
      refine wp_get (pc' := 74) dX8_park_71 fl_X8_184 ((hu_n (ne_kd (kp2 _ _ (hT s9 hs9).1.1 rfl) (kp2 _ _ (hC s2 hs2).1.1 rfl) (Nat.ne_of_beq_eq_false rfl))).trans (kp2 _ _ (hT s9 hs9).1.1 rfl)) rfl rfl ?_
      refine wp_load (pc' := 76) (j := 4) dX8_park_74 rfl rfl rfl ?_
      refine wp_get (pc' := 79) dX8_park_76 fl_X8_173 hu_s rfl rfl ?_
      refine wp_pure (pc' := 80) dX8_park_79 rfl rfl ?_
      refine wp_put (pc' := 83) (fs' := [_, _, _, _, _, _]) dX8_park_80 fl_X8_184 ((hu_n (ne_kd (kp2 _ _ (hT s9 hs9).1.1 rfl) (kp2 _ _ (hC s2 hs2).1.1 rfl) (Nat.ne_of_beq_eq_false rfl))).trans (kp2 _ _ (hT s9 hs9).1.1 rfl)) (Nat.le_of_ble_eq_true rfl) rfl rfl rfl rfl ?_
      refine wp_vret dX8_park_83 rfl ?_
      have hc2 := kp2 _ _ (hC s2 hs2).1.1 rfl
      have hc3 := (hu_n (e := hO 1 [.int (nI s2), .int (σ.2.1 23 s2), .int (σ.2.1 24 s2), .ref b]) (ne_kd (kp2 _ _ (hT s9 hs9).1.1 rfl) hc2 (Nat.ne_of_beq_eq_false rfl))).trans (kp2 _ _ (hT s9 hs9).1.1 rfl)
      have kp3 := kp_put (e1 := hO 1 [.int (nI s2), .int (σ.2.1 23 s2), .int (σ.2.1 24 s2), .ref b]) hc2 rfl
      have kp4 := kp_put (e1 := hO 7 [.ref (A 11 s9), .int (σ.2.1 52 s9), .int (takenF σ (nI s9) (N 2) + σ.2.1 23 s2), .int (σ.2.1 55 s9), .int (σ.2.1 53 s9), .int (σ.2.1 54 s9)]) hc3 rfl
      have kp := kp_tr kp2 (kp_tr kp3 kp4)
      have fr := fr0_tr fr2 (fr0_tr (fr0_put (e := hO 1 [.int (nI s2), .int (σ.2.1 23 s2), .int (σ.2.1 24 s2), .ref b]) (hC s2 hs2).1.2) (fr0_put (e := hO 7 [.ref (A 11 s9), .int (σ.2.1 52 s9), .int (takenF σ (nI s9) (N 2) + σ.2.1 23 s2), .int (σ.2.1 55 s9), .int (σ.2.1 53 s9), .int (σ.2.1 54 s9)]) (hT s9 hs9).1.2))
      have hbo := own_new hON hb
      refine hT2 (by simp only [mcode, K_park, h2, ix2, h9, ix9, h15, hs5, h37, Bool.false_eq_true, decide_true, decide_false, Bool.not_true, Bool.not_false, Bool.and_true, Bool.true_and, Bool.and_false, Bool.false_and, Bool.or_true, Bool.true_or, Bool.or_false, Bool.false_or, if_true, if_false, ite_true, ite_false]) _ hs2 rfl (aSt A s2 b) _ rfl ⟨⟨on_fr hON fr, hN, kK hK kp rfl, cL_row (fun r hr => aSt_r (by omega)) (kL hL kp rfl rfl), cD_row (fun r hr => aSt_r (by omega)) rfl hD, ?_, kS hS kp rfl rfl, kWn hW kp rfl, ?_, kPm hPm kp rfl, kY hY kp rfl, kF hF kp rfl rfl⟩, fr⟩
      · intro a ha
        refine ⟨?_, (hT a ha).2.imp (fun _ z => ⟨cl_kp z.1 kp rfl, z.2⟩)⟩
        have et := taken_on (σ := σ) (τ := parkF σ s2 (nI s9) mt) (i := s2) (a := a) (b := s9) (fun j hj => up_n hj) hs5 up_s hs9 rfl ha hs2
        show Cl own _ (A 3 a) (hO 7 [_, _, .int (takenF (parkF σ s2 (nI s9) mt) (nI a) (N 2)), _, _, _])
        rw [et]
        by_cases e : a = s9
        · subst e
          rw [if_pos rfl]
          exact ⟨hu_s, (hT a ha).1.2⟩
        · rw [if_neg e]
          exact ⟨(hu_n (fun z => e (hD.2.1 0 (by decide) a s9 (by omega) (by omega) z))).trans (kp3 _ _ (kp2 _ _ (hT a ha).1.1 rfl) rfl), (hT a ha).1.2⟩
      · intro i hi
        show Cl own _ (A 5 i) (hO 1 [.int (nI i), .int (σ.2.1 23 i), .int (σ.2.1 24 i), if va_up (σ.2.1 25) s2 (nI s9) i = -1 then .null else .ref (va_up (A 12) s2 b i)]) ∧ (¬ va_up (σ.2.1 25) s2 (nI s9) i = -1 → Cl own _ (va_up (A 12) s2 b i) (hO 6 [.ref (A 5 i), .int (va_up (σ.2.1 25) s2 (nI s9) i), .int (va_up (σ.2.1 26) s2 mt i), .int (va_up (σ.2.1 27) s2 (σ.1 0) i), .int (va_up F s2 (-1) i)]))
        by_cases e : i = s2
        · simp only [e, up_s, if_neg (nI_nm1 (show s9 < 2 ^ 31 by omega))]
          exact ⟨⟨kp4 _ _ hu_s rfl, (hC s2 hs2).1.2⟩, fun _ => ⟨kp4 _ _ (kp3 _ _ hb2 rfl) rfl, hbo⟩⟩
        · simp only [up_n e]
          exact ⟨⟨kp4 _ _ ((hu_n (fun z => e (hD.2.1 2 (by decide) i s2 hi hs2 z))).trans (kp2 _ _ (hC i hi).1.1 rfl)) rfl, (hC i hi).1.2⟩, fun z => cl_kp ((hC i hi).2 z) kp rfl⟩
  · skip
    rw [show stV A σ s2 = .ref (A 12 s2) from if_neg hs5]
    obtain ⟨-, -, hI3, -⟩ := id hI
    obtain ⟨-, h25⟩ := hI3 s2 hs2
    obtain ⟨a, m, ha, ea, -⟩ := h25 hs5
    refine wp_nonR 44 dX8_park_23 rfl ?_
    refine wp_iconst (pc' := 45) (0) dX8_park_44 rfl rfl ?_
    refine wp_s1 1 6 dX8_park_45 ml_X8_92 (Nat.le_of_ble_eq_true rfl) (by omega) (by omega) ?_
    refine c_needState0 (by omega) (by omega) (kt_x rfl ?_)
    exact hX _ (exQ3 (by simp only [mcode, K_park, e7, e22, e29, e35, e40, h2, ix2, h9, ix9, h15, hs5, Bool.false_eq_true, decide_true, decide_false, Bool.not_true, Bool.not_false, Bool.and_true, Bool.true_and, Bool.and_false, Bool.false_and, Bool.or_true, Bool.true_or, Bool.or_false, Bool.false_or, if_true, if_false, ite_true, ite_false]))

