/-! the class: pass -/
theorem inv_quar {σ : MS} {F : Nat → Int32} {N : Nat → Nat} {T t : Nat} (h : INV σ F N T) (et : σ.1 0 = nI t) (ht : t + 1 ≤ 49999) : INV (quarF σ (N 2)) F N T := by
  obtain ⟨⟨⟨t', ht', et', p1, p2⟩, p3, p4, p5, p6, p7⟩, hR, hO, hT⟩ := h
  obtain rfl : t' = t := (nI_eq (show t' < 2 ^ 31 by omega) (show t < 2 ^ 31 by omega)).1 (et'.symm.trans et)
  have e0 : (quarF σ (N 2)).1 0 = nI (t' + 1) := by rw [quar_0, et, nI_1]
  have o : ∀ j, j ≠ 55 → j ≠ 52 → (quarF σ (N 2)).2.1 j = σ.2.1 j := fun j h1 h2 => quar_o h1 h2
  have ob : (quarF σ (N 2)).2.2 = σ.2.2 := quar_b
  refine ⟨⟨⟨t' + 1, ht, e0, fun i hi => ?_, fun i hi => ?_⟩, fun i hi => ?_, fun i hi => ?_, fun i hi => ?_, fun i hi => ?_, fun a ha => ?_⟩, fun i hi => ?_, fun i hi hs => ?_, hT⟩
  · rw [o 20 (by decide) (by decide)]
    obtain ⟨u, hu, e⟩ := p1 i hi
    exact ⟨u, by omega, e⟩
  · rw [o 46 (by decide) (by decide)]
    obtain ⟨u, hu, e⟩ := p2 i hi
    exact ⟨u, by omega, e⟩
  · rw [o 21 (by decide) (by decide)]; exact p3 i hi
  · rw [o 23 (by decide) (by decide), o 25 (by decide) (by decide), o 26 (by decide) (by decide)]; exact p4 i hi
  · rw [o 28 (by decide) (by decide)]; exact p5 i hi
  · rw [o 41 (by decide) (by decide), o 42 (by decide) (by decide), o 43 (by decide) (by decide), o 45 (by decide) (by decide), o 47 (by decide) (by decide), ob, o 23 (by decide) (by decide), o 28 (by decide) (by decide)]; exact p6 i hi
  · rw [quar_52 ha]
    obtain ⟨p, hp, ep⟩ := p7 a ha
    split
    · rw [ep]; exact pr2_le hp
    · exact ⟨p, hp, ep⟩
  · rw [ob]; exact hR i hi
  · rw [o 25 (by decide) (by decide)] at hs
    rw [o 41 (by decide) (by decide), o 45 (by decide) (by decide), o 46 (by decide) (by decide), o 28 (by decide) (by decide)]
    exact hO i hi hs
theorem inv_pass {σ : MS} {F : Nat → Int32} {N : Nat → Nat} {T t : Nat} (h : INV σ F N T) (et : σ.1 0 = nI t) : ∀ k, t + k ≤ 49999 → INV (passF σ (N 2) k) F N T ∧ (passF σ (N 2) k).1 0 = nI (t + k)
  | 0, _ => ⟨h, et⟩
  | k + 1, hk => by
    obtain ⟨h1, h2⟩ := inv_pass h et k (by omega)
    refine ⟨inv_quar h1 h2 (by omega), ?_⟩
    show (quarF (passF σ (N 2) k) (N 2)).1 0 = _
    rw [quar_0, h2, nI_1, Nat.add_assoc]
set_option maxRecDepth 20000 in
set_option maxHeartbeats 2000000 in
theorem c_passQ {E : XE} {d mc ms : Nat} {P : Ps} {G : HP} {own : Nat → Nat} {A : Nat → Nat → Nat} {F : Nat → Int32} {σ : MS} {N : Nat → Nat} (hH : CH E own A F σ N G) {T : Nat} (hI : PI σ N T) (hP : ∀ G', CW E own A F (quarF σ (N 2)) N G G' → P (.inl none) G') : Sp E (d + 5) yX8_passQuarter mc ms [.ref (A 0 0)] G P := by
  obtain ⟨hON, hN, hK, hL, hD, hT, hS, hW, hC, hPm, hY, hF⟩ := id hH
  obtain ⟨n0, n1, n2, n3, n4, n5, e7, e22, e29, e35, e40⟩ := id hN
  refine sp_intro bd_X8_passQuarter (v1_all rfl) (Nat.le_of_ble_eq_true rfl) ?_
  change WX _ _ _ _ _ _ 0 [some (.ref (A 0 0)), none, none, none] [] _ 0 0
  refine wp_load (pc' := 1) (j := 0) dX8_passQuarter_0 rfl rfl rfl ?_
  refine wp_dup (pc' := 2) dX8_passQuarter_1 rfl rfl ?_
  refine wp_get (pc' := 5) dX8_passQuarter_2 fl_X8_38 hK.1 rfl rfl ?_
  refine wp_iconst (pc' := 6) (1) dX8_passQuarter_5 rfl rfl ?_
  refine wp_pure (pc' := 7) dX8_passQuarter_6 rfl rfl ?_
  refine wp_put (pc' := 10) (fs' := [_, _, _, _, _, _, _, _]) dX8_passQuarter_7 fl_X8_38 hK.1 (Nat.le_of_ble_eq_true rfl) rfl rfl rfl rfl ?_
  refine wp_load (pc' := 11) (j := 0) dX8_passQuarter_10 rfl rfl rfl ?_
  refine wp_get (pc' := 14) dX8_passQuarter_11 fl_X8_38 hu_s rfl rfl ?_
  refine wp_bipush (pc' := 16) (96) dX8_passQuarter_14 rfl rfl ?_
  refine wp_rem (pc' := 17) dX8_passQuarter_16 (by decide) rfl ?_
  refine wp_if_ne (pc' := 20) 24 dX8_passQuarter_17 rfl rfl (fun h17 => ?_) (fun h17 => ?_)
  · skip
    refine wp_iconst (pc' := 25) (0) dX8_passQuarter_24 rfl rfl ?_
    refine wp_store (pc' := 26) (j := 1) (ls' := [_, _, _, _]) dX8_passQuarter_25 rfl (Nat.le_of_ble_eq_true rfl) rfl rfl ?_
    refine wp_iconst (pc' := 27) (0) dX8_passQuarter_26 rfl rfl ?_
    refine wp_store (pc' := 28) (j := 2) (ls' := [_, _, _, _]) dX8_passQuarter_27 rfl (Nat.le_of_ble_eq_true rfl) rfl rfl ?_
    have kp0 : Kp (fun t => t == 9 || t == 7) G (hu G (A 0 0) (hO 9 [.ref (A 1 0), .ref (A 1 1), .ref (A 1 2), .ref (A 1 3), .ref (A 1 4), .ref (A 1 5), .ref (A 10 0), .int (σ.1 0 + 1)])) := kp_w (kp_put hK.1 rfl) (fun t ht => by rw [Bool.or_eq_false_iff] at ht; exact ht.1)
    have hQ : QS own A σ N G 0 (hu G (A 0 0) (hO 9 [.ref (A 1 0), .ref (A 1 1), .ref (A 1 2), .ref (A 1 3), .ref (A 1 4), .ref (A 1 5), .ref (A 10 0), .int (σ.1 0 + 1)])) := ⟨hu_s, kp0, fr0_put hK.2, fun a ha => by rw [if_neg (Nat.not_lt_zero _), if_neg (Nat.not_lt_zero _)]; exact (hu_n (ne_kd (hT a ha).1.1 hK.1 (Nat.ne_of_beq_eq_false rfl))).trans (hT a ha).1.1⟩
    first
    | exact l_pq (nd := true) rfl hH hI (decide_eq_true (show rem (σ.1 0 + 1) 96 = 0 from h17)).symm hP 4 0 (by omega) none _ hQ
    | exact l_pq (nd := false) rfl hH hI (decide_eq_false (show ¬ rem (σ.1 0 + 1) 96 = 0 from h17)).symm hP 4 0 (by omega) none _ hQ
  · skip
    refine wp_iconst (pc' := 21) (1) dX8_passQuarter_20 rfl rfl ?_
    refine wp_goto 25 dX8_passQuarter_21 rfl ?_
    refine wp_store (pc' := 26) (j := 1) (ls' := [_, _, _, _]) dX8_passQuarter_25 rfl (Nat.le_of_ble_eq_true rfl) rfl rfl ?_
    refine wp_iconst (pc' := 27) (0) dX8_passQuarter_26 rfl rfl ?_
    refine wp_store (pc' := 28) (j := 2) (ls' := [_, _, _, _]) dX8_passQuarter_27 rfl (Nat.le_of_ble_eq_true rfl) rfl rfl ?_
    have kp0 : Kp (fun t => t == 9 || t == 7) G (hu G (A 0 0) (hO 9 [.ref (A 1 0), .ref (A 1 1), .ref (A 1 2), .ref (A 1 3), .ref (A 1 4), .ref (A 1 5), .ref (A 10 0), .int (σ.1 0 + 1)])) := kp_w (kp_put hK.1 rfl) (fun t ht => by rw [Bool.or_eq_false_iff] at ht; exact ht.1)
    have hQ : QS own A σ N G 0 (hu G (A 0 0) (hO 9 [.ref (A 1 0), .ref (A 1 1), .ref (A 1 2), .ref (A 1 3), .ref (A 1 4), .ref (A 1 5), .ref (A 10 0), .int (σ.1 0 + 1)])) := ⟨hu_s, kp0, fr0_put hK.2, fun a ha => by rw [if_neg (Nat.not_lt_zero _), if_neg (Nat.not_lt_zero _)]; exact (hu_n (ne_kd (hT a ha).1.1 hK.1 (Nat.ne_of_beq_eq_false rfl))).trans (hT a ha).1.1⟩
    first
    | exact l_pq (nd := true) rfl hH hI (decide_eq_true (show rem (σ.1 0 + 1) 96 = 0 from h17)).symm hP 4 0 (by omega) none _ hQ
    | exact l_pq (nd := false) rfl hH hI (decide_eq_false (show ¬ rem (σ.1 0 + 1) 96 = 0 from h17)).symm hP 4 0 (by omega) none _ hQ

set_option maxRecDepth 20000 in
set_option maxHeartbeats 2000000 in
theorem l_cpass {E : XE} {d0 d mc ms : Nat} {P : Ps} {G0 : HP} {own : Nat → Nat} {A : Nat → Nat → Nat} {F : Nat → Int32} {σ : MS} {N : Nat → Nat} {T t qn kc kn : Nat} (hd : d = d0 + 5) (hV : INV σ F N T) (et : σ.1 0 = nI t) (htq : t + qn ≤ 49999) (hkc : kc ≤ mc) (hkn : kn ≤ ms) (hP : ∀ G', CW E own A F (passF σ (N 2) qn) N G0 G' → P (.inl (some (.int ((passF σ (N 2) qn).1 0)))) G') : ∀ j k, k + j = qn → ∀ (G : HP), ∀ (hW : CW E own A F (passF σ (N 2) k) N G0 G), WX E d (yX8_pass, cX8_pass, (some .int), []) mc ms P 31 [some (.ref (A 0 0)), some (.int (nI qn)), some (.int (nI k))] [] G kc kn
  | 0, k, hk, G, hW => by
    subst hd
    have hK := hW.1.2.2.1
    refine wp_load (pc' := 32) (j := 2) dX8_pass_31 rfl rfl rfl ?_
    refine wp_load (pc' := 33) (j := 1) dX8_pass_32 rfl rfl rfl ?_
    refine wp_icmpT 46 dX8_pass_33 rfl (cgeT (n := qn) rfl (by omega) (by omega)) ?_
    refine wp_load (pc' := 47) (j := 0) dX8_pass_46 rfl rfl rfl ?_
    refine wp_get (pc' := 50) dX8_pass_47 fl_X8_38 hK.1 rfl rfl ?_
    refine wp_iret dX8_pass_50 rfl rfl ?_
    obtain rfl : k = qn := by omega
    exact hP _ hW
  | j + 1, k, hk, G, hW => by
    have ih := l_cpass (E := E) (d := d) (mc := mc) (ms := ms) (kc := kc) (kn := kn) hd hV et htq hkc hkn hP j (k + 1) (by omega)
    subst hd
    have hK := hW.1.2.2.1
    refine wp_load (pc' := 32) (j := 2) dX8_pass_31 rfl rfl rfl ?_
    refine wp_load (pc' := 33) (j := 1) dX8_pass_32 rfl rfl rfl ?_
    refine wp_icmpF (pc' := 36) 46 dX8_pass_33 rfl rfl (cgeF (n := qn) rfl (by omega) (by omega)) ?_
    refine wp_load (pc' := 37) (j := 0) dX8_pass_36 rfl rfl rfl ?_
    refine wp_v0 0 0 dX8_pass_37 ml_X8_282 hK.1 (Nat.le_of_ble_eq_true rfl) (by omega) (by omega) ?_
    refine c_passQ hW.1 (inv_pass hV et k (by omega)).1.1 (fun G2 hW2 => ?_)
    refine kt_u ?_
    refine wp_iinc (pc' := 43) (j := 2) (ls' := [_, _, _]) (nI (k + 1)) dX8_pass_40 rfl (nI_1 k) rfl rfl ?_
    refine wp_goto 31 dX8_pass_43 rfl ?_
    exact ih _ ⟨hW2.1, fr0_tr hW.2 hW2.2⟩

set_option maxRecDepth 20000 in
set_option maxHeartbeats 2000000 in
theorem q_pass {E : XE} {d mc ms : Nat} {P : Ps} {G : HP} {own : Nat → Nat} {A : Nat → Nat → Nat} {F : Nat → Int32} {σ : MS} {N : Nat → Nat} (hH : CH E own A F σ N G) {T : Nat} (hV : INV σ F N T) {q : Int32} (hmc : 10 ≤ mc) (hms : 1000 ≤ ms) (hX : ∀ X, exP (K_pass σ q) X → P (.inr X) G) (hT2 : K_pass σ q = 0 → ∀ j, j ≤ 96 → q = nI j → ∀ G', CW E own A F (passF σ (N 2) j) N G G' → INV (passF σ (N 2) j) F N T → P (.inl (some (.int ((passF σ (N 2) j).1 0)))) G') : Sp E (d + 11) yX8_pass mc ms [.ref (A 0 0), .int q] G P := by
  obtain ⟨hON, hN, hK, hL, hD, hT, hS, hW, hC, hPm, hY, hF⟩ := id hH
  obtain ⟨n0, n1, n2, n3, n4, n5, e7, e22, e29, e35, e40⟩ := id hN
  obtain ⟨⟨⟨t, ht, et, -⟩, -⟩, -⟩ := id hV
  refine sp_intro bd_X8_pass (v1_all rfl) (Nat.le_of_ble_eq_true rfl) ?_
  change WX _ _ _ _ _ _ 0 [some (.ref (A 0 0)), some (.int q), none] [] _ 0 0
  refine wp_load (pc' := 1) (j := 1) dX8_pass_0 rfl rfl rfl ?_
  refine wp_iconst (pc' := 2) (1) dX8_pass_1 rfl rfl ?_
  refine wp_bipush (pc' := 4) (96) dX8_pass_2 rfl rfl ?_
  refine wp_s3 0 0 dX8_pass_4 ml_X8_65 (Nat.le_of_ble_eq_true rfl) (by omega) (by omega) ?_
  refine c_isIn _ _ _ ?_
  refine kt_v ?_
  refine wp_s1 1 6 dX8_pass_7 ml_X8_69 (Nat.le_of_ble_eq_true rfl) (by omega) (by omega) ?_
  refine c_needB (by omega) (by omega) (fun h7 => kt_x rfl (hX _ (exP2 (by simp only [mcode, K_pass, e7, e22, e29, e35, e40, if_true, h7, Bool.false_eq_true, decide_true, decide_false, Bool.not_true, Bool.not_false, Bool.and_true, Bool.true_and, Bool.and_false, Bool.false_and, Bool.or_true, Bool.true_or, Bool.or_false, Bool.false_or, if_true, if_false, ite_true, ite_false])))) (fun h7 => ?_)
  refine kt_u ?_
  refine wp_load (pc' := 11) (j := 0) dX8_pass_10 rfl rfl rfl ?_
  refine wp_get (pc' := 14) dX8_pass_11 fl_X8_38 hK.1 rfl rfl ?_
  refine wp_load (pc' := 15) (j := 1) dX8_pass_14 rfl rfl rfl ?_
  refine wp_pure (pc' := 16) dX8_pass_15 rfl rfl ?_
  refine wp_ldc (pc' := 18) dX8_pass_16 kw_X8_129 rfl ?_
  refine wp_icmp_gt (pc' := 21) 25 dX8_pass_18 rfl rfl (fun h18 => ?_) (fun h18 => ?_)
  · skip
    refine wp_iconst (pc' := 26) (0) dX8_pass_25 rfl rfl ?_
    refine wp_s1 1 6 dX8_pass_26 ml_X8_92 (Nat.le_of_ble_eq_true rfl) (by omega) (by omega) ?_
    refine c_needState0 (by omega) (by omega) (kt_x rfl ?_)
    exact hX _ (exP3 (by simp only [mcode, K_pass, e7, e22, e29, e35, e40, h7, h18, Bool.false_eq_true, decide_true, decide_false, Bool.not_true, Bool.not_false, Bool.and_true, Bool.true_and, Bool.and_false, Bool.false_and, Bool.or_true, Bool.true_or, Bool.or_false, Bool.false_or, if_true, if_false, ite_true, ite_false]))
  · skip
    refine wp_iconst (pc' := 22) (1) dX8_pass_21 rfl rfl ?_
    refine wp_goto 26 dX8_pass_22 rfl ?_
    refine wp_s1 1 6 dX8_pass_26 ml_X8_92 (Nat.le_of_ble_eq_true rfl) (by omega) (by omega) ?_
    refine c_needState1 ?_
    refine kt_u ?_
    refine wp_iconst (pc' := 30) (0) dX8_pass_29 rfl rfl ?_
    refine wp_store (pc' := 31) (j := 2) (ls' := [_, _, _]) dX8_pass_30 rfl (Nat.le_of_ble_eq_true rfl) rfl rfl ?_
    obtain ⟨j, hj, rfl⟩ : ∃ j, j ≤ 96 ∧ q = nI j := by
      obtain ⟨c, -, hc, e⟩ := inB_rng (a := 1) (b := 96) h7 (by decide) (by decide)
      exact ⟨c, hc, e⟩
    have htq : t + j ≤ 49999 := by
      rcases Nat.lt_or_ge 49999 (t + j) with z | z
      · exact absurd (show (49999 : Int32) < σ.1 0 + nI j from by rw [et, nI_add]; exact nI_lt (a := 49999) z (by omega)) h18
      · exact z
    exact l_cpass rfl hV et htq (by omega) (by omega) (fun G2 hW2 => hT2 (by simp only [mcode, K_pass, h7, h18, Bool.false_eq_true, decide_true, decide_false, Bool.not_true, Bool.not_false, Bool.and_true, Bool.true_and, Bool.and_false, Bool.false_and, Bool.or_true, Bool.true_or, Bool.or_false, Bool.false_or, if_true, if_false, ite_true, ite_false]) j hj rfl G2 hW2 (inv_pass hV et j htq).1) j 0 (by omega) _ ⟨hH, fr0_rf⟩

