/-! the class: what only reads -/
def exO (c : Int32) (X : String) : Prop := (c = 1 ∧ X = "java/lang/IndexOutOfBoundsException") ∨ (c = 2 ∧ X = "java/lang/IllegalArgumentException") ∨ (c = 3 ∧ X = "java/lang/IllegalStateException")
theorem ex1 {c : Int32} (h : c = 1) : exO c "java/lang/IndexOutOfBoundsException" := Or.inl ⟨h, rfl⟩
theorem ex2 {c : Int32} (h : c = 2) : exO c "java/lang/IllegalArgumentException" := Or.inr (Or.inl ⟨h, rfl⟩)
theorem ex3 {c : Int32} (h : c = 3) : exO c "java/lang/IllegalStateException" := Or.inr (Or.inr ⟨h, rfl⟩)
set_option maxRecDepth 20000 in
set_option maxHeartbeats 2000000 in
theorem c_needB {E : XE} {d mc ms : Nat} {P : Ps} {G : HP} {b : Bool} (hmc : 1 ≤ mc) (hms : 6 ≤ ms) (hf : b = false → P (.inr "java/lang/IllegalArgumentException") G) (ht : b = true → P (.inl none) G) : Sp E (d + 6) yX8_need mc ms [.int (b2i b)] G P := by
  refine sp_intro bd_X8_need (v1_all rfl) (Nat.le_of_ble_eq_true rfl) ?_
  change WX _ _ _ _ _ _ 0 [some (.int (b2i b))] [] _ 0 0
  refine wp_load (pc' := 1) (j := 0) dX8_need_0 rfl rfl rfl ?_
  refine wp_ifneB (pc' := 4) 15 dX8_need_1 rfl rfl (fun h1 => ?_) (fun h1 => ?_)
  · skip
    refine wp_vret dX8_need_15 rfl ?_
    exact ht (by assumption)
  · skip
    refine wp_thr dX8_need_4 dX8_need_7 (Or.inr ⟨dX8_need_8, dX8_need_11, dX8_need_14⟩) th_X8_285 rfl (by omega) (Nat.le_of_ble_eq_true rfl) (by omega) (by omega) ?_
    exact hf (by assumption)

set_option maxRecDepth 20000 in
set_option maxHeartbeats 2000000 in
theorem c_needStateB {E : XE} {d mc ms : Nat} {P : Ps} {G : HP} {b : Bool} (hmc : 1 ≤ mc) (hms : 6 ≤ ms) (hf : b = false → P (.inr "java/lang/IllegalStateException") G) (ht : b = true → P (.inl none) G) : Sp E (d + 6) yX8_needState mc ms [.int (b2i b)] G P := by
  refine sp_intro bd_X8_needState (v1_all rfl) (Nat.le_of_ble_eq_true rfl) ?_
  change WX _ _ _ _ _ _ 0 [some (.int (b2i b))] [] _ 0 0
  refine wp_load (pc' := 1) (j := 0) dX8_needState_0 rfl rfl rfl ?_
  refine wp_ifneB (pc' := 4) 15 dX8_needState_1 rfl rfl (fun h1 => ?_) (fun h1 => ?_)
  · skip
    refine wp_vret dX8_needState_15 rfl ?_
    exact ht (by assumption)
  · skip
    refine wp_thr dX8_needState_4 dX8_needState_7 (Or.inr ⟨dX8_needState_8, dX8_needState_11, dX8_needState_14⟩) th_X8_287 rfl (by omega) (Nat.le_of_ble_eq_true rfl) (by omega) (by omega) ?_
    exact hf (by assumption)

set_option maxRecDepth 20000 in
set_option maxHeartbeats 2000000 in
theorem l_debt {E : XE} {d0 d mc ms : Nat} {P : Ps} {G : HP} {own : Nat → Nat} {A : Nat → Nat → Nat} {F : Nat → Int32} {σ : MS} {N : Nat → Nat} (hd : d = d0 + 3) (hH : CH E own A F σ N G) {T : Nat} (hI : PI σ N T) {i : Nat} (hi : i < N 2) (hP : P (.inl (some (.int (debtF σ i (N 5))))) G) : ∀ j k, k + j = N 5 → ∀ z4 : Option Value, WX E d (yX8_debtOf, cX8_debtOf, (some .int), []) mc ms P 4 [some (.ref (A 0 0)), some (.ref (A 5 i)), some (.int (debtF σ i k)), some (.int (nI k)), z4] [] G 0 0
  | 0, k, hk, z4 => by
    subst hd
    obtain ⟨hON, hN, hK, hL, hD, hT, hS, hW, hC, hPm, hY, hF⟩ := id hH
    obtain ⟨n0, n1, n2, n3, n4, n5, e7, e22, e29, e35, e40⟩ := id hN
    obtain ⟨mo5, hl5⟩ := (hL 5 (by decide)).1.1
    
    refine wp_load (pc' := 5) (j := 3) dX8_debtOf_4 rfl rfl rfl ?_
    refine wp_load (pc' := 6) (j := 0) dX8_debtOf_5 rfl rfl rfl ?_
    refine wp_get (pc' := 9) dX8_debtOf_6 fl_X8_28 hK.1 rfl rfl ?_
    refine wp_v0 0 0 dX8_debtOf_9 ml_X8_88 hl5 (Nat.le_of_ble_eq_true rfl) (by omega) (by omega) ?_
    refine k_size (hL 5 (by decide)).1 ?_
    refine kt_v ?_
    refine wp_icmpT 68 dX8_debtOf_12 rfl (cgeT rfl (by omega) (by omega)) ?_
    refine wp_load (pc' := 69) (j := 2) dX8_debtOf_68 rfl rfl rfl ?_
    refine wp_iret dX8_debtOf_69 rfl rfl ?_
    obtain rfl : k = N 5 := by omega
    exact hP
  | j + 1, k, hk, z4 => by
    have ih := l_debt (E := E) (d := d) (mc := mc) (ms := ms) hd hH hI hi hP j (k + 1) (by omega)
    subst hd
    obtain ⟨hON, hN, hK, hL, hD, hT, hS, hW, hC, hPm, hY, hF⟩ := id hH
    obtain ⟨n0, n1, n2, n3, n4, n5, e7, e22, e29, e35, e40⟩ := id hN
    obtain ⟨mo5, hl5⟩ := (hL 5 (by decide)).1.1
    
    refine wp_load (pc' := 5) (j := 3) dX8_debtOf_4 rfl rfl rfl ?_
    refine wp_load (pc' := 6) (j := 0) dX8_debtOf_5 rfl rfl rfl ?_
    refine wp_get (pc' := 9) dX8_debtOf_6 fl_X8_28 hK.1 rfl rfl ?_
    refine wp_v0 0 0 dX8_debtOf_9 ml_X8_88 hl5 (Nat.le_of_ble_eq_true rfl) (by omega) (by omega) ?_
    refine k_size (hL 5 (by decide)).1 ?_
    refine kt_v ?_
    refine wp_icmpF (pc' := 15) 68 dX8_debtOf_12 rfl rfl (cgeF rfl (by omega) (by omega)) ?_
    refine wp_load (pc' := 16) (j := 0) dX8_debtOf_15 rfl rfl rfl ?_
    refine wp_get (pc' := 19) dX8_debtOf_16 fl_X8_28 hK.1 rfl rfl ?_
    refine wp_load (pc' := 20) (j := 3) dX8_debtOf_19 rfl rfl rfl ?_
    refine wp_v1 0 0 dX8_debtOf_20 ml_X8_122 hl5 (Nat.le_of_ble_eq_true rfl) (by omega) (by omega) ?_
    refine k_get (hL 5 (by decide)).1 (show k < N 5 from by omega) (by omega) ?_
    refine kt_v ?_
    refine wp_cast (pc' := 26) dX8_debtOf_23 cw_X8_238 (hF k (show k < N 5 from by omega)).1.1 rfl rfl rfl ?_
    obtain ⟨x, hx⟩ := (hF k (by omega)).2
    obtain ⟨-, -, -, -, hI5, -⟩ := id hI
    obtain ⟨c, a, m, p, hc, e41, -, -, -, -, -, -, h47, -⟩ := hI5 k (by omega)
    refine wp_store (pc' := 28) (j := 4) (ls' := [_, _, _, _, _]) dX8_debtOf_26 rfl (Nat.le_of_ble_eq_true rfl) rfl rfl ?_
    refine wp_load (pc' := 30) (j := 4) dX8_debtOf_28 rfl rfl rfl ?_
    refine wp_get (pc' := 33) dX8_debtOf_30 fl_X8_249 (hF k (show k < N 5 from by omega)).1.1 rfl rfl ?_
    refine wp_get (pc' := 36) dX8_debtOf_33 fl_X8_263 hx.1 rfl rfl ?_
    refine wp_get (pc' := 39) dX8_debtOf_36 fl_X8_145 (hC (ix (σ.2.1 41 k)) (by rw [e41, ix_nI (by omega)]; exact hc)).1.1 rfl rfl ?_
    rw [show nI (ix (σ.2.1 41 k)) = σ.2.1 41 k from by rw [e41, ix_nI (by omega)]]
    refine wp_load (pc' := 40) (j := 1) dX8_debtOf_39 rfl rfl rfl ?_
    refine wp_get (pc' := 43) dX8_debtOf_40 fl_X8_145 (hC i hi).1.1 rfl rfl ?_
    refine wp_icmp_ne (pc' := 46) 62 dX8_debtOf_43 rfl rfl (fun h43 => ?_) (fun h43 => ?_)
    · skip
      refine wp_iinc (pc' := 65) (j := 3) (ls' := [_, _, _, _, _]) (nI (k + 1)) dX8_debtOf_62 rfl (nI_1 k) rfl rfl ?_
      refine wp_goto 4 dX8_debtOf_65 rfl ?_
      simpa only [debtF, amoF, h43, Bool.false_eq_true, decide_true, decide_false, Bool.not_true, Bool.not_false, Bool.and_true, Bool.true_and, Bool.and_false, Bool.false_and, Bool.or_true, Bool.true_or, Bool.or_false, Bool.false_or, if_true, if_false, ite_true, ite_false, Int32.add_zero] using ih _
    · skip
      refine wp_load (pc' := 48) (j := 4) dX8_debtOf_46 rfl rfl rfl ?_
      refine wp_v0 0 0 dX8_debtOf_48 ml_X8_256 (hF k (show k < N 5 from by omega)).1.1 (Nat.le_of_ble_eq_true rfl) (by omega) (by omega) ?_
      refine c_isOpen (hF k (by omega)).1.1 ?_
      refine kt_v ?_
      refine wp_ifeqB (pc' := 54) 62 dX8_debtOf_51 rfl rfl (fun h51 => ?_) (fun h51 => ?_)
      · skip
        refine wp_iinc (pc' := 65) (j := 3) (ls' := [_, _, _, _, _]) (nI (k + 1)) dX8_debtOf_62 rfl (nI_1 k) rfl rfl ?_
        refine wp_goto 4 dX8_debtOf_65 rfl ?_
        simpa only [debtF, amoF, h43, h51, Bool.false_eq_true, decide_true, decide_false, Bool.not_true, Bool.not_false, Bool.and_true, Bool.true_and, Bool.and_false, Bool.false_and, Bool.or_true, Bool.true_or, Bool.or_false, Bool.false_or, if_true, if_false, ite_true, ite_false, Int32.add_zero] using ih _
      · skip
        refine wp_load (pc' := 55) (j := 2) dX8_debtOf_54 rfl rfl rfl ?_
        refine wp_load (pc' := 57) (j := 4) dX8_debtOf_55 rfl rfl rfl ?_
        refine wp_v0 0 0 dX8_debtOf_57 ml_X8_260 (hF k (show k < N 5 from by omega)).1.1 (Nat.le_of_ble_eq_true rfl) (by omega) (by omega) ?_
        refine c_amount h47 (hF k (by omega)).1.1 ?_
        refine kt_v ?_
        refine wp_pure (pc' := 61) dX8_debtOf_60 rfl rfl ?_
        refine wp_store (pc' := 62) (j := 2) (ls' := [_, _, _, _, _]) dX8_debtOf_61 rfl (Nat.le_of_ble_eq_true rfl) rfl rfl ?_
        refine wp_iinc (pc' := 65) (j := 3) (ls' := [_, _, _, _, _]) (nI (k + 1)) dX8_debtOf_62 rfl (nI_1 k) rfl rfl ?_
        refine wp_goto 4 dX8_debtOf_65 rfl ?_
        simpa only [debtF, amoF, h43, h51, Bool.false_eq_true, decide_true, decide_false, Bool.not_true, Bool.not_false, Bool.and_true, Bool.true_and, Bool.and_false, Bool.false_and, Bool.or_true, Bool.true_or, Bool.or_false, Bool.false_or, if_true, if_false, ite_true, ite_false, Int32.add_zero] using ih _

set_option maxRecDepth 20000 in
set_option maxHeartbeats 2000000 in
theorem c_debt {E : XE} {d mc ms : Nat} {P : Ps} {G : HP} {own : Nat → Nat} {A : Nat → Nat → Nat} {F : Nat → Int32} {σ : MS} {N : Nat → Nat} (hH : CH E own A F σ N G) {T : Nat} (hI : PI σ N T) {i : Nat} (hi : i < N 2) (hP : P (.inl (some (.int (debtF σ i (N 5))))) G) : Sp E (d + 4) yX8_debtOf mc ms [.ref (A 0 0), .ref (A 5 i)] G P := by
  obtain ⟨hON, hN, hK, hL, hD, hT, hS, hW, hC, hPm, hY, hF⟩ := id hH
  obtain ⟨n0, n1, n2, n3, n4, n5, e7, e22, e29, e35, e40⟩ := id hN
  refine sp_intro bd_X8_debtOf (v1_all rfl) (Nat.le_of_ble_eq_true rfl) ?_
  change WX _ _ _ _ _ _ 0 [some (.ref (A 0 0)), some (.ref (A 5 i)), none, none, none] [] _ 0 0
  refine wp_iconst (pc' := 1) (0) dX8_debtOf_0 rfl rfl ?_
  refine wp_store (pc' := 2) (j := 2) (ls' := [_, _, _, _, _]) dX8_debtOf_1 rfl (Nat.le_of_ble_eq_true rfl) rfl rfl ?_
  refine wp_iconst (pc' := 3) (0) dX8_debtOf_2 rfl rfl ?_
  refine wp_store (pc' := 4) (j := 3) (ls' := [_, _, _, _, _]) dX8_debtOf_3 rfl (Nat.le_of_ble_eq_true rfl) rfl rfl ?_
  exact l_debt rfl hH hI hi hP (N 5) 0 (by omega) none

set_option maxRecDepth 20000 in
set_option maxHeartbeats 2000000 in
theorem q_rule {E : XE} {d mc ms : Nat} {P : Ps} {G : HP} {own : Nat → Nat} {A : Nat → Nat → Nat} {F : Nat → Int32} {σ : MS} {N : Nat → Nat} (hH : CH E own A F σ N G) {T : Nat} (hI : PI σ N T) {s mt q : Int32} (hmc : 10 ≤ mc) (hms : 60 ≤ ms) (hX : ∀ X, exO (K_rule s mt q) X → P (.inr X) G) (hT : K_rule s mt q = 0 → P (.inl (some (.int (roI (ruleO σ s mt q (N 1)))))) G) : Sp E (d + 11) yX8_rule mc ms [.ref (A 0 0), .int s, .int mt, .int q] G P := by
  obtain ⟨hON, hN, hK, hL, hD, hT, hS, hW, hC, hPm, hY, hF⟩ := id hH
  obtain ⟨n0, n1, n2, n3, n4, n5, e7, e22, e29, e35, e40⟩ := id hN
  refine sp_intro bd_X8_rule (v1_all rfl) (Nat.le_of_ble_eq_true rfl) ?_
  change WX _ _ _ _ _ _ 0 [some (.ref (A 0 0)), some (.int s), some (.int mt), some (.int q), none] [] _ 0 0
  refine wp_load (pc' := 1) (j := 0) dX8_rule_0 rfl rfl rfl ?_
  refine wp_load (pc' := 2) (j := 1) dX8_rule_1 rfl rfl rfl ?_
  refine wp_v1 1 6 dX8_rule_2 ml_X8_49 hK.1 (Nat.le_of_ble_eq_true rfl) (by omega) (by omega) ?_
  refine c_streetOf hH (by omega) (by omega) (fun h2 => kt_x rfl (hX _ (ex1 (by simp only [mcode, K_rule, e7, e22, e29, e35, e40, if_true, h2, Bool.false_eq_true, decide_true, decide_false, Bool.not_true, Bool.not_false, Bool.and_true, Bool.true_and, Bool.and_false, Bool.false_and, Bool.or_true, Bool.true_or, Bool.or_false, Bool.false_or, if_true, if_false, ite_true, ite_false])))) (fun s2 hs2 es2 h2 => ?_)
  obtain rfl := es2
  have ix2 : ix (nI s2) = s2 := ix_nI (by omega)
  refine kt_v ?_
  refine wp_pop (pc' := 6) dX8_rule_5 rfl rfl ?_
  refine wp_load (pc' := 7) (j := 2) dX8_rule_6 rfl rfl rfl ?_
  refine wp_s1 1 6 dX8_rule_7 ml_X8_53 (Nat.le_of_ble_eq_true rfl) (by omega) (by omega) ?_
  refine c_needMetre (by omega) (by omega) (fun h7 => kt_x rfl (hX _ (ex1 (by simp only [mcode, K_rule, e7, e22, e29, e35, e40, h2, ix2, h7, Bool.false_eq_true, decide_true, decide_false, Bool.not_true, Bool.not_false, Bool.and_true, Bool.true_and, Bool.and_false, Bool.false_and, Bool.or_true, Bool.true_or, Bool.or_false, Bool.false_or, if_true, if_false, ite_true, ite_false])))) (fun h7 => ?_)
  refine kt_u ?_
  refine wp_load (pc' := 11) (j := 3) dX8_rule_10 rfl rfl rfl ?_
  refine wp_iconst (pc' := 12) (0) dX8_rule_11 rfl rfl ?_
  refine wp_ldc (pc' := 14) dX8_rule_12 kw_X8_129 rfl ?_
  refine wp_s3 0 0 dX8_rule_14 ml_X8_65 (Nat.le_of_ble_eq_true rfl) (by omega) (by omega) ?_
  refine c_isIn _ _ _ ?_
  refine kt_v ?_
  refine wp_s1 1 6 dX8_rule_17 ml_X8_69 (Nat.le_of_ble_eq_true rfl) (by omega) (by omega) ?_
  refine c_needB (by omega) (by omega) (fun h17 => kt_x rfl (hX _ (ex2 (by simp only [mcode, K_rule, e7, e22, e29, e35, e40, h2, ix2, h7, h17, Bool.false_eq_true, decide_true, decide_false, Bool.not_true, Bool.not_false, Bool.and_true, Bool.true_and, Bool.and_false, Bool.false_and, Bool.or_true, Bool.true_or, Bool.or_false, Bool.false_or, if_true, if_false, ite_true, ite_false])))) (fun h17 => ?_)
  refine kt_u ?_
  obtain ⟨qn, hqn, rfl⟩ := clt_nI (n := 50000) (show inB _ 0 (nI 50000 - 1) = true from by rw [show (nI 50000 - 1 : Int32) = 49999 from by decide]; exact h17) (by decide)
  refine wp_load (pc' := 21) (j := 0) dX8_rule_20 rfl rfl rfl ?_
  refine wp_load (pc' := 22) (j := 1) dX8_rule_21 rfl rfl rfl ?_
  refine wp_load (pc' := 23) (j := 2) dX8_rule_22 rfl rfl rfl ?_
  refine wp_load (pc' := 24) (j := 3) dX8_rule_23 rfl rfl rfl ?_
  refine wp_v3 0 0 dX8_rule_24 ml_X8_130 hK.1 (Nat.le_of_ble_eq_true rfl) (by omega) (by omega) ?_
  refine c_rule hH hI (show qn ≤ 49999 from by omega) ?_
  refine kt_v ?_
  rcases hr : ruleO σ (nI s2) mt (nI qn) (N 1) with _ | f
  · skip
    refine wp_store (pc' := 29) (j := 4) (ls' := [_, _, _, _, _]) dX8_rule_27 rfl (Nat.le_of_ble_eq_true rfl) rfl rfl ?_
    refine wp_load (pc' := 31) (j := 4) dX8_rule_29 rfl rfl rfl ?_
    refine wp_non (pc' := 34) dX8_rule_31 rfl ?_
    refine wp_iconst (pc' := 35) (-1) dX8_rule_34 rfl rfl ?_
    refine wp_goto 43 dX8_rule_35 rfl ?_
    refine wp_iret dX8_rule_43 rfl rfl ?_
    have h0 := hT (by simp only [mcode, K_rule, e7, e22, e29, e35, e40, h2, ix2, h7, h17, Bool.false_eq_true, decide_true, decide_false, Bool.not_true, Bool.not_false, Bool.and_true, Bool.true_and, Bool.and_false, Bool.false_and, Bool.or_true, Bool.true_or, Bool.or_false, Bool.false_or, if_true, if_false, ite_true, ite_false])
    rw [hr] at h0
    exact h0
  · skip
    have hf := ruleO_lt hr
    refine wp_store (pc' := 29) (j := 4) (ls' := [_, _, _, _, _]) dX8_rule_27 rfl (Nat.le_of_ble_eq_true rfl) rfl rfl ?_
    refine wp_load (pc' := 31) (j := 4) dX8_rule_29 rfl rfl rfl ?_
    refine wp_nonR 38 dX8_rule_31 rfl ?_
    refine wp_load (pc' := 40) (j := 4) dX8_rule_38 rfl rfl rfl ?_
    refine wp_get (pc' := 43) dX8_rule_40 fl_X8_108 (hS f hf).1.1 rfl rfl ?_
    refine wp_iret dX8_rule_43 rfl rfl ?_
    have h0 := hT (by simp only [mcode, K_rule, e7, e22, e29, e35, e40, h2, ix2, h7, h17, Bool.false_eq_true, decide_true, decide_false, Bool.not_true, Bool.not_false, Bool.and_true, Bool.true_and, Bool.and_false, Bool.false_and, Bool.or_true, Bool.true_or, Bool.or_false, Bool.false_or, if_true, if_false, ite_true, ite_false])
    rw [hr] at h0
    exact h0

set_option maxRecDepth 20000 in
set_option maxHeartbeats 2000000 in
theorem l_anew {E : XE} {d0 d mc ms : Nat} {P : Ps} {G : HP} {own : Nat → Nat} {A : Nat → Nat → Nat} {F : Nat → Int32} {σ : MS} {N : Nat → Nat} (hd : d = d0 + 4) (hH : CH E own A F σ N G) {T : Nat} (hI : PI σ N T) {q : Nat} (hq : q ≤ 49999) {kc ks a : Nat} {mt : Int32} (hkc : kc ≤ mc) (hks : ks ≤ ms) (hP : P (.inl (some (.int (roI (ruleO σ (nI a) mt (nI q) (N 1)))))) G) : ∀ j k, k + j = N 1 → ∀ z5 : Option Value, ∀ (hb : ∀ i, i < k → (holdsB σ i (nI a) mt (nI q) && !anyF (fun k => holdsB σ k (nI a) mt (nI q) && aheadC σ k i) (N 1)) = false), WX E d (yX8_ruleAnew, cX8_ruleAnew, (some .int), []) mc ms P 23 [some (.ref (A 0 0)), some (.int (nI a)), some (.int mt), some (.int (nI q)), some (.int (nI k)), z5] [] G kc ks
  | 0, k, hk, z5, hb => by
    subst hd
    obtain ⟨hON, hN, hK, hL, hD, hT, hS, hW, hC, hPm, hY, hF⟩ := id hH
    obtain ⟨n0, n1, n2, n3, n4, n5, e7, e22, e29, e35, e40⟩ := id hN
    obtain ⟨mo1, hl1⟩ := (hL 1 (by decide)).1.1
    
    refine wp_load (pc' := 25) (j := 4) dX8_ruleAnew_23 rfl rfl rfl ?_
    refine wp_load (pc' := 26) (j := 0) dX8_ruleAnew_25 rfl rfl rfl ?_
    refine wp_get (pc' := 29) dX8_ruleAnew_26 fl_X8_16 hK.1 rfl rfl ?_
    refine wp_v0 0 0 dX8_ruleAnew_29 ml_X8_88 hl1 (Nat.le_of_ble_eq_true rfl) (by omega) (by omega) ?_
    refine k_size (hL 1 (by decide)).1 ?_
    refine kt_v ?_
    refine wp_icmpT 83 dX8_ruleAnew_32 rfl (cgeT rfl (by omega) (by omega)) ?_
    refine wp_iconst (pc' := 84) (-1) dX8_ruleAnew_83 rfl rfl ?_
    refine wp_iret dX8_ruleAnew_84 rfl rfl ?_
    obtain rfl : k = N 1 := by omega
    rw [anew_f (by omega) hb] at hP
    exact hP
  | j + 1, k, hk, z5, hb => by
    have ih := l_anew (E := E) (d := d) (mc := mc) (ms := ms) (kc := kc) (ks := ks) hd hH hI hq hkc hks hP j (k + 1) (by omega)
    subst hd
    obtain ⟨hON, hN, hK, hL, hD, hT, hS, hW, hC, hPm, hY, hF⟩ := id hH
    obtain ⟨n0, n1, n2, n3, n4, n5, e7, e22, e29, e35, e40⟩ := id hN
    obtain ⟨mo1, hl1⟩ := (hL 1 (by decide)).1.1
    
    refine wp_load (pc' := 25) (j := 4) dX8_ruleAnew_23 rfl rfl rfl ?_
    refine wp_load (pc' := 26) (j := 0) dX8_ruleAnew_25 rfl rfl rfl ?_
    refine wp_get (pc' := 29) dX8_ruleAnew_26 fl_X8_16 hK.1 rfl rfl ?_
    refine wp_v0 0 0 dX8_ruleAnew_29 ml_X8_88 hl1 (Nat.le_of_ble_eq_true rfl) (by omega) (by omega) ?_
    refine k_size (hL 1 (by decide)).1 ?_
    refine kt_v ?_
    refine wp_icmpF (pc' := 35) 83 dX8_ruleAnew_32 rfl rfl (cgeF rfl (by omega) (by omega)) ?_
    refine wp_load (pc' := 36) (j := 0) dX8_ruleAnew_35 rfl rfl rfl ?_
    refine wp_get (pc' := 39) dX8_ruleAnew_36 fl_X8_16 hK.1 rfl rfl ?_
    refine wp_load (pc' := 41) (j := 4) dX8_ruleAnew_39 rfl rfl rfl ?_
    refine wp_v1 0 0 dX8_ruleAnew_41 ml_X8_122 hl1 (Nat.le_of_ble_eq_true rfl) (by omega) (by omega) ?_
    refine k_get (hL 1 (by decide)).1 (show k < N 1 from by omega) (by omega) ?_
    refine kt_v ?_
    refine wp_cast (pc' := 47) dX8_ruleAnew_44 cw_X8_95 (hS k (show k < N 1 from by omega)).1.1 rfl rfl rfl ?_
    refine wp_store (pc' := 49) (j := 5) (ls' := [_, _, _, _, _, _]) dX8_ruleAnew_47 rfl (Nat.le_of_ble_eq_true rfl) rfl rfl ?_
    refine wp_load (pc' := 51) (j := 5) dX8_ruleAnew_49 rfl rfl rfl ?_
    refine wp_load (pc' := 52) (j := 1) dX8_ruleAnew_51 rfl rfl rfl ?_
    refine wp_load (pc' := 53) (j := 2) dX8_ruleAnew_52 rfl rfl rfl ?_
    refine wp_load (pc' := 54) (j := 3) dX8_ruleAnew_53 rfl rfl rfl ?_
    refine wp_v3 0 0 dX8_ruleAnew_54 ml_X8_134 (hS k (show k < N 1 from by omega)).1.1 (Nat.le_of_ble_eq_true rfl) (by omega) (by omega) ?_
    refine c_holds hH hI (show k < N 1 from by omega) hq ?_
    refine kt_v ?_
    refine wp_ifeqB (pc' := 60) 77 dX8_ruleAnew_57 rfl rfl (fun h57 => ?_) (fun h57 => ?_)
    · skip
      refine wp_iinc (pc' := 80) (j := 4) (ls' := [_, _, _, _, _, _]) (nI (k + 1)) dX8_ruleAnew_77 rfl (nI_1 k) rfl rfl ?_
      refine wp_goto 23 dX8_ruleAnew_80 rfl ?_
      refine ih _ (fun i hi => ?_)
      rcases Nat.lt_or_ge i k with z | z
      · exact hb i z
      · obtain rfl : i = k := by omega
        simp only [h57, Bool.false_eq_true, decide_true, decide_false, Bool.not_true, Bool.not_false, Bool.and_true, Bool.true_and, Bool.and_false, Bool.false_and, Bool.or_true, Bool.true_or, Bool.or_false, Bool.false_or, if_true, if_false, ite_true, ite_false]
    · skip
      refine wp_load (pc' := 61) (j := 0) dX8_ruleAnew_60 rfl rfl rfl ?_
      refine wp_load (pc' := 63) (j := 5) dX8_ruleAnew_61 rfl rfl rfl ?_
      refine wp_load (pc' := 64) (j := 2) dX8_ruleAnew_63 rfl rfl rfl ?_
      refine wp_load (pc' := 65) (j := 3) dX8_ruleAnew_64 rfl rfl rfl ?_
      refine wp_v3 0 0 dX8_ruleAnew_65 ml_X8_137 hK.1 (Nat.le_of_ble_eq_true rfl) (by omega) (by omega) ?_
      rw [show (Value.ref (A (3 + 1) k)) = .ref (A 4 k) from rfl]
      refine c_left hH hI hq (show k < N 1 from by omega) ?_
      rw [holds_street h57]
      refine kt_v ?_
      refine wp_ifneB (pc' := 71) 77 dX8_ruleAnew_68 rfl rfl (fun h68 => ?_) (fun h68 => ?_)
      · skip
        refine wp_iinc (pc' := 80) (j := 4) (ls' := [_, _, _, _, _, _]) (nI (k + 1)) dX8_ruleAnew_77 rfl (nI_1 k) rfl rfl ?_
        refine wp_goto 23 dX8_ruleAnew_80 rfl ?_
        refine ih _ (fun i hi => ?_)
        rcases Nat.lt_or_ge i k with z | z
        · exact hb i z
        · obtain rfl : i = k := by omega
          simp only [h57, h68, Bool.false_eq_true, decide_true, decide_false, Bool.not_true, Bool.not_false, Bool.and_true, Bool.true_and, Bool.and_false, Bool.false_and, Bool.or_true, Bool.true_or, Bool.or_false, Bool.false_or, if_true, if_false, ite_true, ite_false]
      · skip
        refine wp_load (pc' := 73) (j := 5) dX8_ruleAnew_71 rfl rfl rfl ?_
        refine wp_get (pc' := 76) dX8_ruleAnew_73 fl_X8_108 (hS k (show k < N 1 from by omega)).1.1 rfl rfl ?_
        refine wp_iret dX8_ruleAnew_76 rfl rfl ?_
        rw [anew_t (by omega) (show k < N 1 from by omega) h57 h68] at hP
        exact hP

set_option maxRecDepth 20000 in
set_option maxHeartbeats 2000000 in
theorem q_ruleAnew {E : XE} {d mc ms : Nat} {P : Ps} {G : HP} {own : Nat → Nat} {A : Nat → Nat → Nat} {F : Nat → Int32} {σ : MS} {N : Nat → Nat} (hH : CH E own A F σ N G) {T : Nat} (hI : PI σ N T) {s mt q : Int32} (hmc : 10 ≤ mc) (hms : 60 ≤ ms) (hX : ∀ X, exO (K_rule s mt q) X → P (.inr X) G) (hT : K_rule s mt q = 0 → P (.inl (some (.int (roI (ruleO σ s mt q (N 1)))))) G) : Sp E (d + 11) yX8_ruleAnew mc ms [.ref (A 0 0), .int s, .int mt, .int q] G P := by
  obtain ⟨hON, hN, hK, hL, hD, hT, hS, hW, hC, hPm, hY, hF⟩ := id hH
  obtain ⟨n0, n1, n2, n3, n4, n5, e7, e22, e29, e35, e40⟩ := id hN
  refine sp_intro bd_X8_ruleAnew (v1_all rfl) (Nat.le_of_ble_eq_true rfl) ?_
  change WX _ _ _ _ _ _ 0 [some (.ref (A 0 0)), some (.int s), some (.int mt), some (.int q), none, none] [] _ 0 0
  refine wp_load (pc' := 1) (j := 0) dX8_ruleAnew_0 rfl rfl rfl ?_
  refine wp_load (pc' := 2) (j := 1) dX8_ruleAnew_1 rfl rfl rfl ?_
  refine wp_v1 1 6 dX8_ruleAnew_2 ml_X8_49 hK.1 (Nat.le_of_ble_eq_true rfl) (by omega) (by omega) ?_
  refine c_streetOf hH (by omega) (by omega) (fun h2 => kt_x rfl (hX _ (ex1 (by simp only [mcode, K_rule, e7, e22, e29, e35, e40, if_true, h2, Bool.false_eq_true, decide_true, decide_false, Bool.not_true, Bool.not_false, Bool.and_true, Bool.true_and, Bool.and_false, Bool.false_and, Bool.or_true, Bool.true_or, Bool.or_false, Bool.false_or, if_true, if_false, ite_true, ite_false])))) (fun s2 hs2 es2 h2 => ?_)
  obtain rfl := es2
  have ix2 : ix (nI s2) = s2 := ix_nI (by omega)
  refine kt_v ?_
  refine wp_pop (pc' := 6) dX8_ruleAnew_5 rfl rfl ?_
  refine wp_load (pc' := 7) (j := 2) dX8_ruleAnew_6 rfl rfl rfl ?_
  refine wp_s1 1 6 dX8_ruleAnew_7 ml_X8_53 (Nat.le_of_ble_eq_true rfl) (by omega) (by omega) ?_
  refine c_needMetre (by omega) (by omega) (fun h7 => kt_x rfl (hX _ (ex1 (by simp only [mcode, K_rule, e7, e22, e29, e35, e40, h2, ix2, h7, Bool.false_eq_true, decide_true, decide_false, Bool.not_true, Bool.not_false, Bool.and_true, Bool.true_and, Bool.and_false, Bool.false_and, Bool.or_true, Bool.true_or, Bool.or_false, Bool.false_or, if_true, if_false, ite_true, ite_false])))) (fun h7 => ?_)
  refine kt_u ?_
  refine wp_load (pc' := 11) (j := 3) dX8_ruleAnew_10 rfl rfl rfl ?_
  refine wp_iconst (pc' := 12) (0) dX8_ruleAnew_11 rfl rfl ?_
  refine wp_ldc (pc' := 14) dX8_ruleAnew_12 kw_X8_129 rfl ?_
  refine wp_s3 0 0 dX8_ruleAnew_14 ml_X8_65 (Nat.le_of_ble_eq_true rfl) (by omega) (by omega) ?_
  refine c_isIn _ _ _ ?_
  refine kt_v ?_
  refine wp_s1 1 6 dX8_ruleAnew_17 ml_X8_69 (Nat.le_of_ble_eq_true rfl) (by omega) (by omega) ?_
  refine c_needB (by omega) (by omega) (fun h17 => kt_x rfl (hX _ (ex2 (by simp only [mcode, K_rule, e7, e22, e29, e35, e40, h2, ix2, h7, h17, Bool.false_eq_true, decide_true, decide_false, Bool.not_true, Bool.not_false, Bool.and_true, Bool.true_and, Bool.and_false, Bool.false_and, Bool.or_true, Bool.true_or, Bool.or_false, Bool.false_or, if_true, if_false, ite_true, ite_false])))) (fun h17 => ?_)
  refine kt_u ?_
  obtain ⟨qn, hqn, rfl⟩ := clt_nI (n := 50000) (show inB _ 0 (nI 50000 - 1) = true from by rw [show (nI 50000 - 1 : Int32) = 49999 from by decide]; exact h17) (by decide)
  refine wp_iconst (pc' := 21) (0) dX8_ruleAnew_20 rfl rfl ?_
  refine wp_store (pc' := 23) (j := 4) (ls' := [_, _, _, _, _, _]) dX8_ruleAnew_21 rfl (Nat.le_of_ble_eq_true rfl) rfl rfl ?_
  have h0 := hT (by simp only [mcode, K_rule, e7, e22, e29, e35, e40, h2, ix2, h7, h17, Bool.false_eq_true, decide_true, decide_false, Bool.not_true, Bool.not_false, Bool.and_true, Bool.true_and, Bool.and_false, Bool.false_and, Bool.or_true, Bool.true_or, Bool.or_false, Bool.false_or, if_true, if_false, ite_true, ite_false])
  exact l_anew rfl hH hI (show qn ≤ 49999 from by omega) (by omega) (by omega) h0 (N 1) 0 (by omega) none (fun i hi => absurd hi (by omega))

set_option maxRecDepth 20000 in
set_option maxHeartbeats 2000000 in
theorem q_countsAs {E : XE} {d mc ms : Nat} {P : Ps} {G : HP} {own : Nat → Nat} {A : Nat → Nat → Nat} {F : Nat → Int32} {σ : MS} {N : Nat → Nat} (hH : CH E own A F σ N G) {T : Nat} (hI : PI σ N T) {i s : Int32} (hmc : 10 ≤ mc) (hms : 60 ≤ ms) (hX : ∀ X, exO (K_countsAs σ i s) X → P (.inr X) G) (hT : K_countsAs σ i s = 0 → ∀ j, j < N 2 → i = nI j → P (.inl (some (.int (userOnF σ j s (σ.1 0 / 96) (N 3))))) G) : Sp E (d + 11) yX8_countsAs mc ms [.ref (A 0 0), .int i, .int s] G P := by
  obtain ⟨hON, hN, hK, hL, hD, hT, hS, hW, hC, hPm, hY, hF⟩ := id hH
  obtain ⟨n0, n1, n2, n3, n4, n5, e7, e22, e29, e35, e40⟩ := id hN
  refine sp_intro bd_X8_countsAs (v1_all rfl) (Nat.le_of_ble_eq_true rfl) ?_
  change WX _ _ _ _ _ _ 0 [some (.ref (A 0 0)), some (.int i), some (.int s), none] [] _ 0 0
  refine wp_load (pc' := 1) (j := 0) dX8_countsAs_0 rfl rfl rfl ?_
  refine wp_load (pc' := 2) (j := 1) dX8_countsAs_1 rfl rfl rfl ?_
  refine wp_v1 1 6 dX8_countsAs_2 ml_X8_146 hK.1 (Nat.le_of_ble_eq_true rfl) (by omega) (by omega) ?_
  refine c_carOf hH (by omega) (by omega) (fun h2 => kt_x rfl (hX _ (ex1 (by simp only [mcode, K_countsAs, e7, e22, e29, e35, e40, if_true, h2, Bool.false_eq_true, decide_true, decide_false, Bool.not_true, Bool.not_false, Bool.and_true, Bool.true_and, Bool.and_false, Bool.false_and, Bool.or_true, Bool.true_or, Bool.or_false, Bool.false_or, if_true, if_false, ite_true, ite_false])))) (fun s2 hs2 es2 h2 => ?_)
  obtain rfl := es2
  have ix2 : ix (nI s2) = s2 := ix_nI (by omega)
  refine kt_v ?_
  refine wp_store (pc' := 6) (j := 3) (ls' := [_, _, _, _]) dX8_countsAs_5 rfl (Nat.le_of_ble_eq_true rfl) rfl rfl ?_
  refine wp_load (pc' := 7) (j := 0) dX8_countsAs_6 rfl rfl rfl ?_
  refine wp_load (pc' := 8) (j := 2) dX8_countsAs_7 rfl rfl rfl ?_
  refine wp_v1 1 6 dX8_countsAs_8 ml_X8_49 hK.1 (Nat.le_of_ble_eq_true rfl) (by omega) (by omega) ?_
  refine c_streetOf hH (by omega) (by omega) (fun h8 => kt_x rfl (hX _ (ex1 (by simp only [mcode, K_countsAs, e7, e22, e29, e35, e40, h2, ix2, h8, Bool.false_eq_true, decide_true, decide_false, Bool.not_true, Bool.not_false, Bool.and_true, Bool.true_and, Bool.and_false, Bool.false_and, Bool.or_true, Bool.true_or, Bool.or_false, Bool.false_or, if_true, if_false, ite_true, ite_false])))) (fun s8 hs8 es8 h8 => ?_)
  obtain rfl := es8
  have ix8 : ix (nI s8) = s8 := ix_nI (by omega)
  refine kt_v ?_
  refine wp_pop (pc' := 12) dX8_countsAs_11 rfl rfl ?_
  refine wp_load (pc' := 13) (j := 0) dX8_countsAs_12 rfl rfl rfl ?_
  refine wp_load (pc' := 14) (j := 3) dX8_countsAs_13 rfl rfl rfl ?_
  refine wp_load (pc' := 15) (j := 2) dX8_countsAs_14 rfl rfl rfl ?_
  refine wp_load (pc' := 16) (j := 0) dX8_countsAs_15 rfl rfl rfl ?_
  refine wp_get (pc' := 19) dX8_countsAs_16 fl_X8_38 hK.1 rfl rfl ?_
  refine wp_v3 0 0 dX8_countsAs_19 ml_X8_165 hK.1 (Nat.le_of_ble_eq_true rfl) (by omega) (by omega) ?_
  refine c_userOf hH hs2 ?_
  refine kt_v ?_
  refine wp_iret dX8_countsAs_22 rfl rfl ?_
  have h0 := hT (by simp only [mcode, K_countsAs, e7, e22, e29, e35, e40, h2, ix2, h8, ix8, Bool.false_eq_true, decide_true, decide_false, Bool.not_true, Bool.not_false, Bool.and_true, Bool.true_and, Bool.and_false, Bool.false_and, Bool.or_true, Bool.true_or, Bool.or_false, Bool.false_or, if_true, if_false, ite_true, ite_false]) _ hs2 rfl
  exact h0

set_option maxRecDepth 20000 in
set_option maxHeartbeats 2000000 in
theorem l_gap2 {E : XE} {d0 d mc ms : Nat} {P : Ps} {G : HP} {own : Nat → Nat} {A : Nat → Nat → Nat} {F : Nat → Int32} {σ : MS} {N : Nat → Nat} (hd : d = d0 + 4) (hH : CH E own A F σ N G) {kc ks a : Nat} {l : Int32} (hkc : kc ≤ mc) (hks : ks ≤ ms) (ha : a < 4) (hP : P (.inl (some (.int (gapF σ (nI a) l (N 2) 60)))) G) : ∀ j k, k + j = 60 → ∀ (hb : gapF σ (nI a) l (N 2) 60 = gapF σ (nI a) l (N 2) (60 - k)), WX E d (yX8_gap, cX8_gap, (some .int), []) mc ms P 18 [some (.ref (A 0 0)), some (.int (nI a)), some (.int l), some (.int (nI k))] [] G kc ks
  | 0, k, hk, hb => by
    subst hd
    obtain ⟨hON, hN, hK, hL, hD, hT, hS, hW, hC, hPm, hY, hF⟩ := id hH
    obtain ⟨n0, n1, n2, n3, n4, n5, e7, e22, e29, e35, e40⟩ := id hN
    
    refine wp_load (pc' := 19) (j := 3) dX8_gap_18 rfl rfl rfl ?_
    refine wp_bipush (pc' := 21) (60) dX8_gap_19 rfl rfl ?_
    refine wp_icmpT 42 dX8_gap_21 rfl (cgeT (n := 60) rfl (by omega) (by omega)) ?_
    refine wp_iconst (pc' := 43) (-1) dX8_gap_42 rfl rfl ?_
    refine wp_iret dX8_gap_43 rfl rfl ?_
    obtain rfl : k = 60 := by omega
    rw [hb] at hP
    exact hP
  | j + 1, k, hk, hb => by
    have ih := l_gap2 (E := E) (d := d) (mc := mc) (ms := ms) (kc := kc) (ks := ks) hd hH hkc hks ha hP j (k + 1) (by omega)
    subst hd
    obtain ⟨hON, hN, hK, hL, hD, hT, hS, hW, hC, hPm, hY, hF⟩ := id hH
    obtain ⟨n0, n1, n2, n3, n4, n5, e7, e22, e29, e35, e40⟩ := id hN
    
    refine wp_load (pc' := 19) (j := 3) dX8_gap_18 rfl rfl rfl ?_
    refine wp_bipush (pc' := 21) (60) dX8_gap_19 rfl rfl ?_
    refine wp_icmpF (pc' := 24) 42 dX8_gap_21 rfl rfl (cgeF (n := 60) rfl (by omega) (by decide)) ?_
    refine wp_load (pc' := 25) (j := 0) dX8_gap_24 rfl rfl rfl ?_
    refine wp_load (pc' := 26) (j := 1) dX8_gap_25 rfl rfl rfl ?_
    refine wp_load (pc' := 27) (j := 3) dX8_gap_26 rfl rfl rfl ?_
    refine wp_load (pc' := 28) (j := 2) dX8_gap_27 rfl rfl rfl ?_
    refine wp_v3 0 0 dX8_gap_28 ml_X8_176 hK.1 (Nat.le_of_ble_eq_true rfl) (by omega) (by omega) ?_
    refine c_isGap hH ha ?_
    refine kt_v ?_
    refine wp_ifeqB (pc' := 34) 36 dX8_gap_31 rfl rfl (fun h31 => ?_) (fun h31 => ?_)
    · skip
      refine wp_iinc (pc' := 39) (j := 3) (ls' := [_, _, _, _]) (nI (k + 1)) dX8_gap_36 rfl (nI_1 k) rfl rfl ?_
      refine wp_goto 18 dX8_gap_39 rfl ?_
      refine ih (hb.trans ?_)
      obtain ⟨e, he⟩ : ∃ e, 60 - k = e + 1 := ⟨59 - k, by omega⟩
      rw [he, gapF, show 59 - e = k from by omega, if_neg (by rw [h31]; decide), show 60 - (k + 1) = e from by omega]
    · skip
      refine wp_load (pc' := 35) (j := 3) dX8_gap_34 rfl rfl rfl ?_
      refine wp_iret dX8_gap_35 rfl rfl ?_
      rw [hb] at hP
      obtain ⟨e, he⟩ : ∃ e, 60 - k = e + 1 := ⟨59 - k, by omega⟩
      rw [he, gapF, show 59 - e = k from by omega, if_pos h31] at hP
      exact hP

set_option maxRecDepth 20000 in
set_option maxHeartbeats 2000000 in
theorem q_gap {E : XE} {d mc ms : Nat} {P : Ps} {G : HP} {own : Nat → Nat} {A : Nat → Nat → Nat} {F : Nat → Int32} {σ : MS} {N : Nat → Nat} (hH : CH E own A F σ N G) {T : Nat} (hI : PI σ N T) {s l : Int32} (hmc : 10 ≤ mc) (hms : 60 ≤ ms) (hX : ∀ X, exO (K_gap s l) X → P (.inr X) G) (hT : K_gap s l = 0 → P (.inl (some (.int (gapF σ s l (N 2) 60)))) G) : Sp E (d + 11) yX8_gap mc ms [.ref (A 0 0), .int s, .int l] G P := by
  obtain ⟨hON, hN, hK, hL, hD, hT, hS, hW, hC, hPm, hY, hF⟩ := id hH
  obtain ⟨n0, n1, n2, n3, n4, n5, e7, e22, e29, e35, e40⟩ := id hN
  refine sp_intro bd_X8_gap (v1_all rfl) (Nat.le_of_ble_eq_true rfl) ?_
  change WX _ _ _ _ _ _ 0 [some (.ref (A 0 0)), some (.int s), some (.int l), none] [] _ 0 0
  refine wp_load (pc' := 1) (j := 0) dX8_gap_0 rfl rfl rfl ?_
  refine wp_load (pc' := 2) (j := 1) dX8_gap_1 rfl rfl rfl ?_
  refine wp_v1 1 6 dX8_gap_2 ml_X8_49 hK.1 (Nat.le_of_ble_eq_true rfl) (by omega) (by omega) ?_
  refine c_streetOf hH (by omega) (by omega) (fun h2 => kt_x rfl (hX _ (ex1 (by simp only [mcode, K_gap, e7, e22, e29, e35, e40, if_true, h2, Bool.false_eq_true, decide_true, decide_false, Bool.not_true, Bool.not_false, Bool.and_true, Bool.true_and, Bool.and_false, Bool.false_and, Bool.or_true, Bool.true_or, Bool.or_false, Bool.false_or, if_true, if_false, ite_true, ite_false])))) (fun s2 hs2 es2 h2 => ?_)
  obtain rfl := es2
  have ix2 : ix (nI s2) = s2 := ix_nI (by omega)
  refine kt_v ?_
  refine wp_pop (pc' := 6) dX8_gap_5 rfl rfl ?_
  refine wp_load (pc' := 7) (j := 2) dX8_gap_6 rfl rfl rfl ?_
  refine wp_iconst (pc' := 8) (3) dX8_gap_7 rfl rfl ?_
  refine wp_bipush (pc' := 10) (12) dX8_gap_8 rfl rfl ?_
  refine wp_s3 0 0 dX8_gap_10 ml_X8_65 (Nat.le_of_ble_eq_true rfl) (by omega) (by omega) ?_
  refine c_isIn _ _ _ ?_
  refine kt_v ?_
  refine wp_s1 1 6 dX8_gap_13 ml_X8_69 (Nat.le_of_ble_eq_true rfl) (by omega) (by omega) ?_
  refine c_needB (by omega) (by omega) (fun h13 => kt_x rfl (hX _ (ex2 (by simp only [mcode, K_gap, e7, e22, e29, e35, e40, h2, ix2, h13, Bool.false_eq_true, decide_true, decide_false, Bool.not_true, Bool.not_false, Bool.and_true, Bool.true_and, Bool.and_false, Bool.false_and, Bool.or_true, Bool.true_or, Bool.or_false, Bool.false_or, if_true, if_false, ite_true, ite_false])))) (fun h13 => ?_)
  refine kt_u ?_
  refine wp_iconst (pc' := 17) (0) dX8_gap_16 rfl rfl ?_
  refine wp_store (pc' := 18) (j := 3) (ls' := [_, _, _, _]) dX8_gap_17 rfl (Nat.le_of_ble_eq_true rfl) rfl rfl ?_
  have h0 := hT (by simp only [mcode, K_gap, e7, e22, e29, e35, e40, h2, ix2, h13, Bool.false_eq_true, decide_true, decide_false, Bool.not_true, Bool.not_false, Bool.and_true, Bool.true_and, Bool.and_false, Bool.false_and, Bool.or_true, Bool.true_or, Bool.or_false, Bool.false_or, if_true, if_false, ite_true, ite_false])
  exact l_gap2 rfl hH (by omega) (by omega) hs2 h0 60 0 (by omega) rfl

set_option maxRecDepth 20000 in
set_option maxHeartbeats 2000000 in
theorem q_debt {E : XE} {d mc ms : Nat} {P : Ps} {G : HP} {own : Nat → Nat} {A : Nat → Nat → Nat} {F : Nat → Int32} {σ : MS} {N : Nat → Nat} (hH : CH E own A F σ N G) {T : Nat} (hI : PI σ N T) {i : Int32} (hmc : 10 ≤ mc) (hms : 60 ≤ ms) (hX : ∀ X, exO (K_car1 σ i) X → P (.inr X) G) (hT : K_car1 σ i = 0 → ∀ j, j < N 2 → i = nI j → P (.inl (some (.int (debtF σ j (N 5))))) G) : Sp E (d + 11) yX8_debt mc ms [.ref (A 0 0), .int i] G P := by
  obtain ⟨hON, hN, hK, hL, hD, hT, hS, hW, hC, hPm, hY, hF⟩ := id hH
  obtain ⟨n0, n1, n2, n3, n4, n5, e7, e22, e29, e35, e40⟩ := id hN
  refine sp_intro bd_X8_debt (v1_all rfl) (Nat.le_of_ble_eq_true rfl) ?_
  change WX _ _ _ _ _ _ 0 [some (.ref (A 0 0)), some (.int i)] [] _ 0 0
  refine wp_load (pc' := 1) (j := 0) dX8_debt_0 rfl rfl rfl ?_
  refine wp_load (pc' := 2) (j := 0) dX8_debt_1 rfl rfl rfl ?_
  refine wp_load (pc' := 3) (j := 1) dX8_debt_2 rfl rfl rfl ?_
  refine wp_v1 1 6 dX8_debt_3 ml_X8_146 hK.1 (Nat.le_of_ble_eq_true rfl) (by omega) (by omega) ?_
  refine c_carOf hH (by omega) (by omega) (fun h3 => kt_x rfl (hX _ (ex1 (by simp only [mcode, K_car1, e7, e22, e29, e35, e40, if_true, h3, Bool.false_eq_true, decide_true, decide_false, Bool.not_true, Bool.not_false, Bool.and_true, Bool.true_and, Bool.and_false, Bool.false_and, Bool.or_true, Bool.true_or, Bool.or_false, Bool.false_or, if_true, if_false, ite_true, ite_false])))) (fun s3 hs3 es3 h3 => ?_)
  obtain rfl := es3
  have ix3 : ix (nI s3) = s3 := ix_nI (by omega)
  refine kt_v ?_
  refine wp_v1 0 0 dX8_debt_6 ml_X8_271 hK.1 (Nat.le_of_ble_eq_true rfl) (by omega) (by omega) ?_
  refine c_debt hH hI hs3 ?_
  refine kt_v ?_
  refine wp_iret dX8_debt_9 rfl rfl ?_
  have h0 := hT (by simp only [mcode, K_car1, e7, e22, e29, e35, e40, h3, ix3, Bool.false_eq_true, decide_true, decide_false, Bool.not_true, Bool.not_false, Bool.and_true, Bool.true_and, Bool.and_false, Bool.false_and, Bool.or_true, Bool.true_or, Bool.or_false, Bool.false_or, if_true, if_false, ite_true, ite_false]) _ hs3 rfl
  exact h0

theorem jn_eq {σ : MS} {N : Nat → Nat} {i a m L t : Nat} (hN : cN σ N) (ea : σ.2.1 25 i = nI a) (em : σ.2.1 26 i = nI m) (el : σ.2.1 23 i = nI L) (et : σ.1 0 = nI t) (ha : a < 4) (hm : m + L ≤ 60) : judNow σ i = if blkF σ (60 * a + m) L = true then 1 else judF σ i L (N 1) (N 3) (N 4) (nI a) (nI m) (σ.2.1 27 i) (nI t) := by
  obtain ⟨n0, n1, n2, n3, n4, n5, e7, e22, e29, e35, e40⟩ := hN
  unfold judNow judNF
  rw [ea, em, el, et, e7, e29, e35, mul60, ix_nI (by omega), ix_nI (by omega), ix_nI (by omega), ix_nI (by omega), ix_nI (by omega)]
set_option maxRecDepth 20000 in
set_option maxHeartbeats 2000000 in
theorem q_judge {E : XE} {d mc ms : Nat} {P : Ps} {G : HP} {own : Nat → Nat} {A : Nat → Nat → Nat} {F : Nat → Int32} {σ : MS} {N : Nat → Nat} (hH : CH E own A F σ N G) {T : Nat} (hI : PI σ N T) {i : Int32} (hmc : 10 ≤ mc) (hms : 60 ≤ ms) (hX : ∀ X, exO (K_car1 σ i) X → P (.inr X) G) (hT : K_car1 σ i = 0 → ∀ j, j < N 2 → i = nI j → P (.inl (some (.int (if σ.2.1 25 j = -1 then -1 else judNow σ j)))) G) : Sp E (d + 11) yX8_judge mc ms [.ref (A 0 0), .int i] G P := by
  obtain ⟨hON, hN, hK, hL, hD, hT, hS, hW, hC, hPm, hY, hF⟩ := id hH
  obtain ⟨n0, n1, n2, n3, n4, n5, e7, e22, e29, e35, e40⟩ := id hN
  refine sp_intro bd_X8_judge (v1_all rfl) (Nat.le_of_ble_eq_true rfl) ?_
  change WX _ _ _ _ _ _ 0 [some (.ref (A 0 0)), some (.int i), none] [] _ 0 0
  refine wp_load (pc' := 1) (j := 0) dX8_judge_0 rfl rfl rfl ?_
  refine wp_load (pc' := 2) (j := 1) dX8_judge_1 rfl rfl rfl ?_
  refine wp_v1 1 6 dX8_judge_2 ml_X8_146 hK.1 (Nat.le_of_ble_eq_true rfl) (by omega) (by omega) ?_
  refine c_carOf hH (by omega) (by omega) (fun h2 => kt_x rfl (hX _ (ex1 (by simp only [mcode, K_car1, e7, e22, e29, e35, e40, if_true, h2, Bool.false_eq_true, decide_true, decide_false, Bool.not_true, Bool.not_false, Bool.and_true, Bool.true_and, Bool.and_false, Bool.false_and, Bool.or_true, Bool.true_or, Bool.or_false, Bool.false_or, if_true, if_false, ite_true, ite_false])))) (fun s2 hs2 es2 h2 => ?_)
  obtain rfl := es2
  have ix2 : ix (nI s2) = s2 := ix_nI (by omega)
  refine kt_v ?_
  refine wp_get (pc' := 8) dX8_judge_5 fl_X8_169 (hC s2 hs2).1.1 rfl rfl ?_
  by_cases hs5 : σ.2.1 25 s2 = -1
  · skip
    rw [show stV A σ s2 = .null from if_pos hs5]
    refine wp_store (pc' := 9) (j := 2) (ls' := [_, _, _]) dX8_judge_8 rfl (Nat.le_of_ble_eq_true rfl) rfl rfl ?_
    refine wp_load (pc' := 10) (j := 2) dX8_judge_9 rfl rfl rfl ?_
    refine wp_non (pc' := 13) dX8_judge_10 rfl ?_
    refine wp_iconst (pc' := 14) (-1) dX8_judge_13 rfl rfl ?_
    refine wp_goto 31 dX8_judge_14 rfl ?_
    refine wp_iret dX8_judge_31 rfl rfl ?_
    have h0 := hT (by simp only [mcode, K_car1, e7, e22, e29, e35, e40, h2, ix2, Bool.false_eq_true, decide_true, decide_false, Bool.not_true, Bool.not_false, Bool.and_true, Bool.true_and, Bool.and_false, Bool.false_and, Bool.or_true, Bool.true_or, Bool.or_false, Bool.false_or, if_true, if_false, ite_true, ite_false]) _ hs2 rfl
    first | rw [if_pos hs5] at h0 | rw [if_neg hs5] at h0
    exact h0
  · skip
    rw [show stV A σ s2 = .ref (A 12 s2) from if_neg hs5]
    obtain ⟨⟨t, ht, et, -, -⟩, -, hI3, -⟩ := id hI
    obtain ⟨⟨L, hL3, hL12, el⟩, h25⟩ := hI3 s2 hs2
    obtain ⟨a, m, ha, ea, em, hmL⟩ := h25 hs5
    rw [el, ix_nI (by omega)] at hmL
    have hst : G (A 12 s2) = some (hO 6 [.ref (A 5 s2), .int (nI a), .int (nI m), .int (σ.2.1 27 s2), .int (F s2)]) := by
      rw [← ea, ← em]; exact ((hC s2 hs2).2 hs5).1
    refine wp_store (pc' := 9) (j := 2) (ls' := [_, _, _]) dX8_judge_8 rfl (Nat.le_of_ble_eq_true rfl) rfl rfl ?_
    refine wp_load (pc' := 10) (j := 2) dX8_judge_9 rfl rfl rfl ?_
    refine wp_nonR 17 dX8_judge_10 rfl ?_
    refine wp_load (pc' := 18) (j := 0) dX8_judge_17 rfl rfl rfl ?_
    refine wp_load (pc' := 19) (j := 2) dX8_judge_18 rfl rfl rfl ?_
    refine wp_load (pc' := 20) (j := 0) dX8_judge_19 rfl rfl rfl ?_
    refine wp_get (pc' := 23) dX8_judge_20 fl_X8_38 hK.1 rfl rfl ?_
    refine wp_load (pc' := 24) (j := 0) dX8_judge_23 rfl rfl rfl ?_
    refine wp_load (pc' := 25) (j := 2) dX8_judge_24 rfl rfl rfl ?_
    refine wp_v1 0 0 dX8_judge_25 ml_X8_216 hK.1 (Nat.le_of_ble_eq_true rfl) (by omega) (by omega) ?_
    refine c_onBlk hH hst hs2 ha el hmL ?_
    refine kt_v ?_
    refine wp_v3 0 0 dX8_judge_28 ml_X8_220 hK.1 (Nat.le_of_ble_eq_true rfl) (by omega) (by omega) ?_
    rw [et]
    refine c_judge hH hI ht hst hs2 el (by omega) ?_
    rw [← jn_eq hN ea em el et ha hmL]
    refine kt_v ?_
    refine wp_iret dX8_judge_31 rfl rfl ?_
    have h0 := hT (by simp only [mcode, K_car1, e7, e22, e29, e35, e40, h2, ix2, Bool.false_eq_true, decide_true, decide_false, Bool.not_true, Bool.not_false, Bool.and_true, Bool.true_and, Bool.and_false, Bool.false_and, Bool.or_true, Bool.true_or, Bool.or_false, Bool.false_or, if_true, if_false, ite_true, ite_false]) _ hs2 rfl
    first | rw [if_pos hs5] at h0 | rw [if_neg hs5] at h0
    exact h0

theorem sw_out {w : Int32} {n : Nat} {x : Int32} (h : inB w 0 x = false) (hx : x.toInt = (n : Int) - 1) : w.toInt < 0 ∨ (n : Int) - 1 < w.toInt := by
  rcases Int.lt_or_le w.toInt 0 with z | z
  · exact Or.inl z
  · rcases Int.lt_or_le ((n : Int) - 1) w.toInt with y | y
    · exact Or.inr y
    · rw [inB_iff.2 ⟨show (0 : Int32).toInt ≤ w.toInt from z, show w.toInt ≤ x.toInt by omega⟩] at h
      exact nomatch h
set_option maxRecDepth 20000 in
set_option maxHeartbeats 2000000 in
theorem q_fine {E : XE} {d mc ms : Nat} {P : Ps} {G : HP} {own : Nat → Nat} {A : Nat → Nat → Nat} {F : Nat → Int32} {σ : MS} {N : Nat → Nat} (hH : CH E own A F σ N G) {T : Nat} (hI : PI σ N T) {i w : Int32} (hmc : 10 ≤ mc) (hms : 60 ≤ ms) (hX : ∀ X, exO (K_fine σ i w) X → P (.inr X) G) (hT : K_fine σ i w = 0 → ∀ j, j < N 5 → i = nI j → P (.inl (some (.int (fineV σ j w)))) G) : Sp E (d + 11) yX8_fine mc ms [.ref (A 0 0), .int i, .int w] G P := by
  obtain ⟨hON, hN, hK, hL, hD, hT, hS, hW, hC, hPm, hY, hF⟩ := id hH
  obtain ⟨n0, n1, n2, n3, n4, n5, e7, e22, e29, e35, e40⟩ := id hN
  refine sp_intro bd_X8_fine (v1_all rfl) (Nat.le_of_ble_eq_true rfl) ?_
  change WX _ _ _ _ _ _ 0 [some (.ref (A 0 0)), some (.int i), some (.int w), none] [] _ 0 0
  refine wp_load (pc' := 1) (j := 0) dX8_fine_0 rfl rfl rfl ?_
  refine wp_load (pc' := 2) (j := 1) dX8_fine_1 rfl rfl rfl ?_
  refine wp_v1 1 6 dX8_fine_2 ml_X8_233 hK.1 (Nat.le_of_ble_eq_true rfl) (by omega) (by omega) ?_
  refine c_fineOf hH (by omega) (by omega) (fun h2 => kt_x rfl (hX _ (ex1 (by simp only [mcode, K_fine, e7, e22, e29, e35, e40, if_true, h2, Bool.false_eq_true, decide_true, decide_false, Bool.not_true, Bool.not_false, Bool.and_true, Bool.true_and, Bool.and_false, Bool.false_and, Bool.or_true, Bool.true_or, Bool.or_false, Bool.false_or, if_true, if_false, ite_true, ite_false])))) (fun s2 hs2 es2 h2 => ?_)
  obtain rfl := es2
  have ix2 : ix (nI s2) = s2 := ix_nI (by omega)
  refine kt_v ?_
  refine wp_store (pc' := 6) (j := 3) (ls' := [_, _, _, _]) dX8_fine_5 rfl (Nat.le_of_ble_eq_true rfl) rfl rfl ?_
  refine wp_load (pc' := 7) (j := 2) dX8_fine_6 rfl rfl rfl ?_
  rcases hb : inB w 0 5 with _ | _
  · skip
    refine wp_swOut 99 dX8_fine_7 (sw_out (n := 6) hb (by decide)) rfl ?_
    refine wp_thr dX8_fine_99 dX8_fine_102 (Or.inr ⟨dX8_fine_103, dX8_fine_106, dX8_fine_109⟩) th_X8_268 rfl (by omega) (Nat.le_of_ble_eq_true rfl) (by omega) (by omega) ?_
    exact hX _ (ex2 (by simp only [mcode, K_fine, e7, e22, e29, e35, e40, h2, hb, Bool.false_eq_true, decide_true, decide_false, Bool.not_true, Bool.not_false, Bool.and_true, Bool.true_and, Bool.and_false, Bool.false_and, Bool.or_true, Bool.true_or, Bool.or_false, Bool.false_or, if_true, if_false, ite_true, ite_false]))
  · skip
    obtain ⟨j, hj, rfl⟩ := clt_nI (n := 6) (show inB w 0 (nI 6 - 1) = true from by rw [show (nI 6 - 1 : Int32) = 5 from by decide]; exact hb) (by decide)
    rcases (show j = 0 ∨ j = 1 ∨ j = 2 ∨ j = 3 ∨ j = 4 ∨ j = 5 from by omega) with rfl | rfl | rfl | rfl | rfl | rfl
    · skip
      refine wp_swIn 44 dX8_fine_7 (by decide) (by decide) rfl rfl ?_
      refine wp_load (pc' := 45) (j := 3) dX8_fine_44 rfl rfl rfl ?_
      refine wp_get (pc' := 48) dX8_fine_45 fl_X8_249 (hF s2 hs2).1.1 rfl rfl ?_
      obtain ⟨x, hx⟩ := (hF s2 hs2).2
      obtain ⟨-, -, -, -, hI5, -⟩ := id hI
      obtain ⟨c, a, m, p, hc, e41, -⟩ := hI5 s2 hs2
      refine wp_get (pc' := 51) dX8_fine_48 fl_X8_263 hx.1 rfl rfl ?_
      refine wp_get (pc' := 54) dX8_fine_51 fl_X8_145 (hC (ix (σ.2.1 41 s2)) (by rw [e41, ix_nI (by omega)]; exact hc)).1.1 rfl rfl ?_
      rw [show nI (ix (σ.2.1 41 s2)) = σ.2.1 41 s2 from by rw [e41, ix_nI (by omega)]]
      refine wp_iret dX8_fine_54 rfl rfl ?_
      have h0 := hT (by simp only [mcode, K_fine, e7, e22, e29, e35, e40, h2, hb, Bool.false_eq_true, decide_true, decide_false, Bool.not_true, Bool.not_false, Bool.and_true, Bool.true_and, Bool.and_false, Bool.false_and, Bool.or_true, Bool.true_or, Bool.or_false, Bool.false_or, if_true, if_false, ite_true, ite_false]) _ hs2 rfl
      exact h0
    · skip
      refine wp_swIn 55 dX8_fine_7 (by decide) (by decide) rfl rfl ?_
      refine wp_load (pc' := 56) (j := 3) dX8_fine_55 rfl rfl rfl ?_
      refine wp_get (pc' := 59) dX8_fine_56 fl_X8_249 (hF s2 hs2).1.1 rfl rfl ?_
      obtain ⟨x, hx⟩ := (hF s2 hs2).2
      obtain ⟨-, -, -, -, hI5, -⟩ := id hI
      obtain ⟨c, a, m, p, hc, e41, -⟩ := hI5 s2 hs2
      refine wp_get (pc' := 62) dX8_fine_59 fl_X8_226 hx.1 rfl rfl ?_
      refine wp_iret dX8_fine_62 rfl rfl ?_
      have h0 := hT (by simp only [mcode, K_fine, e7, e22, e29, e35, e40, h2, hb, Bool.false_eq_true, decide_true, decide_false, Bool.not_true, Bool.not_false, Bool.and_true, Bool.true_and, Bool.and_false, Bool.false_and, Bool.or_true, Bool.true_or, Bool.or_false, Bool.false_or, if_true, if_false, ite_true, ite_false]) _ hs2 rfl
      exact h0
    · skip
      refine wp_swIn 63 dX8_fine_7 (by decide) (by decide) rfl rfl ?_
      refine wp_load (pc' := 64) (j := 3) dX8_fine_63 rfl rfl rfl ?_
      refine wp_get (pc' := 67) dX8_fine_64 fl_X8_250 (hF s2 hs2).1.1 rfl rfl ?_
      refine wp_iret dX8_fine_67 rfl rfl ?_
      have h0 := hT (by simp only [mcode, K_fine, e7, e22, e29, e35, e40, h2, hb, Bool.false_eq_true, decide_true, decide_false, Bool.not_true, Bool.not_false, Bool.and_true, Bool.true_and, Bool.and_false, Bool.false_and, Bool.or_true, Bool.true_or, Bool.or_false, Bool.false_or, if_true, if_false, ite_true, ite_false]) _ hs2 rfl
      exact h0
    · skip
      refine wp_swIn 68 dX8_fine_7 (by decide) (by decide) rfl rfl ?_
      refine wp_load (pc' := 69) (j := 3) dX8_fine_68 rfl rfl rfl ?_
      refine wp_get (pc' := 72) dX8_fine_69 fl_X8_246 (hF s2 hs2).1.1 rfl rfl ?_
      refine wp_iret dX8_fine_72 rfl rfl ?_
      have h0 := hT (by simp only [mcode, K_fine, e7, e22, e29, e35, e40, h2, hb, Bool.false_eq_true, decide_true, decide_false, Bool.not_true, Bool.not_false, Bool.and_true, Bool.true_and, Bool.and_false, Bool.false_and, Bool.or_true, Bool.true_or, Bool.or_false, Bool.false_or, if_true, if_false, ite_true, ite_false]) _ hs2 rfl
      exact h0
    · skip
      refine wp_swIn 73 dX8_fine_7 (by decide) (by decide) rfl rfl ?_
      refine wp_load (pc' := 74) (j := 3) dX8_fine_73 rfl rfl rfl ?_
      refine wp_get (pc' := 77) dX8_fine_74 fl_X8_253 (hF s2 hs2).1.1 rfl rfl ?_
      refine wp_ifeqB (pc' := 80) 84 dX8_fine_77 rfl rfl (fun h77 => ?_) (fun h77 => ?_)
      · skip
        refine wp_iconst (pc' := 85) (0) dX8_fine_84 rfl rfl ?_
        refine wp_iret dX8_fine_85 rfl rfl ?_
        have h0 := hT (by simp only [mcode, K_fine, e7, e22, e29, e35, e40, h2, hb, h77, Bool.false_eq_true, decide_true, decide_false, Bool.not_true, Bool.not_false, Bool.and_true, Bool.true_and, Bool.and_false, Bool.false_and, Bool.or_true, Bool.true_or, Bool.or_false, Bool.false_or, if_true, if_false, ite_true, ite_false]) _ hs2 rfl
        change P (.inl (some (.int (b2i (σ.2.2 50 s2))))) G at h0
        rw [h77] at h0
        exact h0
      · skip
        refine wp_iconst (pc' := 81) (1) dX8_fine_80 rfl rfl ?_
        refine wp_goto 85 dX8_fine_81 rfl ?_
        refine wp_iret dX8_fine_85 rfl rfl ?_
        have h0 := hT (by simp only [mcode, K_fine, e7, e22, e29, e35, e40, h2, hb, h77, Bool.false_eq_true, decide_true, decide_false, Bool.not_true, Bool.not_false, Bool.and_true, Bool.true_and, Bool.and_false, Bool.false_and, Bool.or_true, Bool.true_or, Bool.or_false, Bool.false_or, if_true, if_false, ite_true, ite_false]) _ hs2 rfl
        change P (.inl (some (.int (b2i (σ.2.2 50 s2))))) G at h0
        rw [h77] at h0
        exact h0
    · skip
      refine wp_swIn 86 dX8_fine_7 (by decide) (by decide) rfl rfl ?_
      refine wp_load (pc' := 87) (j := 3) dX8_fine_86 rfl rfl rfl ?_
      refine wp_get (pc' := 90) dX8_fine_87 fl_X8_243 (hF s2 hs2).1.1 rfl rfl ?_
      refine wp_ifeqB (pc' := 93) 97 dX8_fine_90 rfl rfl (fun h90 => ?_) (fun h90 => ?_)
      · skip
        refine wp_iconst (pc' := 98) (0) dX8_fine_97 rfl rfl ?_
        refine wp_iret dX8_fine_98 rfl rfl ?_
        have h0 := hT (by simp only [mcode, K_fine, e7, e22, e29, e35, e40, h2, hb, h90, Bool.false_eq_true, decide_true, decide_false, Bool.not_true, Bool.not_false, Bool.and_true, Bool.true_and, Bool.and_false, Bool.false_and, Bool.or_true, Bool.true_or, Bool.or_false, Bool.false_or, if_true, if_false, ite_true, ite_false]) _ hs2 rfl
        change P (.inl (some (.int (b2i (σ.2.2 51 s2))))) G at h0
        rw [h90] at h0
        exact h0
      · skip
        refine wp_iconst (pc' := 94) (1) dX8_fine_93 rfl rfl ?_
        refine wp_goto 98 dX8_fine_94 rfl ?_
        refine wp_iret dX8_fine_98 rfl rfl ?_
        have h0 := hT (by simp only [mcode, K_fine, e7, e22, e29, e35, e40, h2, hb, h90, Bool.false_eq_true, decide_true, decide_false, Bool.not_true, Bool.not_false, Bool.and_true, Bool.true_and, Bool.and_false, Bool.false_and, Bool.or_true, Bool.true_or, Bool.or_false, Bool.false_or, if_true, if_false, ite_true, ite_false]) _ hs2 rfl
        change P (.inl (some (.int (b2i (σ.2.2 51 s2))))) G at h0
        rw [h90] at h0
        exact h0

set_option maxRecDepth 20000 in
set_option maxHeartbeats 2000000 in
theorem q_streetIs {E : XE} {d mc ms : Nat} {P : Ps} {G : HP} {own : Nat → Nat} {A : Nat → Nat → Nat} {F : Nat → Int32} {σ : MS} {N : Nat → Nat} (hH : CH E own A F σ N G) {T : Nat} (hI : PI σ N T) {i w : Int32} (hmc : 10 ≤ mc) (hms : 60 ≤ ms) (hX : ∀ X, exO (K_streetIs i w) X → P (.inr X) G) (hT2 : K_streetIs i w = 0 → ∀ j, j < 4 → i = nI j → P (.inl (some (.int (strV σ j (N 2) w)))) G) : Sp E (d + 11) yX8_streetIs mc ms [.ref (A 0 0), .int i, .int w] G P := by
  obtain ⟨hON, hN, hK, hL, hD, hT, hS, hW, hC, hPm, hY, hF⟩ := id hH
  obtain ⟨n0, n1, n2, n3, n4, n5, e7, e22, e29, e35, e40⟩ := id hN
  refine sp_intro bd_X8_streetIs (v1_all rfl) (Nat.le_of_ble_eq_true rfl) ?_
  change WX _ _ _ _ _ _ 0 [some (.ref (A 0 0)), some (.int i), some (.int w), none] [] _ 0 0
  refine wp_load (pc' := 1) (j := 0) dX8_streetIs_0 rfl rfl rfl ?_
  refine wp_load (pc' := 2) (j := 1) dX8_streetIs_1 rfl rfl rfl ?_
  refine wp_v1 1 6 dX8_streetIs_2 ml_X8_49 hK.1 (Nat.le_of_ble_eq_true rfl) (by omega) (by omega) ?_
  refine c_streetOf hH (by omega) (by omega) (fun h2 => kt_x rfl (hX _ (ex1 (by simp only [mcode, K_streetIs, e7, e22, e29, e35, e40, if_true, h2, Bool.false_eq_true, decide_true, decide_false, Bool.not_true, Bool.not_false, Bool.and_true, Bool.true_and, Bool.and_false, Bool.false_and, Bool.or_true, Bool.true_or, Bool.or_false, Bool.false_or, if_true, if_false, ite_true, ite_false])))) (fun s2 hs2 es2 h2 => ?_)
  obtain rfl := es2
  have ix2 : ix (nI s2) = s2 := ix_nI (by omega)
  refine kt_v ?_
  refine wp_store (pc' := 6) (j := 3) (ls' := [_, _, _, _]) dX8_streetIs_5 rfl (Nat.le_of_ble_eq_true rfl) rfl rfl ?_
  refine wp_load (pc' := 7) (j := 2) dX8_streetIs_6 rfl rfl rfl ?_
  rcases hb : inB w 0 4 with _ | _
  · skip
    refine wp_swOut 65 dX8_streetIs_7 (sw_out (n := 5) hb (by decide)) rfl ?_
    refine wp_thr dX8_streetIs_65 dX8_streetIs_68 (Or.inr ⟨dX8_streetIs_69, dX8_streetIs_72, dX8_streetIs_75⟩) th_X8_280 rfl (by omega) (Nat.le_of_ble_eq_true rfl) (by omega) (by omega) ?_
    exact hX _ (ex2 (by simp only [mcode, K_streetIs, e7, e22, e29, e35, e40, h2, hb, Bool.false_eq_true, decide_true, decide_false, Bool.not_true, Bool.not_false, Bool.and_true, Bool.true_and, Bool.and_false, Bool.false_and, Bool.or_true, Bool.true_or, Bool.or_false, Bool.false_or, if_true, if_false, ite_true, ite_false]))
  · skip
    obtain ⟨j, hj, rfl⟩ := clt_nI (n := 5) (show inB w 0 (nI 5 - 1) = true from by rw [show (nI 5 - 1 : Int32) = 4 from by decide]; exact hb) (by decide)
    rcases (show j = 0 ∨ j = 1 ∨ j = 2 ∨ j = 3 ∨ j = 4 from by omega) with rfl | rfl | rfl | rfl | rfl
    · skip
      refine wp_swIn 40 dX8_streetIs_7 (by decide) (by decide) rfl rfl ?_
      refine wp_load (pc' := 41) (j := 3) dX8_streetIs_40 rfl rfl rfl ?_
      refine wp_get (pc' := 44) dX8_streetIs_41 fl_X8_210 (hT s2 hs2).1.1 rfl rfl ?_
      refine wp_iret dX8_streetIs_44 rfl rfl ?_
      exact hT2 (by simp only [mcode, K_streetIs, h2, hb, Bool.false_eq_true, decide_true, decide_false, Bool.not_true, Bool.not_false, Bool.and_true, Bool.true_and, Bool.and_false, Bool.false_and, Bool.or_true, Bool.true_or, Bool.or_false, Bool.false_or, if_true, if_false, ite_true, ite_false]) _ hs2 rfl
    · skip
      refine wp_swIn 45 dX8_streetIs_7 (by decide) (by decide) rfl rfl ?_
      refine wp_load (pc' := 46) (j := 3) dX8_streetIs_45 rfl rfl rfl ?_
      refine wp_get (pc' := 49) dX8_streetIs_46 fl_X8_184 (hT s2 hs2).1.1 rfl rfl ?_
      refine wp_iret dX8_streetIs_49 rfl rfl ?_
      exact hT2 (by simp only [mcode, K_streetIs, h2, hb, Bool.false_eq_true, decide_true, decide_false, Bool.not_true, Bool.not_false, Bool.and_true, Bool.true_and, Bool.and_false, Bool.false_and, Bool.or_true, Bool.true_or, Bool.or_false, Bool.false_or, if_true, if_false, ite_true, ite_false]) _ hs2 rfl
    · skip
      refine wp_swIn 50 dX8_streetIs_7 (by decide) (by decide) rfl rfl ?_
      refine wp_load (pc' := 51) (j := 3) dX8_streetIs_50 rfl rfl rfl ?_
      refine wp_get (pc' := 54) dX8_streetIs_51 fl_X8_213 (hT s2 hs2).1.1 rfl rfl ?_
      refine wp_iret dX8_streetIs_54 rfl rfl ?_
      exact hT2 (by simp only [mcode, K_streetIs, h2, hb, Bool.false_eq_true, decide_true, decide_false, Bool.not_true, Bool.not_false, Bool.and_true, Bool.true_and, Bool.and_false, Bool.false_and, Bool.or_true, Bool.true_or, Bool.or_false, Bool.false_or, if_true, if_false, ite_true, ite_false]) _ hs2 rfl
    · skip
      refine wp_swIn 55 dX8_streetIs_7 (by decide) (by decide) rfl rfl ?_
      refine wp_load (pc' := 56) (j := 3) dX8_streetIs_55 rfl rfl rfl ?_
      refine wp_get (pc' := 59) dX8_streetIs_56 fl_X8_224 (hT s2 hs2).1.1 rfl rfl ?_
      refine wp_iret dX8_streetIs_59 rfl rfl ?_
      exact hT2 (by simp only [mcode, K_streetIs, h2, hb, Bool.false_eq_true, decide_true, decide_false, Bool.not_true, Bool.not_false, Bool.and_true, Bool.true_and, Bool.and_false, Bool.false_and, Bool.or_true, Bool.true_or, Bool.or_false, Bool.false_or, if_true, if_false, ite_true, ite_false]) _ hs2 rfl
    · skip
      refine wp_swIn 60 dX8_streetIs_7 (by decide) (by decide) rfl rfl ?_
      refine wp_load (pc' := 61) (j := 3) dX8_streetIs_60 rfl rfl rfl ?_
      refine wp_get (pc' := 64) dX8_streetIs_61 fl_X8_277 (hT s2 hs2).1.1 rfl rfl ?_
      refine wp_iret dX8_streetIs_64 rfl rfl ?_
      exact hT2 (by simp only [mcode, K_streetIs, h2, hb, Bool.false_eq_true, decide_true, decide_false, Bool.not_true, Bool.not_false, Bool.and_true, Bool.true_and, Bool.and_false, Bool.false_and, Bool.or_true, Bool.true_or, Bool.or_false, Bool.false_or, if_true, if_false, ite_true, ite_false]) _ hs2 rfl

