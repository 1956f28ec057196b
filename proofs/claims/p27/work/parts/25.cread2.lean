/-! the class: more readings -/
theorem near_eq {a b : Bool} : (a && !b) = !(b || !a) := by cases a <;> cases b <;> rfl
set_option maxRecDepth 20000 in
set_option maxHeartbeats 2000000 in
theorem c_streetOk {E : XE} {d mc ms : Nat} {P : Ps} {G : HP} {own : Nat → Nat} {A : Nat → Nat → Nat} {F : Nat → Int32} {σ : MS} {N : Nat → Nat} (hH : CH E own A F σ N G) {a : Nat} (ha : a < 4) (hP : P (.inl (some (.ref (A 3 a)))) G) : Sp E (d + 4) yX8_streetOf mc ms [.ref (A 0 0), .int (nI a)] G P := by
  obtain ⟨hON, hN, hK, hL, hD, hT, hS, hW, hC, hPm, hY, hF⟩ := id hH
  obtain ⟨n0, n1, n2, n3, n4, n5, e7, e22, e29, e35, e40⟩ := id hN
  obtain ⟨mo0, hl0⟩ := (hL 0 (by decide)).1.1
  refine sp_intro bd_X8_streetOf (v1_all rfl) (Nat.le_of_ble_eq_true rfl) ?_
  change WX _ _ _ _ _ _ 0 [some (.ref (A 0 0)), some (.int (nI a))] [] _ 0 0
  refine wp_load (pc' := 1) (j := 1) dX8_streetOf_0 rfl rfl rfl ?_
  refine wp_load (pc' := 2) (j := 0) dX8_streetOf_1 rfl rfl rfl ?_
  refine wp_get (pc' := 5) dX8_streetOf_2 fl_X8_12 hK.1 rfl rfl ?_
  refine wp_v0 0 0 dX8_streetOf_5 ml_X8_88 hl0 (Nat.le_of_ble_eq_true rfl) (by omega) (by omega) ?_
  refine k_size (hL 0 (by decide)).1 ?_
  refine kt_v ?_
  refine wp_s2 0 0 dX8_streetOf_8 ml_X8_111 (Nat.le_of_ble_eq_true rfl) (by omega) (by omega) ?_
  refine c_isIndex _ (n := N 0) rfl (by omega) ?_
  rw [show inB (nI a) 0 (nI (N 0) - 1) = true from by rw [n0]; exact in_nI ha (by decide), b2i_t]
  refine kt_v ?_
  refine wp_ifT 25 dX8_streetOf_11 rfl (cmpT rfl) ?_
  refine wp_load (pc' := 26) (j := 0) dX8_streetOf_25 rfl rfl rfl ?_
  refine wp_get (pc' := 29) dX8_streetOf_26 fl_X8_12 hK.1 rfl rfl ?_
  refine wp_load (pc' := 30) (j := 1) dX8_streetOf_29 rfl rfl rfl ?_
  refine wp_v1 0 0 dX8_streetOf_30 ml_X8_122 hl0 (Nat.le_of_ble_eq_true rfl) (by omega) (by omega) ?_
  refine k_get (hL 0 (by decide)).1 (by omega) (by omega) ?_
  refine kt_v ?_
  refine wp_cast (pc' := 36) dX8_streetOf_33 cw_X8_42 (hT a (by omega)).1.1 rfl rfl rfl ?_
  refine wp_aret dX8_streetOf_36 rfl (Or.inl ⟨_, rfl⟩) (Or.inr ⟨_, rfl⟩) ?_
  exact hP

set_option maxRecDepth 20000 in
set_option maxHeartbeats 2000000 in
theorem l_onBlk {E : XE} {d0 d mc ms : Nat} {P : Ps} {G : HP} {own : Nat → Nat} {A : Nat → Nat → Nat} {F : Nat → Int32} {σ : MS} {N : Nat → Nat} (hd : d = d0 + 3) (hH : CH E own A F σ N G) {sa i a m L : Nat} {fr fo : Int32} (hs : G sa = some (hO 6 [.ref (A 5 i), .int (nI a), .int (nI m), .int fr, .int fo])) (hi : i < N 2) (ha : a < 4) (hl : σ.2.1 23 i = nI L) (hmL : m + L ≤ 60) (hP : P (.inl (some (.int (b2i (anyF (fun k => σ.2.2 1 (60 * a + m + k)) L))))) G) : ∀ j k, k + j = L → ∀ (hb : anyF (fun k => σ.2.2 1 (60 * a + m + k)) k = false), WX E d (yX8_isOnBlocked, cX8_isOnBlocked, (some .boolean), []) mc ms P 11 [some (.ref (A 0 0)), some (.ref sa), some (.ref (A 3 a)), some (.int (nI k))] [] G 0 0
  | 0, k, hk, hb => by
    subst hd
    have hr0 := b2i_t
    obtain ⟨hON, hN, hK, hL, hD, hT, hS, hW, hC, hPm, hY, hF⟩ := id hH
    obtain ⟨n0, n1, n2, n3, n4, n5, e7, e22, e29, e35, e40⟩ := id hN
    
    refine wp_load (pc' := 12) (j := 3) dX8_isOnBlocked_11 rfl rfl rfl ?_
    refine wp_load (pc' := 13) (j := 1) dX8_isOnBlocked_12 rfl rfl rfl ?_
    refine wp_get (pc' := 16) dX8_isOnBlocked_13 fl_X8_263 hs rfl rfl ?_
    refine wp_get (pc' := 19) dX8_isOnBlocked_16 fl_X8_173 (hC i hi).1.1 rfl rfl ?_
    refine wp_icmpT 43 dX8_isOnBlocked_19 rfl (cgeT hl (by omega) (by omega)) ?_
    refine wp_iconst (pc' := 44) (0) dX8_isOnBlocked_43 rfl rfl ?_
    refine wp_iret dX8_isOnBlocked_44 rfl rfl ?_
    obtain rfl : k = L := by omega
    rw [hb] at hP
    exact hP
  | j + 1, k, hk, hb => by
    have ih := l_onBlk (E := E) (d := d) (mc := mc) (ms := ms) hd hH hs hi ha hl hmL hP j (k + 1) (by omega)
    subst hd
    have hr0 := b2i_t
    obtain ⟨hON, hN, hK, hL, hD, hT, hS, hW, hC, hPm, hY, hF⟩ := id hH
    obtain ⟨n0, n1, n2, n3, n4, n5, e7, e22, e29, e35, e40⟩ := id hN
    
    refine wp_load (pc' := 12) (j := 3) dX8_isOnBlocked_11 rfl rfl rfl ?_
    refine wp_load (pc' := 13) (j := 1) dX8_isOnBlocked_12 rfl rfl rfl ?_
    refine wp_get (pc' := 16) dX8_isOnBlocked_13 fl_X8_263 hs rfl rfl ?_
    refine wp_get (pc' := 19) dX8_isOnBlocked_16 fl_X8_173 (hC i hi).1.1 rfl rfl ?_
    refine wp_icmpF (pc' := 22) 43 dX8_isOnBlocked_19 rfl rfl (cgeF hl (by omega) (by omega)) ?_
    refine wp_load (pc' := 23) (j := 2) dX8_isOnBlocked_22 rfl rfl rfl ?_
    refine wp_load (pc' := 24) (j := 1) dX8_isOnBlocked_23 rfl rfl rfl ?_
    refine wp_get (pc' := 27) dX8_isOnBlocked_24 fl_X8_325 hs rfl rfl ?_
    refine wp_load (pc' := 28) (j := 3) dX8_isOnBlocked_27 rfl rfl rfl ?_
    refine wp_pure (pc' := 29) dX8_isOnBlocked_28 rfl rfl ?_
    refine wp_v1 0 0 dX8_isOnBlocked_29 ml_X8_57 (hT a ha).1.1 (Nat.le_of_ble_eq_true rfl) (by omega) (by omega) ?_
    rw [nI_add]
    obtain ⟨f, hf1, hf2⟩ := (hT a ha).2
    refine c_isBlocked (hT a ha).1.1 hf1.1 (show m + k < 60 by omega) (by rw [hf2 (m + k) (by omega), ← Nat.add_assoc]) ?_
    refine kt_v ?_
    refine wp_ifeqB (pc' := 35) 37 dX8_isOnBlocked_32 rfl rfl (fun h32 => ?_) (fun h32 => ?_)
    · skip
      refine wp_iinc (pc' := 40) (j := 3) (ls' := [_, _, _, _]) (nI (k + 1)) dX8_isOnBlocked_37 rfl (nI_1 k) rfl rfl ?_
      refine wp_goto 11 dX8_isOnBlocked_40 rfl ?_
      have hx : (σ.2.2 1 (60 * a + m + k)) = false := by
        simp only [hr0, h32, Bool.false_eq_true, decide_true, decide_false, Bool.not_true, Bool.not_false, Bool.and_true, Bool.true_and, Bool.and_false, Bool.false_and, Bool.or_true, Bool.true_or, Bool.or_false, Bool.false_or, if_true, if_false, ite_true, ite_false]
      exact ih  (any_s hb hx)
    · skip
      refine wp_iconst (pc' := 36) (1) dX8_isOnBlocked_35 rfl rfl ?_
      refine wp_iret dX8_isOnBlocked_36 rfl rfl ?_
      have hx : (σ.2.2 1 (60 * a + m + k)) = true := by
        simp only [hr0, h32, Bool.false_eq_true, decide_true, decide_false, Bool.not_true, Bool.not_false, Bool.and_true, Bool.true_and, Bool.and_false, Bool.false_and, Bool.or_true, Bool.true_or, Bool.or_false, Bool.false_or, if_true, if_false, ite_true, ite_false]
      rw [any_t (show k < L from by omega) hx] at hP
      exact hP

set_option maxRecDepth 20000 in
set_option maxHeartbeats 2000000 in
theorem c_onBlk {E : XE} {d mc ms : Nat} {P : Ps} {G : HP} {own : Nat → Nat} {A : Nat → Nat → Nat} {F : Nat → Int32} {σ : MS} {N : Nat → Nat} (hH : CH E own A F σ N G) {sa i a m L : Nat} {fr fo : Int32} (hs : G sa = some (hO 6 [.ref (A 5 i), .int (nI a), .int (nI m), .int fr, .int fo])) (hi : i < N 2) (ha : a < 4) (hl : σ.2.1 23 i = nI L) (hmL : m + L ≤ 60) (hP : P (.inl (some (.int (b2i (blkF σ (60 * a + m) L))))) G) : Sp E (d + 5) yX8_isOnBlocked mc ms [.ref (A 0 0), .ref sa] G P := by
  obtain ⟨hON, hN, hK, hL, hD, hT, hS, hW, hC, hPm, hY, hF⟩ := id hH
  obtain ⟨n0, n1, n2, n3, n4, n5, e7, e22, e29, e35, e40⟩ := id hN
  rw [blkF_any] at hP
  refine sp_intro bd_X8_isOnBlocked (v1_all rfl) (Nat.le_of_ble_eq_true rfl) ?_
  change WX _ _ _ _ _ _ 0 [some (.ref (A 0 0)), some (.ref sa), none, none] [] _ 0 0
  refine wp_load (pc' := 1) (j := 0) dX8_isOnBlocked_0 rfl rfl rfl ?_
  refine wp_load (pc' := 2) (j := 1) dX8_isOnBlocked_1 rfl rfl rfl ?_
  refine wp_get (pc' := 5) dX8_isOnBlocked_2 fl_X8_226 hs rfl rfl ?_
  refine wp_v1 0 0 dX8_isOnBlocked_5 ml_X8_49 hK.1 (Nat.le_of_ble_eq_true rfl) (by omega) (by omega) ?_
  refine c_streetOk hH ha ?_
  refine kt_v ?_
  refine wp_store (pc' := 9) (j := 2) (ls' := [_, _, _, _]) dX8_isOnBlocked_8 rfl (Nat.le_of_ble_eq_true rfl) rfl rfl ?_
  refine wp_iconst (pc' := 10) (0) dX8_isOnBlocked_9 rfl rfl ?_
  refine wp_store (pc' := 11) (j := 3) (ls' := [_, _, _, _]) dX8_isOnBlocked_10 rfl (Nat.le_of_ble_eq_true rfl) rfl rfl ?_
  exact l_onBlk rfl hH hs hi ha hl hmL hP L 0 (by omega) rfl

set_option maxRecDepth 20000 in
set_option maxHeartbeats 2000000 in
theorem l_forb {E : XE} {d0 d mc ms : Nat} {P : Ps} {G : HP} {own : Nat → Nat} {A : Nat → Nat → Nat} {F : Nat → Int32} {σ : MS} {N : Nat → Nat} (hd : d = d0 + 4) (hH : CH E own A F σ N G) {T : Nat} (hI : PI σ N T) {q : Nat} (hq : q ≤ 49999) {sa i : Nat} {s mt fr fo : Int32} (hs : G sa = some (hO 6 [.ref (A 5 i), .int s, .int mt, .int fr, .int fo])) (hi : i < N 2) {L : Nat} (hl : σ.2.1 23 i = nI L) (hL60 : L ≤ 60) {as : Int32} (hP : P (.inl (some (.int (b2i (anyF (fun k => match ruleO σ s (mt + nI k) (nI q) (N 1) with | none => false | some f => !hasB (σ.2.1 11 f) as) L))))) G) : ∀ j k, k + j = L → ∀ z5 : Option Value, ∀ (hb : anyF (fun k => match ruleO σ s (mt + nI k) (nI q) (N 1) with | none => false | some f => !hasB (σ.2.1 11 f) as) k = false), WX E d (yX8_isForbidden, cX8_isForbidden, (some .boolean), []) mc ms P 17 [some (.ref (A 0 0)), some (.ref sa), some (.int (nI q)), some (.int as), some (.int (nI k)), z5] [] G 0 0
  | 0, k, hk, z5, hb => by
    subst hd
    have hr0 := b2i_t
    obtain ⟨hON, hN, hK, hL, hD, hT, hS, hW, hC, hPm, hY, hF⟩ := id hH
    obtain ⟨n0, n1, n2, n3, n4, n5, e7, e22, e29, e35, e40⟩ := id hN
    
    refine wp_load (pc' := 19) (j := 4) dX8_isForbidden_17 rfl rfl rfl ?_
    refine wp_load (pc' := 20) (j := 1) dX8_isForbidden_19 rfl rfl rfl ?_
    refine wp_get (pc' := 23) dX8_isForbidden_20 fl_X8_263 hs rfl rfl ?_
    refine wp_get (pc' := 26) dX8_isForbidden_23 fl_X8_173 (hC i hi).1.1 rfl rfl ?_
    refine wp_icmpT 69 dX8_isForbidden_26 rfl (cgeT hl (by omega) (by omega)) ?_
    refine wp_iconst (pc' := 70) (0) dX8_isForbidden_69 rfl rfl ?_
    refine wp_iret dX8_isForbidden_70 rfl rfl ?_
    obtain rfl : k = L := by omega
    rw [hb] at hP
    exact hP
  | j + 1, k, hk, z5, hb => by
    have ih := l_forb (E := E) (d := d) (mc := mc) (ms := ms) hd hH hI hq hs hi hl hL60 hP j (k + 1) (by omega)
    subst hd
    have hr0 := b2i_t
    obtain ⟨hON, hN, hK, hL, hD, hT, hS, hW, hC, hPm, hY, hF⟩ := id hH
    obtain ⟨n0, n1, n2, n3, n4, n5, e7, e22, e29, e35, e40⟩ := id hN
    
    refine wp_load (pc' := 19) (j := 4) dX8_isForbidden_17 rfl rfl rfl ?_
    refine wp_load (pc' := 20) (j := 1) dX8_isForbidden_19 rfl rfl rfl ?_
    refine wp_get (pc' := 23) dX8_isForbidden_20 fl_X8_263 hs rfl rfl ?_
    refine wp_get (pc' := 26) dX8_isForbidden_23 fl_X8_173 (hC i hi).1.1 rfl rfl ?_
    refine wp_icmpF (pc' := 29) 69 dX8_isForbidden_26 rfl rfl (cgeF hl (by omega) (by omega)) ?_
    refine wp_load (pc' := 30) (j := 0) dX8_isForbidden_29 rfl rfl rfl ?_
    refine wp_load (pc' := 31) (j := 1) dX8_isForbidden_30 rfl rfl rfl ?_
    refine wp_get (pc' := 34) dX8_isForbidden_31 fl_X8_226 hs rfl rfl ?_
    refine wp_load (pc' := 35) (j := 1) dX8_isForbidden_34 rfl rfl rfl ?_
    refine wp_get (pc' := 38) dX8_isForbidden_35 fl_X8_325 hs rfl rfl ?_
    refine wp_load (pc' := 40) (j := 4) dX8_isForbidden_38 rfl rfl rfl ?_
    refine wp_pure (pc' := 41) dX8_isForbidden_40 rfl rfl ?_
    refine wp_load (pc' := 42) (j := 2) dX8_isForbidden_41 rfl rfl rfl ?_
    refine wp_v3 0 0 dX8_isForbidden_42 ml_X8_130 hK.1 (Nat.le_of_ble_eq_true rfl) (by omega) (by omega) ?_
    refine c_rule hH hI hq ?_
    refine kt_v ?_
    rcases hr : ruleO σ s (mt + nI k) (nI q) (N 1) with _ | f
    · skip
      refine wp_store (pc' := 47) (j := 5) (ls' := [_, _, _, _, _, _]) dX8_isForbidden_45 rfl (Nat.le_of_ble_eq_true rfl) rfl rfl ?_
      refine wp_load (pc' := 49) (j := 5) dX8_isForbidden_47 rfl rfl rfl ?_
      refine wp_nul 63 dX8_isForbidden_49 rfl ?_
      refine wp_iinc (pc' := 66) (j := 4) (ls' := [_, _, _, _, _, _]) (nI (k + 1)) dX8_isForbidden_63 rfl (nI_1 k) rfl rfl ?_
      refine wp_goto 17 dX8_isForbidden_66 rfl ?_
      have hx : (match ruleO σ s (mt + nI k) (nI q) (N 1) with | none => false | some f => !hasB (σ.2.1 11 f) as) = false := by
        simp only [hr0, hr, Bool.false_eq_true, decide_true, decide_false, Bool.not_true, Bool.not_false, Bool.and_true, Bool.true_and, Bool.and_false, Bool.false_and, Bool.or_true, Bool.true_or, Bool.or_false, Bool.false_or, if_true, if_false, ite_true, ite_false]
      exact ih _ (any_s hb hx)
    · skip
      have hf := ruleO_lt hr
      refine wp_store (pc' := 47) (j := 5) (ls' := [_, _, _, _, _, _]) dX8_isForbidden_45 rfl (Nat.le_of_ble_eq_true rfl) rfl rfl ?_
      refine wp_load (pc' := 49) (j := 5) dX8_isForbidden_47 rfl rfl rfl ?_
      refine wp_nulR (pc' := 52) dX8_isForbidden_49 rfl ?_
      refine wp_load (pc' := 54) (j := 5) dX8_isForbidden_52 rfl rfl rfl ?_
      refine wp_load (pc' := 55) (j := 3) dX8_isForbidden_54 rfl rfl rfl ?_
      refine wp_v1 0 0 dX8_isForbidden_55 ml_X8_341 (hS f hf).1.1 (Nat.le_of_ble_eq_true rfl) (by omega) (by omega) ?_
      refine c_lets (hS f hf).1.1 ?_
      refine kt_v ?_
      refine wp_ifneB (pc' := 61) 63 dX8_isForbidden_58 rfl rfl (fun h58 => ?_) (fun h58 => ?_)
      · skip
        refine wp_iinc (pc' := 66) (j := 4) (ls' := [_, _, _, _, _, _]) (nI (k + 1)) dX8_isForbidden_63 rfl (nI_1 k) rfl rfl ?_
        refine wp_goto 17 dX8_isForbidden_66 rfl ?_
        have hx : (match ruleO σ s (mt + nI k) (nI q) (N 1) with | none => false | some f => !hasB (σ.2.1 11 f) as) = false := by
          simp only [hr0, hr, h58, Bool.false_eq_true, decide_true, decide_false, Bool.not_true, Bool.not_false, Bool.and_true, Bool.true_and, Bool.and_false, Bool.false_and, Bool.or_true, Bool.true_or, Bool.or_false, Bool.false_or, if_true, if_false, ite_true, ite_false]
        exact ih _ (any_s hb hx)
      · skip
        refine wp_iconst (pc' := 62) (1) dX8_isForbidden_61 rfl rfl ?_
        refine wp_iret dX8_isForbidden_62 rfl rfl ?_
        have hx : (match ruleO σ s (mt + nI k) (nI q) (N 1) with | none => false | some f => !hasB (σ.2.1 11 f) as) = true := by
          simp only [hr0, hr, h58, Bool.false_eq_true, decide_true, decide_false, Bool.not_true, Bool.not_false, Bool.and_true, Bool.true_and, Bool.and_false, Bool.false_and, Bool.or_true, Bool.true_or, Bool.or_false, Bool.false_or, if_true, if_false, ite_true, ite_false]
        rw [any_t (show k < L from by omega) hx] at hP
        exact hP

set_option maxRecDepth 20000 in
set_option maxHeartbeats 2000000 in
theorem c_forb {E : XE} {d mc ms : Nat} {P : Ps} {G : HP} {own : Nat → Nat} {A : Nat → Nat → Nat} {F : Nat → Int32} {σ : MS} {N : Nat → Nat} (hH : CH E own A F σ N G) {T : Nat} (hI : PI σ N T) {q : Nat} (hq : q ≤ 49999) {sa i : Nat} {s mt fr fo : Int32} (hs : G sa = some (hO 6 [.ref (A 5 i), .int s, .int mt, .int fr, .int fo])) (hi : i < N 2) {L : Nat} (hl : σ.2.1 23 i = nI L) (hL60 : L ≤ 60) (hP : P (.inl (some (.int (b2i (forbF σ (N 1) s mt (nI q) (userOnF σ i s (nI q / 96) (N 3)) L))))) G) : Sp E (d + 6) yX8_isForbidden mc ms [.ref (A 0 0), .ref sa, .int (nI q)] G P := by
  obtain ⟨hON, hN, hK, hL, hD, hT, hS, hW, hC, hPm, hY, hF⟩ := id hH
  obtain ⟨n0, n1, n2, n3, n4, n5, e7, e22, e29, e35, e40⟩ := id hN
  rw [forbF_any] at hP
  refine sp_intro bd_X8_isForbidden (v1_all rfl) (Nat.le_of_ble_eq_true rfl) ?_
  change WX _ _ _ _ _ _ 0 [some (.ref (A 0 0)), some (.ref sa), some (.int (nI q)), none, none, none] [] _ 0 0
  refine wp_load (pc' := 1) (j := 0) dX8_isForbidden_0 rfl rfl rfl ?_
  refine wp_load (pc' := 2) (j := 1) dX8_isForbidden_1 rfl rfl rfl ?_
  refine wp_get (pc' := 5) dX8_isForbidden_2 fl_X8_263 hs rfl rfl ?_
  refine wp_load (pc' := 6) (j := 1) dX8_isForbidden_5 rfl rfl rfl ?_
  refine wp_get (pc' := 9) dX8_isForbidden_6 fl_X8_226 hs rfl rfl ?_
  refine wp_load (pc' := 10) (j := 2) dX8_isForbidden_9 rfl rfl rfl ?_
  refine wp_v3 0 0 dX8_isForbidden_10 ml_X8_165 hK.1 (Nat.le_of_ble_eq_true rfl) (by omega) (by omega) ?_
  refine c_userOf hH hi ?_
  refine kt_v ?_
  refine wp_store (pc' := 14) (j := 3) (ls' := [_, _, _, _, _, _]) dX8_isForbidden_13 rfl (Nat.le_of_ble_eq_true rfl) rfl rfl ?_
  refine wp_iconst (pc' := 15) (0) dX8_isForbidden_14 rfl rfl ?_
  refine wp_store (pc' := 17) (j := 4) (ls' := [_, _, _, _, _, _]) dX8_isForbidden_15 rfl (Nat.le_of_ble_eq_true rfl) rfl rfl ?_
  exact l_forb rfl hH hI hq hs hi hl hL60 hP L 0 (by omega) none rfl

set_option maxRecDepth 20000 in
set_option maxHeartbeats 2000000 in
theorem c_judge {E : XE} {d mc ms : Nat} {P : Ps} {G : HP} {own : Nat → Nat} {A : Nat → Nat → Nat} {F : Nat → Int32} {σ : MS} {N : Nat → Nat} (hH : CH E own A F σ N G) {T : Nat} (hI : PI σ N T) {q : Nat} (hq : q ≤ 49999) {sa i : Nat} {s mt fr fo : Int32} (hs : G sa = some (hO 6 [.ref (A 5 i), .int s, .int mt, .int fr, .int fo])) (hi : i < N 2) {L : Nat} (hl : σ.2.1 23 i = nI L) (hL60 : L ≤ 60) {bl : Bool} (hP : P (.inl (some (.int (if bl then 1 else judF σ i L (N 1) (N 3) (N 4) s mt fr (nI q))))) G) : Sp E (d + 7) yX8_judgementOf mc ms [.ref (A 0 0), .ref sa, .int (nI q), .int (b2i bl)] G P := by
  obtain ⟨hON, hN, hK, hL, hD, hT, hS, hW, hC, hPm, hY, hF⟩ := id hH
  obtain ⟨n0, n1, n2, n3, n4, n5, e7, e22, e29, e35, e40⟩ := id hN
  refine sp_intro bd_X8_judgementOf (v1_all rfl) (Nat.le_of_ble_eq_true rfl) ?_
  change WX _ _ _ _ _ _ 0 [some (.ref (A 0 0)), some (.ref sa), some (.int (nI q)), some (.int (b2i bl)), none, none] [] _ 0 0
  refine wp_load (pc' := 1) (j := 3) dX8_judgementOf_0 rfl rfl rfl ?_
  refine wp_ifeqB (pc' := 4) 6 dX8_judgementOf_1 rfl rfl (fun h1 => ?_) (fun h1 => ?_)
  · skip
    refine wp_load (pc' := 7) (j := 0) dX8_judgementOf_6 rfl rfl rfl ?_
    refine wp_load (pc' := 8) (j := 1) dX8_judgementOf_7 rfl rfl rfl ?_
    refine wp_load (pc' := 9) (j := 2) dX8_judgementOf_8 rfl rfl rfl ?_
    refine wp_v2 0 0 dX8_judgementOf_9 ml_X8_328 hK.1 (Nat.le_of_ble_eq_true rfl) (by omega) (by omega) ?_
    refine c_forb hH hI hq hs hi hl hL60 ?_
    refine kt_v ?_
    refine wp_ifeqB (pc' := 15) 17 dX8_judgementOf_12 rfl rfl (fun h12 => ?_) (fun h12 => ?_)
    · skip
      refine wp_load (pc' := 18) (j := 0) dX8_judgementOf_17 rfl rfl rfl ?_
      refine wp_load (pc' := 19) (j := 1) dX8_judgementOf_18 rfl rfl rfl ?_
      refine wp_get (pc' := 22) dX8_judgementOf_19 fl_X8_226 hs rfl rfl ?_
      refine wp_load (pc' := 23) (j := 1) dX8_judgementOf_22 rfl rfl rfl ?_
      refine wp_get (pc' := 26) dX8_judgementOf_23 fl_X8_325 hs rfl rfl ?_
      refine wp_load (pc' := 27) (j := 2) dX8_judgementOf_26 rfl rfl rfl ?_
      refine wp_v3 0 0 dX8_judgementOf_27 ml_X8_130 hK.1 (Nat.le_of_ble_eq_true rfl) (by omega) (by omega) ?_
      refine c_rule hH hI hq ?_
      refine kt_v ?_
      rcases hr : ruleO σ s mt (nI q) (N 1) with _ | f
      · skip
        refine wp_store (pc' := 32) (j := 4) (ls' := [_, _, _, _, _, _]) dX8_judgementOf_30 rfl (Nat.le_of_ble_eq_true rfl) rfl rfl ?_
        refine wp_load (pc' := 34) (j := 4) dX8_judgementOf_32 rfl rfl rfl ?_
        refine wp_non (pc' := 37) dX8_judgementOf_34 rfl ?_
        refine wp_iconst (pc' := 38) (0) dX8_judgementOf_37 rfl rfl ?_
        refine wp_iret dX8_judgementOf_38 rfl rfl ?_
        simpa only [judF, h1, h12, hr, Bool.false_eq_true, decide_true, decide_false, Bool.not_true, Bool.not_false, Bool.and_true, Bool.true_and, Bool.and_false, Bool.false_and, Bool.or_true, Bool.true_or, Bool.or_false, Bool.false_or, if_true, if_false, ite_true, ite_false] using hP
      · skip
        have hf := ruleO_lt hr
        refine wp_store (pc' := 32) (j := 4) (ls' := [_, _, _, _, _, _]) dX8_judgementOf_30 rfl (Nat.le_of_ble_eq_true rfl) rfl rfl ?_
        refine wp_load (pc' := 34) (j := 4) dX8_judgementOf_32 rfl rfl rfl ?_
        refine wp_nonR 39 dX8_judgementOf_34 rfl ?_
        refine wp_load (pc' := 40) (j := 2) dX8_judgementOf_39 rfl rfl rfl ?_
        refine wp_load (pc' := 41) (j := 1) dX8_judgementOf_40 rfl rfl rfl ?_
        refine wp_get (pc' := 44) dX8_judgementOf_41 fl_X8_196 hs rfl rfl ?_
        refine wp_pure (pc' := 45) dX8_judgementOf_44 rfl rfl ?_
        refine wp_store (pc' := 47) (j := 5) (ls' := [_, _, _, _, _, _]) dX8_judgementOf_45 rfl (Nat.le_of_ble_eq_true rfl) rfl rfl ?_
        refine wp_load (pc' := 49) (j := 4) dX8_judgementOf_47 rfl rfl rfl ?_
        refine wp_get (pc' := 52) dX8_judgementOf_49 fl_X8_332 (hS f hf).1.1 rfl rfl ?_
        refine wp_if_le (pc' := 55) 69 dX8_judgementOf_52 rfl rfl (fun h52 => ?_) (fun h52 => ?_)
        · skip
          refine wp_load (pc' := 71) (j := 4) dX8_judgementOf_69 rfl rfl rfl ?_
          refine wp_get (pc' := 74) dX8_judgementOf_71 fl_X8_335 (hS f hf).1.1 rfl rfl ?_
          refine wp_ifeqB (pc' := 77) 96 dX8_judgementOf_74 rfl rfl (fun h74 => ?_) (fun h74 => ?_)
          · skip
            refine wp_iconst (pc' := 97) (0) dX8_judgementOf_96 rfl rfl ?_
            refine wp_iret dX8_judgementOf_97 rfl rfl ?_
            simpa only [judF, h1, h12, hr, h52, h74, Bool.false_eq_true, decide_true, decide_false, Bool.not_true, Bool.not_false, Bool.and_true, Bool.true_and, Bool.and_false, Bool.false_and, Bool.or_true, Bool.true_or, Bool.or_false, Bool.false_or, if_true, if_false, ite_true, ite_false] using hP
          · skip
            refine wp_load (pc' := 79) (j := 5) dX8_judgementOf_77 rfl rfl rfl ?_
            refine wp_iconst (pc' := 80) (1) dX8_judgementOf_79 rfl rfl ?_
            refine wp_icmp_le (pc' := 83) 96 dX8_judgementOf_80 rfl rfl (fun h80 => ?_) (fun h80 => ?_)
            · skip
              refine wp_iconst (pc' := 97) (0) dX8_judgementOf_96 rfl rfl ?_
              refine wp_iret dX8_judgementOf_97 rfl rfl ?_
              simpa only [judF, h1, h12, hr, h52, h74, h80, Bool.false_eq_true, decide_true, decide_false, Bool.not_true, Bool.not_false, Bool.and_true, Bool.true_and, Bool.and_false, Bool.false_and, Bool.or_true, Bool.true_or, Bool.or_false, Bool.false_or, if_true, if_false, ite_true, ite_false] using hP
            · skip
              refine wp_load (pc' := 84) (j := 0) dX8_judgementOf_83 rfl rfl rfl ?_
              refine wp_load (pc' := 85) (j := 1) dX8_judgementOf_84 rfl rfl rfl ?_
              refine wp_load (pc' := 86) (j := 2) dX8_judgementOf_85 rfl rfl rfl ?_
              refine wp_v2 0 0 dX8_judgementOf_86 ml_X8_338 hK.1 (Nat.le_of_ble_eq_true rfl) (by omega) (by omega) ?_
              refine c_paid hH hs hi ?_
              refine kt_v ?_
              refine wp_ifneB (pc' := 92) 96 dX8_judgementOf_89 rfl rfl (fun h89 => ?_) (fun h89 => ?_)
              · skip
                refine wp_iconst (pc' := 97) (0) dX8_judgementOf_96 rfl rfl ?_
                refine wp_iret dX8_judgementOf_97 rfl rfl ?_
                simpa only [judF, h1, h12, hr, h52, h74, h80, h89, Bool.false_eq_true, decide_true, decide_false, Bool.not_true, Bool.not_false, Bool.and_true, Bool.true_and, Bool.and_false, Bool.false_and, Bool.or_true, Bool.true_or, Bool.or_false, Bool.false_or, if_true, if_false, ite_true, ite_false] using hP
              · skip
                refine wp_iconst (pc' := 93) (4) dX8_judgementOf_92 rfl rfl ?_
                refine wp_goto 97 dX8_judgementOf_93 rfl ?_
                refine wp_iret dX8_judgementOf_97 rfl rfl ?_
                simpa only [judF, h1, h12, hr, h52, h74, h80, h89, Bool.false_eq_true, decide_true, decide_false, Bool.not_true, Bool.not_false, Bool.and_true, Bool.true_and, Bool.and_false, Bool.false_and, Bool.or_true, Bool.true_or, Bool.or_false, Bool.false_or, if_true, if_false, ite_true, ite_false] using hP
        · skip
          refine wp_load (pc' := 57) (j := 5) dX8_judgementOf_55 rfl rfl rfl ?_
          refine wp_load (pc' := 59) (j := 4) dX8_judgementOf_57 rfl rfl rfl ?_
          refine wp_get (pc' := 62) dX8_judgementOf_59 fl_X8_332 (hS f hf).1.1 rfl rfl ?_
          refine wp_iconst (pc' := 63) (1) dX8_judgementOf_62 rfl rfl ?_
          refine wp_pure (pc' := 64) dX8_judgementOf_63 rfl rfl ?_
          refine wp_icmp_le (pc' := 67) 69 dX8_judgementOf_64 rfl rfl (fun h64 => ?_) (fun h64 => ?_)
          · skip
            refine wp_load (pc' := 71) (j := 4) dX8_judgementOf_69 rfl rfl rfl ?_
            refine wp_get (pc' := 74) dX8_judgementOf_71 fl_X8_335 (hS f hf).1.1 rfl rfl ?_
            refine wp_ifeqB (pc' := 77) 96 dX8_judgementOf_74 rfl rfl (fun h74 => ?_) (fun h74 => ?_)
            · skip
              refine wp_iconst (pc' := 97) (0) dX8_judgementOf_96 rfl rfl ?_
              refine wp_iret dX8_judgementOf_97 rfl rfl ?_
              simpa only [judF, h1, h12, hr, h52, h64, h74, Bool.false_eq_true, decide_true, decide_false, Bool.not_true, Bool.not_false, Bool.and_true, Bool.true_and, Bool.and_false, Bool.false_and, Bool.or_true, Bool.true_or, Bool.or_false, Bool.false_or, if_true, if_false, ite_true, ite_false] using hP
            · skip
              refine wp_load (pc' := 79) (j := 5) dX8_judgementOf_77 rfl rfl rfl ?_
              refine wp_iconst (pc' := 80) (1) dX8_judgementOf_79 rfl rfl ?_
              refine wp_icmp_le (pc' := 83) 96 dX8_judgementOf_80 rfl rfl (fun h80 => ?_) (fun h80 => ?_)
              · skip
                refine wp_iconst (pc' := 97) (0) dX8_judgementOf_96 rfl rfl ?_
                refine wp_iret dX8_judgementOf_97 rfl rfl ?_
                simpa only [judF, h1, h12, hr, h52, h64, h74, h80, Bool.false_eq_true, decide_true, decide_false, Bool.not_true, Bool.not_false, Bool.and_true, Bool.true_and, Bool.and_false, Bool.false_and, Bool.or_true, Bool.true_or, Bool.or_false, Bool.false_or, if_true, if_false, ite_true, ite_false] using hP
              · skip
                refine wp_load (pc' := 84) (j := 0) dX8_judgementOf_83 rfl rfl rfl ?_
                refine wp_load (pc' := 85) (j := 1) dX8_judgementOf_84 rfl rfl rfl ?_
                refine wp_load (pc' := 86) (j := 2) dX8_judgementOf_85 rfl rfl rfl ?_
                refine wp_v2 0 0 dX8_judgementOf_86 ml_X8_338 hK.1 (Nat.le_of_ble_eq_true rfl) (by omega) (by omega) ?_
                refine c_paid hH hs hi ?_
                refine kt_v ?_
                refine wp_ifneB (pc' := 92) 96 dX8_judgementOf_89 rfl rfl (fun h89 => ?_) (fun h89 => ?_)
                · skip
                  refine wp_iconst (pc' := 97) (0) dX8_judgementOf_96 rfl rfl ?_
                  refine wp_iret dX8_judgementOf_97 rfl rfl ?_
                  simpa only [judF, h1, h12, hr, h52, h64, h74, h80, h89, Bool.false_eq_true, decide_true, decide_false, Bool.not_true, Bool.not_false, Bool.and_true, Bool.true_and, Bool.and_false, Bool.false_and, Bool.or_true, Bool.true_or, Bool.or_false, Bool.false_or, if_true, if_false, ite_true, ite_false] using hP
                · skip
                  refine wp_iconst (pc' := 93) (4) dX8_judgementOf_92 rfl rfl ?_
                  refine wp_goto 97 dX8_judgementOf_93 rfl ?_
                  refine wp_iret dX8_judgementOf_97 rfl rfl ?_
                  simpa only [judF, h1, h12, hr, h52, h64, h74, h80, h89, Bool.false_eq_true, decide_true, decide_false, Bool.not_true, Bool.not_false, Bool.and_true, Bool.true_and, Bool.and_false, Bool.false_and, Bool.or_true, Bool.true_or, Bool.or_false, Bool.false_or, if_true, if_false, ite_true, ite_false] using hP
          · skip
            refine wp_iconst (pc' := 68) (3) dX8_judgementOf_67 rfl rfl ?_
            refine wp_iret dX8_judgementOf_68 rfl rfl ?_
            simpa only [judF, h1, h12, hr, h52, h64, Bool.false_eq_true, decide_true, decide_false, Bool.not_true, Bool.not_false, Bool.and_true, Bool.true_and, Bool.and_false, Bool.false_and, Bool.or_true, Bool.true_or, Bool.or_false, Bool.false_or, if_true, if_false, ite_true, ite_false] using hP
    · skip
      refine wp_iconst (pc' := 16) (2) dX8_judgementOf_15 rfl rfl ?_
      refine wp_iret dX8_judgementOf_16 rfl rfl ?_
      simpa only [judF, h1, h12, Bool.false_eq_true, decide_true, decide_false, Bool.not_true, Bool.not_false, Bool.and_true, Bool.true_and, Bool.and_false, Bool.false_and, Bool.or_true, Bool.true_or, Bool.or_false, Bool.false_or, if_true, if_false, ite_true, ite_false] using hP
  · skip
    refine wp_iconst (pc' := 5) (1) dX8_judgementOf_4 rfl rfl ?_
    refine wp_iret dX8_judgementOf_5 rfl rfl ?_
    simpa only [judF, h1, Bool.false_eq_true, decide_true, decide_false, Bool.not_true, Bool.not_false, Bool.and_true, Bool.true_and, Bool.and_false, Bool.false_and, Bool.or_true, Bool.true_or, Bool.or_false, Bool.false_or, if_true, if_false, ite_true, ite_false] using hP

set_option maxRecDepth 20000 in
set_option maxHeartbeats 2000000 in
theorem l_gap1 {E : XE} {d0 d mc ms : Nat} {P : Ps} {G : HP} {own : Nat → Nat} {A : Nat → Nat → Nat} {F : Nat → Int32} {σ : MS} {N : Nat → Nat} (hd : d = d0 + 3) (hH : CH E own A F σ N G) {a : Nat} {mt many : Int32} (ha : a < 4) (hP : P (.inl (some (.int (b2i (!anyF (fun k => !awayB σ k (nI a) mt many) (N 2)))))) G) : ∀ j k, k + j = N 2 → ∀ z5 : Option Value, ∀ (hb : anyF (fun k => !awayB σ k (nI a) mt many) k = false), WX E d (yX8_isGap, cX8_isGap, (some .boolean), []) mc ms P 13 [some (.ref (A 0 0)), some (.int (nI a)), some (.int mt), some (.int many), some (.int (nI k)), z5] [] G 0 0
  | 0, k, hk, z5, hb => by
    subst hd
    have hr0 := b2i_t
    obtain ⟨hON, hN, hK, hL, hD, hT, hS, hW, hC, hPm, hY, hF⟩ := id hH
    obtain ⟨n0, n1, n2, n3, n4, n5, e7, e22, e29, e35, e40⟩ := id hN
    obtain ⟨mo2, hl2⟩ := (hL 2 (by decide)).1.1
    
    refine wp_load (pc' := 15) (j := 4) dX8_isGap_13 rfl rfl rfl ?_
    refine wp_load (pc' := 16) (j := 0) dX8_isGap_15 rfl rfl rfl ?_
    refine wp_get (pc' := 19) dX8_isGap_16 fl_X8_19 hK.1 rfl rfl ?_
    refine wp_v0 0 0 dX8_isGap_19 ml_X8_88 hl2 (Nat.le_of_ble_eq_true rfl) (by omega) (by omega) ?_
    refine k_size (hL 2 (by decide)).1 ?_
    refine kt_v ?_
    refine wp_icmpT 74 dX8_isGap_22 rfl (cgeT rfl (by omega) (by omega)) ?_
    refine wp_iconst (pc' := 75) (1) dX8_isGap_74 rfl rfl ?_
    refine wp_iret dX8_isGap_75 rfl rfl ?_
    obtain rfl : k = N 2 := by omega
    rw [hb] at hP
    exact hP
  | j + 1, k, hk, z5, hb => by
    have ih := l_gap1 (E := E) (d := d) (mc := mc) (ms := ms) hd hH ha hP j (k + 1) (by omega)
    subst hd
    have hr0 := b2i_t
    obtain ⟨hON, hN, hK, hL, hD, hT, hS, hW, hC, hPm, hY, hF⟩ := id hH
    obtain ⟨n0, n1, n2, n3, n4, n5, e7, e22, e29, e35, e40⟩ := id hN
    obtain ⟨mo2, hl2⟩ := (hL 2 (by decide)).1.1
    
    refine wp_load (pc' := 15) (j := 4) dX8_isGap_13 rfl rfl rfl ?_
    refine wp_load (pc' := 16) (j := 0) dX8_isGap_15 rfl rfl rfl ?_
    refine wp_get (pc' := 19) dX8_isGap_16 fl_X8_19 hK.1 rfl rfl ?_
    refine wp_v0 0 0 dX8_isGap_19 ml_X8_88 hl2 (Nat.le_of_ble_eq_true rfl) (by omega) (by omega) ?_
    refine k_size (hL 2 (by decide)).1 ?_
    refine kt_v ?_
    refine wp_icmpF (pc' := 25) 74 dX8_isGap_22 rfl rfl (cgeF rfl (by omega) (by omega)) ?_
    refine wp_load (pc' := 26) (j := 0) dX8_isGap_25 rfl rfl rfl ?_
    refine wp_get (pc' := 29) dX8_isGap_26 fl_X8_19 hK.1 rfl rfl ?_
    refine wp_load (pc' := 31) (j := 4) dX8_isGap_29 rfl rfl rfl ?_
    refine wp_v1 0 0 dX8_isGap_31 ml_X8_122 hl2 (Nat.le_of_ble_eq_true rfl) (by omega) (by omega) ?_
    refine k_get (hL 2 (by decide)).1 (show k < N 2 from by omega) (by omega) ?_
    refine kt_v ?_
    refine wp_cast (pc' := 37) dX8_isGap_34 cw_X8_141 (hC k (show k < N 2 from by omega)).1.1 rfl rfl rfl ?_
    refine wp_get (pc' := 40) dX8_isGap_37 fl_X8_169 (hC k (show k < N 2 from by omega)).1.1 rfl rfl ?_
    by_cases hs5 : σ.2.1 25 k = -1
    · skip
      rw [show stV A σ k = .null from if_pos hs5]
      have hne : ¬ σ.2.1 25 k = nI a := by
        rw [hs5]; exact fun z => nI_nm1 (show a < 2 ^ 31 by omega) z.symm
      refine wp_store (pc' := 42) (j := 5) (ls' := [_, _, _, _, _, _]) dX8_isGap_40 rfl (Nat.le_of_ble_eq_true rfl) rfl rfl ?_
      refine wp_load (pc' := 44) (j := 5) dX8_isGap_42 rfl rfl rfl ?_
      refine wp_nul 68 dX8_isGap_44 rfl ?_
      refine wp_iinc (pc' := 71) (j := 4) (ls' := [_, _, _, _, _, _]) (nI (k + 1)) dX8_isGap_68 rfl (nI_1 k) rfl rfl ?_
      refine wp_goto 13 dX8_isGap_71 rfl ?_
      have hx : (!awayB σ k (nI a) mt many) = false := by
        simp only [awayB, hne, Bool.false_eq_true, decide_true, decide_false, Bool.not_true, Bool.not_false, Bool.and_true, Bool.true_and, Bool.and_false, Bool.false_and, Bool.or_true, Bool.true_or, Bool.or_false, Bool.false_or, if_true, if_false, ite_true, ite_false]
      exact ih _ (any_s hb hx)
    · skip
      rw [show stV A σ k = .ref (A 12 k) from if_neg hs5]
      refine wp_store (pc' := 42) (j := 5) (ls' := [_, _, _, _, _, _]) dX8_isGap_40 rfl (Nat.le_of_ble_eq_true rfl) rfl rfl ?_
      refine wp_load (pc' := 44) (j := 5) dX8_isGap_42 rfl rfl rfl ?_
      refine wp_nulR (pc' := 47) dX8_isGap_44 rfl ?_
      refine wp_load (pc' := 49) (j := 5) dX8_isGap_47 rfl rfl rfl ?_
      refine wp_get (pc' := 52) dX8_isGap_49 fl_X8_226 ((hC k (by omega)).2 hs5).1 rfl rfl ?_
      refine wp_load (pc' := 53) (j := 1) dX8_isGap_52 rfl rfl rfl ?_
      refine wp_icmp_ne (pc' := 56) 68 dX8_isGap_53 rfl rfl (fun h53 => ?_) (fun h53 => ?_)
      · skip
        refine wp_iinc (pc' := 71) (j := 4) (ls' := [_, _, _, _, _, _]) (nI (k + 1)) dX8_isGap_68 rfl (nI_1 k) rfl rfl ?_
        refine wp_goto 13 dX8_isGap_71 rfl ?_
        have hx : (!awayB σ k (nI a) mt many) = false := by
          simp only [awayB, h53, Bool.false_eq_true, decide_true, decide_false, Bool.not_true, Bool.not_false, Bool.and_true, Bool.true_and, Bool.and_false, Bool.false_and, Bool.or_true, Bool.true_or, Bool.or_false, Bool.false_or, if_true, if_false, ite_true, ite_false]
        exact ih _ (any_s hb hx)
      · skip
        refine wp_load (pc' := 58) (j := 5) dX8_isGap_56 rfl rfl rfl ?_
        refine wp_load (pc' := 59) (j := 2) dX8_isGap_58 rfl rfl rfl ?_
        refine wp_load (pc' := 60) (j := 3) dX8_isGap_59 rfl rfl rfl ?_
        refine wp_v2 0 0 dX8_isGap_60 ml_X8_322 ((hC k (by omega)).2 hs5).1 (Nat.le_of_ble_eq_true rfl) (by omega) (by omega) ?_
        refine c_near ((hC k (by omega)).2 hs5).1 (hC k (by omega)).1.1 ?_
        rw [← dle, near_eq]
        refine kt_v ?_
        refine wp_ifeqB (pc' := 66) 68 dX8_isGap_63 rfl rfl (fun h63 => ?_) (fun h63 => ?_)
        · skip
          refine wp_iinc (pc' := 71) (j := 4) (ls' := [_, _, _, _, _, _]) (nI (k + 1)) dX8_isGap_68 rfl (nI_1 k) rfl rfl ?_
          refine wp_goto 13 dX8_isGap_71 rfl ?_
          have hx : (!awayB σ k (nI a) mt many) = false := by
            simp only [awayB, h53, h63, Bool.false_eq_true, decide_true, decide_false, Bool.not_true, Bool.not_false, Bool.and_true, Bool.true_and, Bool.and_false, Bool.false_and, Bool.or_true, Bool.true_or, Bool.or_false, Bool.false_or, if_true, if_false, ite_true, ite_false]
          exact ih _ (any_s hb hx)
        · skip
          refine wp_iconst (pc' := 67) (0) dX8_isGap_66 rfl rfl ?_
          refine wp_iret dX8_isGap_67 rfl rfl ?_
          have hx : (!awayB σ k (nI a) mt many) = true := by
            simp only [awayB, h53, h63, Bool.false_eq_true, decide_true, decide_false, Bool.not_true, Bool.not_false, Bool.and_true, Bool.true_and, Bool.and_false, Bool.false_and, Bool.or_true, Bool.true_or, Bool.or_false, Bool.false_or, if_true, if_false, ite_true, ite_false]
          rw [any_t (show k < N 2 from by omega) hx] at hP
          exact hP

set_option maxRecDepth 20000 in
set_option maxHeartbeats 2000000 in
theorem c_isGap {E : XE} {d mc ms : Nat} {P : Ps} {G : HP} {own : Nat → Nat} {A : Nat → Nat → Nat} {F : Nat → Int32} {σ : MS} {N : Nat → Nat} (hH : CH E own A F σ N G) {a : Nat} {mt many : Int32} (ha : a < 4) (hP : P (.inl (some (.int (b2i (gapB σ (nI a) mt many (N 2)))))) G) : Sp E (d + 4) yX8_isGap mc ms [.ref (A 0 0), .int (nI a), .int mt, .int many] G P := by
  obtain ⟨hON, hN, hK, hL, hD, hT, hS, hW, hC, hPm, hY, hF⟩ := id hH
  obtain ⟨n0, n1, n2, n3, n4, n5, e7, e22, e29, e35, e40⟩ := id hN
  rw [gapB_any] at hP
  refine sp_intro bd_X8_isGap (v1_all rfl) (Nat.le_of_ble_eq_true rfl) ?_
  change WX _ _ _ _ _ _ 0 [some (.ref (A 0 0)), some (.int (nI a)), some (.int mt), some (.int many), none, none] [] _ 0 0
  refine wp_load (pc' := 1) (j := 2) dX8_isGap_0 rfl rfl rfl ?_
  refine wp_load (pc' := 2) (j := 3) dX8_isGap_1 rfl rfl rfl ?_
  refine wp_pure (pc' := 3) dX8_isGap_2 rfl rfl ?_
  refine wp_bipush (pc' := 5) (60) dX8_isGap_3 rfl rfl ?_
  refine wp_icmp_le (pc' := 8) 10 dX8_isGap_5 rfl rfl (fun h5 => ?_) (fun h5 => ?_)
  · skip
    rw [decide_eq_true h5, Bool.true_and] at hP
    refine wp_iconst (pc' := 11) (0) dX8_isGap_10 rfl rfl ?_
    refine wp_store (pc' := 13) (j := 4) (ls' := [_, _, _, _, _, _]) dX8_isGap_11 rfl (Nat.le_of_ble_eq_true rfl) rfl rfl ?_
    exact l_gap1 rfl hH ha hP (N 2) 0 (by omega) none rfl
  · skip
    rw [decide_eq_false h5, Bool.false_and] at hP
    refine wp_iconst (pc' := 9) (0) dX8_isGap_8 rfl rfl ?_
    refine wp_iret dX8_isGap_9 rfl rfl ?_
    exact hP

set_option maxRecDepth 20000 in
set_option maxHeartbeats 2000000 in
theorem l_permits {E : XE} {d0 d mc ms : Nat} {P : Ps} {G : HP} {own : Nat → Nat} {A : Nat → Nat → Nat} {F : Nat → Int32} {σ : MS} {N : Nat → Nat} (hd : d = d0 + 3) (hH : CH E own A F σ N G) {h day : Int32} (hP : P (.inl (some (.int (ofHomeF σ h day (N 3))))) G) : ∀ j k, k + j = N 3 → ∀ z5 : Option Value, WX E d (yX8_permitsOf, cX8_permitsOf, (some .int), []) mc ms P 5 [some (.ref (A 0 0)), some (.int h), some (.int day), some (.int (ofHomeF σ h day k)), some (.int (nI k)), z5] [] G 0 0
  | 0, k, hk, z5 => by
    subst hd
    obtain ⟨hON, hN, hK, hL, hD, hT, hS, hW, hC, hPm, hY, hF⟩ := id hH
    obtain ⟨n0, n1, n2, n3, n4, n5, e7, e22, e29, e35, e40⟩ := id hN
    obtain ⟨mo3, hl3⟩ := (hL 3 (by decide)).1.1
    
    refine wp_load (pc' := 7) (j := 4) dX8_permitsOf_5 rfl rfl rfl ?_
    refine wp_load (pc' := 8) (j := 0) dX8_permitsOf_7 rfl rfl rfl ?_
    refine wp_get (pc' := 11) dX8_permitsOf_8 fl_X8_22 hK.1 rfl rfl ?_
    refine wp_v0 0 0 dX8_permitsOf_11 ml_X8_88 hl3 (Nat.le_of_ble_eq_true rfl) (by omega) (by omega) ?_
    refine k_size (hL 3 (by decide)).1 ?_
    refine kt_v ?_
    refine wp_icmpT 58 dX8_permitsOf_14 rfl (cgeT rfl (by omega) (by omega)) ?_
    refine wp_load (pc' := 59) (j := 3) dX8_permitsOf_58 rfl rfl rfl ?_
    refine wp_iret dX8_permitsOf_59 rfl rfl ?_
    obtain rfl : k = N 3 := by omega
    exact hP
  | j + 1, k, hk, z5 => by
    have ih := l_permits (E := E) (d := d) (mc := mc) (ms := ms) hd hH hP j (k + 1) (by omega)
    subst hd
    obtain ⟨hON, hN, hK, hL, hD, hT, hS, hW, hC, hPm, hY, hF⟩ := id hH
    obtain ⟨n0, n1, n2, n3, n4, n5, e7, e22, e29, e35, e40⟩ := id hN
    obtain ⟨mo3, hl3⟩ := (hL 3 (by decide)).1.1
    
    refine wp_load (pc' := 7) (j := 4) dX8_permitsOf_5 rfl rfl rfl ?_
    refine wp_load (pc' := 8) (j := 0) dX8_permitsOf_7 rfl rfl rfl ?_
    refine wp_get (pc' := 11) dX8_permitsOf_8 fl_X8_22 hK.1 rfl rfl ?_
    refine wp_v0 0 0 dX8_permitsOf_11 ml_X8_88 hl3 (Nat.le_of_ble_eq_true rfl) (by omega) (by omega) ?_
    refine k_size (hL 3 (by decide)).1 ?_
    refine kt_v ?_
    refine wp_icmpF (pc' := 17) 58 dX8_permitsOf_14 rfl rfl (cgeF rfl (by omega) (by omega)) ?_
    refine wp_load (pc' := 18) (j := 0) dX8_permitsOf_17 rfl rfl rfl ?_
    refine wp_get (pc' := 21) dX8_permitsOf_18 fl_X8_22 hK.1 rfl rfl ?_
    refine wp_load (pc' := 23) (j := 4) dX8_permitsOf_21 rfl rfl rfl ?_
    refine wp_v1 0 0 dX8_permitsOf_23 ml_X8_122 hl3 (Nat.le_of_ble_eq_true rfl) (by omega) (by omega) ?_
    refine k_get (hL 3 (by decide)).1 (show k < N 3 from by omega) (by omega) ?_
    refine kt_v ?_
    refine wp_cast (pc' := 29) dX8_permitsOf_26 cw_X8_155 (hPm k (show k < N 3 from by omega)).1 rfl rfl rfl ?_
    refine wp_store (pc' := 31) (j := 5) (ls' := [_, _, _, _, _, _]) dX8_permitsOf_29 rfl (Nat.le_of_ble_eq_true rfl) rfl rfl ?_
    refine wp_load (pc' := 33) (j := 5) dX8_permitsOf_31 rfl rfl rfl ?_
    refine wp_get (pc' := 36) dX8_permitsOf_33 fl_X8_308 (hPm k (show k < N 3 from by omega)).1 rfl rfl ?_
    refine wp_load (pc' := 37) (j := 1) dX8_permitsOf_36 rfl rfl rfl ?_
    refine wp_icmp_ne (pc' := 40) 52 dX8_permitsOf_37 rfl rfl (fun h37 => ?_) (fun h37 => ?_)
    · skip
      refine wp_iinc (pc' := 55) (j := 4) (ls' := [_, _, _, _, _, _]) (nI (k + 1)) dX8_permitsOf_52 rfl (nI_1 k) rfl rfl ?_
      refine wp_goto 5 dX8_permitsOf_55 rfl ?_
      simpa only [ofHomeF, h37, Bool.false_eq_true, decide_true, decide_false, Bool.not_true, Bool.not_false, Bool.and_true, Bool.true_and, Bool.and_false, Bool.false_and, Bool.or_true, Bool.true_or, Bool.or_false, Bool.false_or, if_true, if_false, ite_true, ite_false, Int32.add_zero] using ih (some (.ref (A 6 k)))
    · skip
      refine wp_load (pc' := 42) (j := 5) dX8_permitsOf_40 rfl rfl rfl ?_
      refine wp_load (pc' := 43) (j := 2) dX8_permitsOf_42 rfl rfl rfl ?_
      refine wp_v1 0 0 dX8_permitsOf_43 ml_X8_311 (hPm k (show k < N 3 from by omega)).1 (Nat.le_of_ble_eq_true rfl) (by omega) (by omega) ?_
      refine c_holdsOn (hPm k (by omega)).1 ?_
      refine kt_v ?_
      refine wp_ifeqB (pc' := 49) 52 dX8_permitsOf_46 rfl rfl (fun h46 => ?_) (fun h46 => ?_)
      · skip
        refine wp_iinc (pc' := 55) (j := 4) (ls' := [_, _, _, _, _, _]) (nI (k + 1)) dX8_permitsOf_52 rfl (nI_1 k) rfl rfl ?_
        refine wp_goto 5 dX8_permitsOf_55 rfl ?_
        simpa only [ofHomeF, h37, h46, Bool.false_eq_true, decide_true, decide_false, Bool.not_true, Bool.not_false, Bool.and_true, Bool.true_and, Bool.and_false, Bool.false_and, Bool.or_true, Bool.true_or, Bool.or_false, Bool.false_or, if_true, if_false, ite_true, ite_false, Int32.add_zero] using ih (some (.ref (A 6 k)))
      · skip
        refine wp_iinc (pc' := 52) (j := 3) (ls' := [_, _, _, _, _, _]) (ofHomeF σ h day k + 1) dX8_permitsOf_49 rfl rfl rfl rfl ?_
        refine wp_iinc (pc' := 55) (j := 4) (ls' := [_, _, _, _, _, _]) (nI (k + 1)) dX8_permitsOf_52 rfl (nI_1 k) rfl rfl ?_
        refine wp_goto 5 dX8_permitsOf_55 rfl ?_
        simpa only [ofHomeF, h37, h46, Bool.false_eq_true, decide_true, decide_false, Bool.not_true, Bool.not_false, Bool.and_true, Bool.true_and, Bool.and_false, Bool.false_and, Bool.or_true, Bool.true_or, Bool.or_false, Bool.false_or, if_true, if_false, ite_true, ite_false, Int32.add_zero] using ih (some (.ref (A 6 k)))

set_option maxRecDepth 20000 in
set_option maxHeartbeats 2000000 in
theorem c_permits {E : XE} {d mc ms : Nat} {P : Ps} {G : HP} {own : Nat → Nat} {A : Nat → Nat → Nat} {F : Nat → Int32} {σ : MS} {N : Nat → Nat} (hH : CH E own A F σ N G) {h day : Int32} (hP : P (.inl (some (.int (ofHomeF σ h day (N 3))))) G) : Sp E (d + 4) yX8_permitsOf mc ms [.ref (A 0 0), .int h, .int day] G P := by
  obtain ⟨hON, hN, hK, hL, hD, hT, hS, hW, hC, hPm, hY, hF⟩ := id hH
  obtain ⟨n0, n1, n2, n3, n4, n5, e7, e22, e29, e35, e40⟩ := id hN
  refine sp_intro bd_X8_permitsOf (v1_all rfl) (Nat.le_of_ble_eq_true rfl) ?_
  change WX _ _ _ _ _ _ 0 [some (.ref (A 0 0)), some (.int h), some (.int day), none, none, none] [] _ 0 0
  refine wp_iconst (pc' := 1) (0) dX8_permitsOf_0 rfl rfl ?_
  refine wp_store (pc' := 2) (j := 3) (ls' := [_, _, _, _, _, _]) dX8_permitsOf_1 rfl (Nat.le_of_ble_eq_true rfl) rfl rfl ?_
  refine wp_iconst (pc' := 3) (0) dX8_permitsOf_2 rfl rfl ?_
  refine wp_store (pc' := 5) (j := 4) (ls' := [_, _, _, _, _, _]) dX8_permitsOf_3 rfl (Nat.le_of_ble_eq_true rfl) rfl rfl ?_
  exact l_permits rfl hH hP (N 3) 0 (by omega) none

set_option maxRecDepth 20000 in
set_option maxHeartbeats 2000000 in
theorem l_full {E : XE} {d0 d mc ms : Nat} {P : Ps} {G : HP} {own : Nat → Nat} {A : Nat → Nat → Nat} {F : Nat → Int32} {σ : MS} {N : Nat → Nat} (hd : d = d0 + 4) (hH : CH E own A F σ N G) {h f t : Int32} (hP : P (.inl (some (.int (b2i (anyF (fun k => inB (σ.2.1 33 k) f t && !decide (ofHomeF σ h (σ.2.1 33 k) (N 3) < 2)) (N 3)))))) G) : ∀ j k, k + j = N 3 → ∀ z5 : Option Value, ∀ (hb : anyF (fun k => inB (σ.2.1 33 k) f t && !decide (ofHomeF σ h (σ.2.1 33 k) (N 3) < 2)) k = false), WX E d (yX8_isHomeFull, cX8_isHomeFull, (some .boolean), []) mc ms P 15 [some (.ref (A 0 0)), some (.int h), some (.int f), some (.int t), some (.int (nI k)), z5] [] G 0 0
  | 0, k, hk, z5, hb => by
    subst hd
    have hr0 := b2i_t
    obtain ⟨hON, hN, hK, hL, hD, hT, hS, hW, hC, hPm, hY, hF⟩ := id hH
    obtain ⟨n0, n1, n2, n3, n4, n5, e7, e22, e29, e35, e40⟩ := id hN
    obtain ⟨mo3, hl3⟩ := (hL 3 (by decide)).1.1
    
    refine wp_load (pc' := 17) (j := 4) dX8_isHomeFull_15 rfl rfl rfl ?_
    refine wp_load (pc' := 18) (j := 0) dX8_isHomeFull_17 rfl rfl rfl ?_
    refine wp_get (pc' := 21) dX8_isHomeFull_18 fl_X8_22 hK.1 rfl rfl ?_
    refine wp_v0 0 0 dX8_isHomeFull_21 ml_X8_88 hl3 (Nat.le_of_ble_eq_true rfl) (by omega) (by omega) ?_
    refine k_size (hL 3 (by decide)).1 ?_
    refine kt_v ?_
    refine wp_icmpT 73 dX8_isHomeFull_24 rfl (cgeT rfl (by omega) (by omega)) ?_
    refine wp_iconst (pc' := 74) (0) dX8_isHomeFull_73 rfl rfl ?_
    refine wp_iret dX8_isHomeFull_74 rfl rfl ?_
    obtain rfl : k = N 3 := by omega
    rw [hb] at hP
    exact hP
  | j + 1, k, hk, z5, hb => by
    have ih := l_full (E := E) (d := d) (mc := mc) (ms := ms) hd hH hP j (k + 1) (by omega)
    subst hd
    have hr0 := b2i_t
    obtain ⟨hON, hN, hK, hL, hD, hT, hS, hW, hC, hPm, hY, hF⟩ := id hH
    obtain ⟨n0, n1, n2, n3, n4, n5, e7, e22, e29, e35, e40⟩ := id hN
    obtain ⟨mo3, hl3⟩ := (hL 3 (by decide)).1.1
    
    refine wp_load (pc' := 17) (j := 4) dX8_isHomeFull_15 rfl rfl rfl ?_
    refine wp_load (pc' := 18) (j := 0) dX8_isHomeFull_17 rfl rfl rfl ?_
    refine wp_get (pc' := 21) dX8_isHomeFull_18 fl_X8_22 hK.1 rfl rfl ?_
    refine wp_v0 0 0 dX8_isHomeFull_21 ml_X8_88 hl3 (Nat.le_of_ble_eq_true rfl) (by omega) (by omega) ?_
    refine k_size (hL 3 (by decide)).1 ?_
    refine kt_v ?_
    refine wp_icmpF (pc' := 27) 73 dX8_isHomeFull_24 rfl rfl (cgeF rfl (by omega) (by omega)) ?_
    refine wp_load (pc' := 28) (j := 0) dX8_isHomeFull_27 rfl rfl rfl ?_
    refine wp_get (pc' := 31) dX8_isHomeFull_28 fl_X8_22 hK.1 rfl rfl ?_
    refine wp_load (pc' := 33) (j := 4) dX8_isHomeFull_31 rfl rfl rfl ?_
    refine wp_v1 0 0 dX8_isHomeFull_33 ml_X8_122 hl3 (Nat.le_of_ble_eq_true rfl) (by omega) (by omega) ?_
    refine k_get (hL 3 (by decide)).1 (show k < N 3 from by omega) (by omega) ?_
    refine kt_v ?_
    refine wp_cast (pc' := 39) dX8_isHomeFull_36 cw_X8_155 (hPm k (show k < N 3 from by omega)).1 rfl rfl rfl ?_
    refine wp_get (pc' := 42) dX8_isHomeFull_39 fl_X8_305 (hPm k (show k < N 3 from by omega)).1 rfl rfl ?_
    refine wp_store (pc' := 44) (j := 5) (ls' := [_, _, _, _, _, _]) dX8_isHomeFull_42 rfl (Nat.le_of_ble_eq_true rfl) rfl rfl ?_
    refine wp_load (pc' := 46) (j := 5) dX8_isHomeFull_44 rfl rfl rfl ?_
    refine wp_load (pc' := 47) (j := 2) dX8_isHomeFull_46 rfl rfl rfl ?_
    refine wp_load (pc' := 48) (j := 3) dX8_isHomeFull_47 rfl rfl rfl ?_
    refine wp_s3 0 0 dX8_isHomeFull_48 ml_X8_65 (Nat.le_of_ble_eq_true rfl) (by omega) (by omega) ?_
    refine c_isIn _ _ _ ?_
    refine kt_v ?_
    refine wp_ifeqB (pc' := 54) 67 dX8_isHomeFull_51 rfl rfl (fun h51 => ?_) (fun h51 => ?_)
    · skip
      refine wp_iinc (pc' := 70) (j := 4) (ls' := [_, _, _, _, _, _]) (nI (k + 1)) dX8_isHomeFull_67 rfl (nI_1 k) rfl rfl ?_
      refine wp_goto 15 dX8_isHomeFull_70 rfl ?_
      have hx : (inB (σ.2.1 33 k) f t && !decide (ofHomeF σ h (σ.2.1 33 k) (N 3) < 2)) = false := by
        simp only [hr0, h51, Bool.false_eq_true, decide_true, decide_false, Bool.not_true, Bool.not_false, Bool.and_true, Bool.true_and, Bool.and_false, Bool.false_and, Bool.or_true, Bool.true_or, Bool.or_false, Bool.false_or, if_true, if_false, ite_true, ite_false]
      exact ih _ (any_s hb hx)
    · skip
      refine wp_load (pc' := 55) (j := 0) dX8_isHomeFull_54 rfl rfl rfl ?_
      refine wp_load (pc' := 56) (j := 1) dX8_isHomeFull_55 rfl rfl rfl ?_
      refine wp_load (pc' := 58) (j := 5) dX8_isHomeFull_56 rfl rfl rfl ?_
      refine wp_v2 0 0 dX8_isHomeFull_58 ml_X8_302 hK.1 (Nat.le_of_ble_eq_true rfl) (by omega) (by omega) ?_
      refine c_permits hH ?_
      refine kt_v ?_
      refine wp_iconst (pc' := 62) (2) dX8_isHomeFull_61 rfl rfl ?_
      refine wp_icmp_lt (pc' := 65) 67 dX8_isHomeFull_62 rfl rfl (fun h62 => ?_) (fun h62 => ?_)
      · skip
        refine wp_iinc (pc' := 70) (j := 4) (ls' := [_, _, _, _, _, _]) (nI (k + 1)) dX8_isHomeFull_67 rfl (nI_1 k) rfl rfl ?_
        refine wp_goto 15 dX8_isHomeFull_70 rfl ?_
        have hx : (inB (σ.2.1 33 k) f t && !decide (ofHomeF σ h (σ.2.1 33 k) (N 3) < 2)) = false := by
          simp only [hr0, h51, h62, Bool.false_eq_true, decide_true, decide_false, Bool.not_true, Bool.not_false, Bool.and_true, Bool.true_and, Bool.and_false, Bool.false_and, Bool.or_true, Bool.true_or, Bool.or_false, Bool.false_or, if_true, if_false, ite_true, ite_false]
        exact ih _ (any_s hb hx)
      · skip
        refine wp_iconst (pc' := 66) (1) dX8_isHomeFull_65 rfl rfl ?_
        refine wp_iret dX8_isHomeFull_66 rfl rfl ?_
        have hx : (inB (σ.2.1 33 k) f t && !decide (ofHomeF σ h (σ.2.1 33 k) (N 3) < 2)) = true := by
          simp only [hr0, h51, h62, Bool.false_eq_true, decide_true, decide_false, Bool.not_true, Bool.not_false, Bool.and_true, Bool.true_and, Bool.and_false, Bool.false_and, Bool.or_true, Bool.true_or, Bool.or_false, Bool.false_or, if_true, if_false, ite_true, ite_false]
        rw [any_t (show k < N 3 from by omega) hx] at hP
        exact hP

set_option maxRecDepth 20000 in
set_option maxHeartbeats 2000000 in
theorem c_full {E : XE} {d mc ms : Nat} {P : Ps} {G : HP} {own : Nat → Nat} {A : Nat → Nat → Nat} {F : Nat → Int32} {σ : MS} {N : Nat → Nat} (hH : CH E own A F σ N G) {h f t : Int32} (hP : P (.inl (some (.int (b2i (!decide (ofHomeF σ h f (N 3) < 2) || anyF (fun k => inB (σ.2.1 33 k) f t && !decide (ofHomeF σ h (σ.2.1 33 k) (N 3) < 2)) (N 3)))))) G) : Sp E (d + 5) yX8_isHomeFull mc ms [.ref (A 0 0), .int h, .int f, .int t] G P := by
  obtain ⟨hON, hN, hK, hL, hD, hT, hS, hW, hC, hPm, hY, hF⟩ := id hH
  obtain ⟨n0, n1, n2, n3, n4, n5, e7, e22, e29, e35, e40⟩ := id hN
  refine sp_intro bd_X8_isHomeFull (v1_all rfl) (Nat.le_of_ble_eq_true rfl) ?_
  change WX _ _ _ _ _ _ 0 [some (.ref (A 0 0)), some (.int h), some (.int f), some (.int t), none, none] [] _ 0 0
  refine wp_load (pc' := 1) (j := 0) dX8_isHomeFull_0 rfl rfl rfl ?_
  refine wp_load (pc' := 2) (j := 1) dX8_isHomeFull_1 rfl rfl rfl ?_
  refine wp_load (pc' := 3) (j := 2) dX8_isHomeFull_2 rfl rfl rfl ?_
  refine wp_v2 0 0 dX8_isHomeFull_3 ml_X8_302 hK.1 (Nat.le_of_ble_eq_true rfl) (by omega) (by omega) ?_
  refine c_permits hH ?_
  refine kt_v ?_
  refine wp_iconst (pc' := 7) (2) dX8_isHomeFull_6 rfl rfl ?_
  refine wp_icmp_lt (pc' := 10) 12 dX8_isHomeFull_7 rfl rfl (fun h7 => ?_) (fun h7 => ?_)
  · skip
    rw [decide_eq_true h7, Bool.not_true, Bool.false_or] at hP
    refine wp_iconst (pc' := 13) (0) dX8_isHomeFull_12 rfl rfl ?_
    refine wp_store (pc' := 15) (j := 4) (ls' := [_, _, _, _, _, _]) dX8_isHomeFull_13 rfl (Nat.le_of_ble_eq_true rfl) rfl rfl ?_
    exact l_full rfl hH hP (N 3) 0 (by omega) none rfl
  · skip
    rw [decide_eq_false h7, Bool.not_false, Bool.true_or] at hP
    refine wp_iconst (pc' := 11) (1) dX8_isHomeFull_10 rfl rfl ?_
    refine wp_iret dX8_isHomeFull_11 rfl rfl ?_
    exact hP

set_option maxRecDepth 20000 in
set_option maxHeartbeats 2000000 in
theorem l_left {E : XE} {d0 d mc ms : Nat} {P : Ps} {G : HP} {own : Nat → Nat} {A : Nat → Nat → Nat} {F : Nat → Int32} {σ : MS} {N : Nat → Nat} (hd : d = d0 + 3) (hH : CH E own A F σ N G) {T : Nat} (hI : PI σ N T) {q : Nat} (hq : q ≤ 49999) {i : Nat} {mt : Int32} (hi : i < N 1) (hP : P (.inl (some (.int (b2i (anyF (fun k => holdsB σ k (σ.2.1 8 i) mt (nI q) && aheadC σ k i) (N 1)))))) G) : ∀ j k, k + j = N 1 → ∀ z5 : Option Value, ∀ (hb : anyF (fun k => holdsB σ k (σ.2.1 8 i) mt (nI q) && aheadC σ k i) k = false), WX E d (yX8_isLeftOut, cX8_isLeftOut, (some .boolean), []) mc ms P 3 [some (.ref (A 0 0)), some (.ref (A 4 i)), some (.int mt), some (.int (nI q)), some (.int (nI k)), z5] [] G 0 0
  | 0, k, hk, z5, hb => by
    subst hd
    have hr0 := b2i_t
    obtain ⟨hON, hN, hK, hL, hD, hT, hS, hW, hC, hPm, hY, hF⟩ := id hH
    obtain ⟨n0, n1, n2, n3, n4, n5, e7, e22, e29, e35, e40⟩ := id hN
    obtain ⟨mo1, hl1⟩ := (hL 1 (by decide)).1.1
    
    refine wp_load (pc' := 5) (j := 4) dX8_isLeftOut_3 rfl rfl rfl ?_
    refine wp_load (pc' := 6) (j := 0) dX8_isLeftOut_5 rfl rfl rfl ?_
    refine wp_get (pc' := 9) dX8_isLeftOut_6 fl_X8_16 hK.1 rfl rfl ?_
    refine wp_v0 0 0 dX8_isLeftOut_9 ml_X8_88 hl1 (Nat.le_of_ble_eq_true rfl) (by omega) (by omega) ?_
    refine k_size (hL 1 (by decide)).1 ?_
    refine kt_v ?_
    refine wp_icmpT 60 dX8_isLeftOut_12 rfl (cgeT rfl (by omega) (by omega)) ?_
    refine wp_iconst (pc' := 61) (0) dX8_isLeftOut_60 rfl rfl ?_
    refine wp_iret dX8_isLeftOut_61 rfl rfl ?_
    obtain rfl : k = N 1 := by omega
    rw [hb] at hP
    exact hP
  | j + 1, k, hk, z5, hb => by
    have ih := l_left (E := E) (d := d) (mc := mc) (ms := ms) hd hH hI hq hi hP j (k + 1) (by omega)
    subst hd
    have hr0 := b2i_t
    obtain ⟨hON, hN, hK, hL, hD, hT, hS, hW, hC, hPm, hY, hF⟩ := id hH
    obtain ⟨n0, n1, n2, n3, n4, n5, e7, e22, e29, e35, e40⟩ := id hN
    obtain ⟨mo1, hl1⟩ := (hL 1 (by decide)).1.1
    
    refine wp_load (pc' := 5) (j := 4) dX8_isLeftOut_3 rfl rfl rfl ?_
    refine wp_load (pc' := 6) (j := 0) dX8_isLeftOut_5 rfl rfl rfl ?_
    refine wp_get (pc' := 9) dX8_isLeftOut_6 fl_X8_16 hK.1 rfl rfl ?_
    refine wp_v0 0 0 dX8_isLeftOut_9 ml_X8_88 hl1 (Nat.le_of_ble_eq_true rfl) (by omega) (by omega) ?_
    refine k_size (hL 1 (by decide)).1 ?_
    refine kt_v ?_
    refine wp_icmpF (pc' := 15) 60 dX8_isLeftOut_12 rfl rfl (cgeF rfl (by omega) (by omega)) ?_
    refine wp_load (pc' := 16) (j := 0) dX8_isLeftOut_15 rfl rfl rfl ?_
    refine wp_get (pc' := 19) dX8_isLeftOut_16 fl_X8_16 hK.1 rfl rfl ?_
    refine wp_load (pc' := 21) (j := 4) dX8_isLeftOut_19 rfl rfl rfl ?_
    refine wp_v1 0 0 dX8_isLeftOut_21 ml_X8_122 hl1 (Nat.le_of_ble_eq_true rfl) (by omega) (by omega) ?_
    refine k_get (hL 1 (by decide)).1 (show k < N 1 from by omega) (by omega) ?_
    refine kt_v ?_
    refine wp_cast (pc' := 27) dX8_isLeftOut_24 cw_X8_95 (hS k (show k < N 1 from by omega)).1.1 rfl rfl rfl ?_
    refine wp_store (pc' := 29) (j := 5) (ls' := [_, _, _, _, _, _]) dX8_isLeftOut_27 rfl (Nat.le_of_ble_eq_true rfl) rfl rfl ?_
    refine wp_load (pc' := 31) (j := 5) dX8_isLeftOut_29 rfl rfl rfl ?_
    refine wp_load (pc' := 32) (j := 1) dX8_isLeftOut_31 rfl rfl rfl ?_
    refine wp_get (pc' := 35) dX8_isLeftOut_32 fl_X8_301 (hS i hi).1.1 rfl rfl ?_
    refine wp_load (pc' := 36) (j := 2) dX8_isLeftOut_35 rfl rfl rfl ?_
    refine wp_load (pc' := 37) (j := 3) dX8_isLeftOut_36 rfl rfl rfl ?_
    refine wp_v3 0 0 dX8_isLeftOut_37 ml_X8_134 (hS k (show k < N 1 from by omega)).1.1 (Nat.le_of_ble_eq_true rfl) (by omega) (by omega) ?_
    refine c_holds hH hI (show k < N 1 from by omega) hq ?_
    refine kt_v ?_
    refine wp_ifeqB (pc' := 43) 54 dX8_isLeftOut_40 rfl rfl (fun h40 => ?_) (fun h40 => ?_)
    · skip
      refine wp_iinc (pc' := 57) (j := 4) (ls' := [_, _, _, _, _, _]) (nI (k + 1)) dX8_isLeftOut_54 rfl (nI_1 k) rfl rfl ?_
      refine wp_goto 3 dX8_isLeftOut_57 rfl ?_
      have hx : (holdsB σ k (σ.2.1 8 i) mt (nI q) && aheadC σ k i) = false := by
        simp only [hr0, h40, Bool.false_eq_true, decide_true, decide_false, Bool.not_true, Bool.not_false, Bool.and_true, Bool.true_and, Bool.and_false, Bool.false_and, Bool.or_true, Bool.true_or, Bool.or_false, Bool.false_or, if_true, if_false, ite_true, ite_false]
      exact ih _ (any_s hb hx)
    · skip
      refine wp_load (pc' := 45) (j := 5) dX8_isLeftOut_43 rfl rfl rfl ?_
      refine wp_load (pc' := 46) (j := 1) dX8_isLeftOut_45 rfl rfl rfl ?_
      refine wp_v1 0 0 dX8_isLeftOut_46 ml_X8_297 (hS k (show k < N 1 from by omega)).1.1 (Nat.le_of_ble_eq_true rfl) (by omega) (by omega) ?_
      refine c_ahead (hS k (by omega)).1.1 (hS i hi).1.1 ?_
      rw [← aheadC]
      refine kt_v ?_
      refine wp_ifeqB (pc' := 52) 54 dX8_isLeftOut_49 rfl rfl (fun h49 => ?_) (fun h49 => ?_)
      · skip
        refine wp_iinc (pc' := 57) (j := 4) (ls' := [_, _, _, _, _, _]) (nI (k + 1)) dX8_isLeftOut_54 rfl (nI_1 k) rfl rfl ?_
        refine wp_goto 3 dX8_isLeftOut_57 rfl ?_
        have hx : (holdsB σ k (σ.2.1 8 i) mt (nI q) && aheadC σ k i) = false := by
          simp only [hr0, h40, h49, Bool.false_eq_true, decide_true, decide_false, Bool.not_true, Bool.not_false, Bool.and_true, Bool.true_and, Bool.and_false, Bool.false_and, Bool.or_true, Bool.true_or, Bool.or_false, Bool.false_or, if_true, if_false, ite_true, ite_false]
        exact ih _ (any_s hb hx)
      · skip
        refine wp_iconst (pc' := 53) (1) dX8_isLeftOut_52 rfl rfl ?_
        refine wp_iret dX8_isLeftOut_53 rfl rfl ?_
        have hx : (holdsB σ k (σ.2.1 8 i) mt (nI q) && aheadC σ k i) = true := by
          simp only [hr0, h40, h49, Bool.false_eq_true, decide_true, decide_false, Bool.not_true, Bool.not_false, Bool.and_true, Bool.true_and, Bool.and_false, Bool.false_and, Bool.or_true, Bool.true_or, Bool.or_false, Bool.false_or, if_true, if_false, ite_true, ite_false]
        rw [any_t (show k < N 1 from by omega) hx] at hP
        exact hP

set_option maxRecDepth 20000 in
set_option maxHeartbeats 2000000 in
theorem c_left {E : XE} {d mc ms : Nat} {P : Ps} {G : HP} {own : Nat → Nat} {A : Nat → Nat → Nat} {F : Nat → Int32} {σ : MS} {N : Nat → Nat} (hH : CH E own A F σ N G) {T : Nat} (hI : PI σ N T) {q : Nat} (hq : q ≤ 49999) {i : Nat} {mt : Int32} (hi : i < N 1) (hP : P (.inl (some (.int (b2i (anyF (fun k => holdsB σ k (σ.2.1 8 i) mt (nI q) && aheadC σ k i) (N 1)))))) G) : Sp E (d + 4) yX8_isLeftOut mc ms [.ref (A 0 0), .ref (A 4 i), .int mt, .int (nI q)] G P := by
  obtain ⟨hON, hN, hK, hL, hD, hT, hS, hW, hC, hPm, hY, hF⟩ := id hH
  obtain ⟨n0, n1, n2, n3, n4, n5, e7, e22, e29, e35, e40⟩ := id hN
  refine sp_intro bd_X8_isLeftOut (v1_all rfl) (Nat.le_of_ble_eq_true rfl) ?_
  change WX _ _ _ _ _ _ 0 [some (.ref (A 0 0)), some (.ref (A 4 i)), some (.int mt), some (.int (nI q)), none, none] [] _ 0 0
  refine wp_iconst (pc' := 1) (0) dX8_isLeftOut_0 rfl rfl ?_
  refine wp_store (pc' := 3) (j := 4) (ls' := [_, _, _, _, _, _]) dX8_isLeftOut_1 rfl (Nat.le_of_ble_eq_true rfl) rfl rfl ?_
  exact l_left rfl hH hI hq hi hP (N 1) 0 (by omega) none rfl

