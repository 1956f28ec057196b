/-! the law reads -/
def lwN (v : Int32) (n : Nat) : Nat := v.toBitVec.toNat % 2 ^ 31 % n
theorem low_ne {n : Nat} (h0 : 0 < n) (hn : n < 2 ^ 31) : ¬ nI n = 0 := nI_ne0 h0 hn
set_option maxRecDepth 20000 in
set_option maxHeartbeats 2000000 in
theorem w_low {E : XE} {d mc ms : Nat} {P : Ps} {G : HP} (v : Int32) {n : Nat} (h0 : 0 < n) (hn : n < 2 ^ 31) (hP : ∀ r, r < n → r = lwN v n → P (.inl (some (.int (nI r)))) G) : Sp E (d + 1) yL_low mc ms [.int v, .int (nI n)] G P := by
  refine sp_intro bd_L_low (v1_all rfl) (Nat.le_of_ble_eq_true rfl) ?_
  change WX _ _ _ _ _ _ 0 [some (.int v), some (.int (nI n))] [] _ 0 0
  refine wp_load (pc' := 1) (j := 0) dL_low_0 rfl rfl rfl ?_
  refine wp_ldc (pc' := 3) dL_low_1 kw_L_9 rfl ?_
  refine wp_pure (pc' := 4) dL_low_3 rfl rfl ?_
  rw [pk_and v 31 (by decide)]
  refine wp_load (pc' := 5) (j := 1) dL_low_4 rfl rfl rfl ?_
  refine wp_rem (pc' := 6) dL_low_5 (low_ne h0 hn) rfl ?_
  rw [pk_rem (Nat.mod_lt _ (by decide)) h0 hn]
  refine wp_iret dL_low_6 rfl rfl ?_
  exact hP _ (Nat.mod_lt _ h0) rfl

set_option maxRecDepth 20000 in
set_option maxHeartbeats 2000000 in
theorem w_at {E : XE} {d mc ms : Nat} {P : Ps} {G : HP} (hL : E.2.2.2.1 ≤ 260) {q : Nat} (hq : q < 200) (hP : ∀ v, P (.inl (some (.int v))) G) : Sp E (d + 1) yL_at mc ms [.ref E.2.2.1, .int (nI q)] G P := by
  refine sp_intro bd_L_at (v1_all rfl) (Nat.le_of_ble_eq_true rfl) ?_
  change WX _ _ _ _ _ _ 0 [some (.ref E.2.2.1), some (.int (nI q))] [] _ 0 0
  refine wp_load (pc' := 1) (j := 1) dL_at_0 rfl rfl rfl ?_
  refine wp_load (pc' := 2) (j := 0) dL_at_1 rfl rfl rfl ?_
  refine wp_slen (pc' := 3) dL_at_2 rfl ?_
  refine wp_icmp_ge (pc' := 6) 12 dL_at_3 rfl rfl (fun h3 => ?_) (fun h3 => ?_)
  · skip
    refine wp_ldc (pc' := 14) dL_at_12 kw_L_7 rfl ?_
    refine wp_load (pc' := 15) (j := 1) dL_at_14 rfl rfl rfl ?_
    refine wp_iconst (pc' := 16) (1) dL_at_15 rfl rfl ?_
    refine wp_pure (pc' := 17) dL_at_16 rfl rfl ?_
    refine wp_pure (pc' := 18) dL_at_17 rfl rfl ?_
    refine wp_ldc (pc' := 20) dL_at_18 kw_L_8 rfl ?_
    refine wp_pure (pc' := 21) dL_at_20 rfl rfl ?_
    refine wp_iret dL_at_21 rfl rfl ?_
    exact hP _
  · skip
    refine wp_load (pc' := 7) (j := 0) dL_at_6 rfl rfl rfl ?_
    refine wp_load (pc' := 8) (j := 1) dL_at_7 rfl rfl rfl ?_
    refine wp_sld (pc' := 9) dL_at_8 rfl (Nat.lt_of_not_le (fun z => h3 (nI_le z (by omega)))) (by omega) rfl ?_
    refine wp_goto 21 dL_at_9 rfl ?_
    refine wp_iret dL_at_21 rfl rfl ?_
    exact hP _

theorem fv0 {σ : MS} {j : Nat} : fineV σ j 0 = σ.2.1 41 j := by
  unfold fineV
  rw [if_pos rfl]
theorem fv1 {σ : MS} {j : Nat} : fineV σ j 1 = σ.2.1 42 j := by
  unfold fineV
  rw [if_neg (by decide), if_pos rfl]
theorem fv2 {σ : MS} {j : Nat} : fineV σ j 2 = σ.2.1 46 j := by
  unfold fineV
  rw [if_neg (by decide), if_neg (by decide), if_pos rfl]
theorem fv3 {σ : MS} {j : Nat} : fineV σ j 3 = σ.2.1 47 j := by
  unfold fineV
  rw [if_neg (by decide), if_neg (by decide), if_neg (by decide), if_pos rfl]
theorem fv4 {σ : MS} {j : Nat} : fineV σ j 4 = b2i (σ.2.2 50 j) := by
  unfold fineV
  rw [if_neg (by decide), if_neg (by decide), if_neg (by decide), if_neg (by decide), if_pos rfl]
theorem fv5 {σ : MS} {j : Nat} : fineV σ j 5 = b2i (σ.2.2 51 j) := by
  unfold fineV
  rw [if_neg (by decide), if_neg (by decide), if_neg (by decide), if_neg (by decide), if_neg (by decide)]
theorem sv0 {σ : MS} {a n : Nat} : strV σ a n 0 = σ.2.1 52 a := by
  unfold strV
  rw [if_pos rfl]
theorem sv1 {σ : MS} {a n : Nat} : strV σ a n 1 = takenF σ (nI a) n := by
  unfold strV
  rw [if_neg (by decide), if_pos rfl]
theorem sv2 {σ : MS} {a n : Nat} : strV σ a n 2 = σ.2.1 53 a := by
  unfold strV
  rw [if_neg (by decide), if_neg (by decide), if_pos rfl]
theorem sv3 {σ : MS} {a n : Nat} : strV σ a n 3 = σ.2.1 54 a := by
  unfold strV
  rw [if_neg (by decide), if_neg (by decide), if_neg (by decide), if_pos rfl]
theorem sv4 {σ : MS} {a n : Nat} : strV σ a n 4 = σ.2.1 55 a := by
  unfold strV
  rw [if_neg (by decide), if_neg (by decide), if_neg (by decide), if_neg (by decide)]
theorem f_ans {σ : MS} {N : Nat → Nat} (hN : cN σ N) {j w : Nat} (hj : j < N 5) (hw : w < 6) {v : Int32} (e : fineV σ j (nI w) = v) : v = rsO (K_fine σ (nI j) (nI w)) (fineV σ (ix (nI j)) (nI w)) := by
  have n5 := hN.2.2.2.2.2.1
  rw [rsO_0 (K_fi_0 hN hj hw), ix_nI (by omega), e]
theorem s_ans {σ : MS} {n a w : Nat} (ha : a < 4) (hw : w < 5) {v : Int32} (e : strV σ a n (nI w) = v) : v = rsO (K_streetIs (nI a) (nI w)) (strV σ (ix (nI a)) n (nI w)) := by
  rw [rsO_0 (K_st_0 ha hw), ix_nI (by omega), e]
theorem d_ans {σ : MS} {N : Nat → Nat} (hN : cN σ N) {i : Nat} (hi : i < N 2) {v : Int32} (e : debtF σ i (N 5) = v) : v = rsO (K_car1 σ (nI i)) (debtF σ (ix (nI i)) (N 5)) := by
  have n2 := hN.2.2.1
  rw [rsO_0 (K_c_0 hN hi), ix_nI (by omega), e]
theorem j_ans {σ : MS} {N : Nat → Nat} (hN : cN σ N) {i : Nat} (hi : i < N 2) {v : Int32} (e : (if σ.2.1 25 i = -1 then -1 else judNow σ i) = v) : v = rsO (K_car1 σ (nI i)) (if σ.2.1 25 (ix (nI i)) = -1 then -1 else judNow σ (ix (nI i))) := by
  have n2 := hN.2.2.1
  rw [rsO_0 (K_c_0 hN hi), ix_nI (by omega), e]
set_option maxRecDepth 20000 in
set_option maxHeartbeats 2000000 in
theorem t_isRule {E : XE} {d mc ms : Nat} {P : Ps} {own : Nat → Nat} {x T B w : Nat} {σ : MS} {N : Nat → Nat} {G : HP} (hT : TK E own x σ N T G) (hX : XI σ N B w) (hw : w ≤ 60) {ag : Nat} {g : Nat → Int32} (hg : G ag = some (hI 6 g)) (g1 : g 1 = nI (N 1)) {a b : Int32} (hmc : 50 ≤ mc) (hms : 300 ≤ ms) (hP : P (.inl (some (.int 1))) G) : Sp E (d + 13) yL_isRule mc ms [.ref x, .ref ag, .int a, .int b] G P := by
  have hN := tk_N hT
  have n1 := hN.2.1
  refine sp_intro bd_L_isRule (v1_all rfl) (Nat.le_of_ble_eq_true rfl) ?_
  change WX _ _ _ _ _ _ 0 [some (.ref x), some (.ref ag), some (.int a), some (.int b), none, none, none, none] [] _ 0 0
  refine wp_load (pc' := 1) (j := 2) dL_isRule_0 rfl rfl rfl ?_
  refine wp_iconst (pc' := 2) (4) dL_isRule_1 rfl rfl ?_
  refine wp_s2 0 0 dL_isRule_2 ml_L_104 (Nat.le_of_ble_eq_true rfl) (by omega) (by omega) ?_
  refine w_low _ (n := 4) (by decide) (by decide) (fun ra hra era => ?_)
  refine kt_v ?_
  refine wp_store (pc' := 7) (j := 4) (ls' := [_, _, _, _, _, _, _, _]) dL_isRule_5 rfl (Nat.le_of_ble_eq_true rfl) rfl rfl ?_
  refine wp_load (pc' := 8) (j := 2) dL_isRule_7 rfl rfl rfl ?_
  refine wp_iconst (pc' := 9) (2) dL_isRule_8 rfl rfl ?_
  refine wp_pure (pc' := 10) dL_isRule_9 rfl rfl ?_
  refine wp_bipush (pc' := 12) (60) dL_isRule_10 rfl rfl ?_
  refine wp_s2 0 0 dL_isRule_12 ml_L_104 (Nat.le_of_ble_eq_true rfl) (by omega) (by omega) ?_
  refine w_low _ (n := 60) (by decide) (by decide) (fun rb hrb erb => ?_)
  refine kt_v ?_
  refine wp_store (pc' := 17) (j := 5) (ls' := [_, _, _, _, _, _, _, _]) dL_isRule_15 rfl (Nat.le_of_ble_eq_true rfl) rfl rfl ?_
  refine wp_load (pc' := 18) (j := 3) dL_isRule_17 rfl rfl rfl ?_
  refine wp_ldc (pc' := 20) dL_isRule_18 kw_L_109 rfl ?_
  refine wp_s2 0 0 dL_isRule_20 ml_L_104 (Nat.le_of_ble_eq_true rfl) (by omega) (by omega) ?_
  refine w_low _ (n := 50000) (by decide) (by decide) (fun rc hrc erc => ?_)
  refine kt_v ?_
  refine wp_store (pc' := 25) (j := 6) (ls' := [_, _, _, _, _, _, _, _]) dL_isRule_23 rfl (Nat.le_of_ble_eq_true rfl) rfl rfl ?_
  refine wp_load (pc' := 26) (j := 0) dL_isRule_25 rfl rfl rfl ?_
  refine wp_load (pc' := 28) (j := 4) dL_isRule_26 rfl rfl rfl ?_
  refine wp_load (pc' := 30) (j := 5) dL_isRule_28 rfl rfl rfl ?_
  refine wp_load (pc' := 32) (j := 6) dL_isRule_30 rfl rfl rfl ?_
  refine wp_s4 10 60 dL_isRule_32 ml_L_110 (Nat.le_of_ble_eq_true rfl) (by omega) (by omega) ?_
  refine w_rule hT (Nat.le_refl _) (Nat.le_refl _) (roI (ruleO σ (nI ra) (nI rb) (nI rc) (N 1))) ((rsO_0 (K_rule_0 hra hrb hrc)).symm) ?_
  refine kt_v ?_
  refine wp_store (pc' := 37) (j := 7) (ls' := [_, _, _, _, _, _, _, _]) dL_isRule_35 rfl (Nat.le_of_ble_eq_true rfl) rfl rfl ?_
  refine wp_load (pc' := 39) (j := 7) dL_isRule_37 rfl rfl rfl ?_
  refine wp_iconst (pc' := 40) (-1) dL_isRule_39 rfl rfl ?_
  refine wp_icmpF (pc' := 43) 114 dL_isRule_40 rfl rfl (ro_ge (fun j h => by have := ruleO_lt h; omega)) ?_
  refine wp_load (pc' := 45) (j := 7) dL_isRule_43 rfl rfl rfl ?_
  refine wp_load (pc' := 46) (j := 1) dL_isRule_45 rfl rfl rfl ?_
  refine wp_iconst (pc' := 47) (1) dL_isRule_46 rfl rfl ?_
  refine wp_iald (pc' := 48) dL_isRule_47 hg rfl (by decide) (by decide) rfl ?_
  rw [g1]
  refine wp_icmpF (pc' := 51) 114 dL_isRule_48 rfl rfl (ro_lt (by omega)) ?_
  refine wp_load (pc' := 52) (j := 0) dL_isRule_51 rfl rfl rfl ?_
  refine wp_load (pc' := 54) (j := 4) dL_isRule_52 rfl rfl rfl ?_
  refine wp_load (pc' := 56) (j := 5) dL_isRule_54 rfl rfl rfl ?_
  refine wp_load (pc' := 58) (j := 6) dL_isRule_56 rfl rfl rfl ?_
  refine wp_s4 10 60 dL_isRule_58 ml_L_113 (Nat.le_of_ble_eq_true rfl) (by omega) (by omega) ?_
  refine w_ruleAnew hT (Nat.le_refl _) (Nat.le_refl _) (roI (ruleO σ (nI ra) (nI rb) (nI rc) (N 1))) ((rsO_0 (K_rule_0 hra hrb hrc)).symm) ?_
  refine kt_v ?_
  refine wp_load (pc' := 63) (j := 7) dL_isRule_61 rfl rfl rfl ?_
  refine wp_icmpF (pc' := 66) 114 dL_isRule_63 rfl rfl (fun z => z rfl) ?_
  refine wp_load (pc' := 67) (j := 0) dL_isRule_66 rfl rfl rfl ?_
  refine wp_iconst (pc' := 68) (4) dL_isRule_67 rfl rfl ?_
  refine wp_load (pc' := 70) (j := 5) dL_isRule_68 rfl rfl rfl ?_
  refine wp_load (pc' := 72) (j := 6) dL_isRule_70 rfl rfl rfl ?_
  refine wp_s4 10 60 dL_isRule_72 ml_L_110 (Nat.le_of_ble_eq_true rfl) (by omega) (by omega) ?_
  refine w_rule hT (Nat.le_refl _) (Nat.le_refl _) (-1000001) ((rsO_1 K_rule_s).symm) ?_
  refine kt_v ?_
  refine wp_ldc (pc' := 77) dL_isRule_75 kw_L_18 rfl ?_
  refine wp_icmpF (pc' := 80) 114 dL_isRule_77 rfl rfl (cmpF rfl) ?_
  refine wp_load (pc' := 81) (j := 0) dL_isRule_80 rfl rfl rfl ?_
  refine wp_load (pc' := 83) (j := 4) dL_isRule_81 rfl rfl rfl ?_
  refine wp_bipush (pc' := 85) (60) dL_isRule_83 rfl rfl ?_
  refine wp_load (pc' := 87) (j := 6) dL_isRule_85 rfl rfl rfl ?_
  refine wp_s4 10 60 dL_isRule_87 ml_L_110 (Nat.le_of_ble_eq_true rfl) (by omega) (by omega) ?_
  refine w_rule hT (Nat.le_refl _) (Nat.le_refl _) (-1000001) ((rsO_1 K_rule_m).symm) ?_
  refine kt_v ?_
  refine wp_ldc (pc' := 92) dL_isRule_90 kw_L_18 rfl ?_
  refine wp_icmpF (pc' := 95) 114 dL_isRule_92 rfl rfl (cmpF rfl) ?_
  refine wp_load (pc' := 96) (j := 0) dL_isRule_95 rfl rfl rfl ?_
  refine wp_load (pc' := 98) (j := 4) dL_isRule_96 rfl rfl rfl ?_
  refine wp_load (pc' := 100) (j := 5) dL_isRule_98 rfl rfl rfl ?_
  refine wp_ldc (pc' := 102) dL_isRule_100 kw_L_109 rfl ?_
  refine wp_s4 10 60 dL_isRule_102 ml_L_110 (Nat.le_of_ble_eq_true rfl) (by omega) (by omega) ?_
  refine w_rule hT (Nat.le_refl _) (Nat.le_refl _) (-1000002) ((rsO_2 (K_rule_q hra hrb)).symm) ?_
  refine kt_v ?_
  refine wp_ldc (pc' := 107) dL_isRule_105 kw_L_25 rfl ?_
  refine wp_icmpF (pc' := 110) 114 dL_isRule_107 rfl rfl (cmpF rfl) ?_
  refine wp_iconst (pc' := 111) (1) dL_isRule_110 rfl rfl ?_
  refine wp_goto 115 dL_isRule_111 rfl ?_
  refine wp_iret dL_isRule_115 rfl rfl ?_
  exact hP

set_option maxRecDepth 20000 in
set_option maxHeartbeats 2000000 in
theorem l_isStreet {E : XE} {d0 d mc ms : Nat} {P : Ps} {own : Nat → Nat} {x T B w : Nat} {σ : MS} {N : Nat → Nat} {G : HP} (hd : d = d0 + 12) (hT : TK E own x σ N T G) (hX : XI σ N B w) (hw : w ≤ 60) {ag al aT a : Nat} (ha : a < 4) {g l t : Nat → Int32} (hg : G ag = some (hI 6 g)) (g0 : g 0 = σ.1 0) (g2 : g 2 = nI (N 2)) (hl : G al = some (hI 30 l)) (ll : ∀ i, i < N 2 → l i = σ.2.1 23 i) (ht : G aT = some (hI 30 t)) (tt : ∀ i, i < N 2 → t i = σ.2.1 25 i) (hB : B ≤ 49999) (hmc : 60 ≤ mc) (hms : 400 ≤ ms) (hP : P (.inl (some (.int 1))) G) : ∀ j k, k + j = N 2 → ∀ z7 : Option Value, WX E d (yL_isStreet, cL_isStreet, (some .boolean), []) mc ms P 6 [some (.ref x), some (.ref ag), some (.ref al), some (.ref aT), some (.int (nI a)), some (.int (takenF σ (nI a) k)), some (.int (nI k)), z7] [] G 0 0
  | 0, k, hk, z7 => by
    subst hd
    have n2 := (tk_N hT).2.2.1
    have hN := tk_N hT
    obtain ⟨⟨t0, ht0, et0, xs, xq⟩, x2, x3, -⟩ := id hX
    obtain ⟨-, -, -, -, -, p7⟩ := tk_I hT
    obtain ⟨q0, hq0, eq0⟩ := xq a ha
    obtain ⟨c0, hc0, ec0⟩ := x3 a ha
    obtain ⟨r0, hr0, er0⟩ := p7 a ha
    obtain rfl : k = N 2 := by omega
    refine wp_load (pc' := 8) (j := 6) dL_isStreet_6 rfl rfl rfl ?_
    refine wp_load (pc' := 9) (j := 1) dL_isStreet_8 rfl rfl rfl ?_
    refine wp_iconst (pc' := 10) (2) dL_isStreet_9 rfl rfl ?_
    refine wp_iald (pc' := 11) dL_isStreet_10 hg rfl (by decide) (by decide) rfl ?_
    rw [g2]
    refine wp_icmpT 42 dL_isStreet_11 rfl (cgeT rfl (by omega) (by omega)) ?_
    refine wp_load (pc' := 43) (j := 0) dL_isStreet_42 rfl rfl rfl ?_
    refine wp_load (pc' := 45) (j := 4) dL_isStreet_43 rfl rfl rfl ?_
    refine wp_iconst (pc' := 46) (0) dL_isStreet_45 rfl rfl ?_
    refine wp_s3 10 60 dL_isStreet_46 ml_L_115 (Nat.le_of_ble_eq_true rfl) (by omega) (by omega) ?_
    refine w_streetIs hT (Nat.le_refl _) (Nat.le_refl _) (nI r0) (s_ans ha (w := 0) (by decide) (sv0.trans er0)) ?_
    refine kt_v ?_
    refine wp_store (pc' := 51) (j := 6) (ls' := [_, _, _, _, _, _, _, _]) dL_isStreet_49 rfl (Nat.le_of_ble_eq_true rfl) rfl rfl ?_
    refine wp_load (pc' := 52) (j := 0) dL_isStreet_51 rfl rfl rfl ?_
    refine wp_load (pc' := 54) (j := 4) dL_isStreet_52 rfl rfl rfl ?_
    refine wp_iconst (pc' := 55) (4) dL_isStreet_54 rfl rfl ?_
    refine wp_s3 10 60 dL_isStreet_55 ml_L_115 (Nat.le_of_ble_eq_true rfl) (by omega) (by omega) ?_
    refine w_streetIs hT (Nat.le_refl _) (Nat.le_refl _) (nI q0) (s_ans ha (w := 4) (by decide) (sv4.trans eq0)) ?_
    refine kt_v ?_
    refine wp_store (pc' := 60) (j := 7) (ls' := [_, _, _, _, _, _, _, _]) dL_isStreet_58 rfl (Nat.le_of_ble_eq_true rfl) rfl rfl ?_
    refine wp_load (pc' := 61) (j := 0) dL_isStreet_60 rfl rfl rfl ?_
    refine wp_load (pc' := 63) (j := 4) dL_isStreet_61 rfl rfl rfl ?_
    refine wp_iconst (pc' := 64) (1) dL_isStreet_63 rfl rfl ?_
    refine wp_s3 10 60 dL_isStreet_64 ml_L_115 (Nat.le_of_ble_eq_true rfl) (by omega) (by omega) ?_
    refine w_streetIs hT (Nat.le_refl _) (Nat.le_refl _) (takenF σ (nI a) (N 2)) (s_ans ha (w := 1) (by decide) (sv1.trans rfl)) ?_
    refine kt_v ?_
    refine wp_load (pc' := 69) (j := 5) dL_isStreet_67 rfl rfl rfl ?_
    refine wp_icmpF (pc' := 72) 143 dL_isStreet_69 rfl rfl (fun z => z rfl) ?_
    refine wp_load (pc' := 74) (j := 6) dL_isStreet_72 rfl rfl rfl ?_
    refine wp_ifF (pc' := 77) 143 dL_isStreet_74 rfl rfl (nI_pos (by omega)) ?_
    refine wp_load (pc' := 79) (j := 6) dL_isStreet_77 rfl rfl rfl ?_
    refine wp_bipush (pc' := 81) (20) dL_isStreet_79 rfl rfl ?_
    refine wp_icmpF (pc' := 84) 143 dL_isStreet_81 rfl rfl (nI_nlt (show r0 ≤ 20 by omega) (by decide)) ?_
    refine wp_load (pc' := 85) (j := 0) dL_isStreet_84 rfl rfl rfl ?_
    refine wp_load (pc' := 87) (j := 4) dL_isStreet_85 rfl rfl rfl ?_
    refine wp_iconst (pc' := 88) (2) dL_isStreet_87 rfl rfl ?_
    refine wp_s3 10 60 dL_isStreet_88 ml_L_115 (Nat.le_of_ble_eq_true rfl) (by omega) (by omega) ?_
    refine w_streetIs hT (Nat.le_refl _) (Nat.le_refl _) (nI c0) (s_ans ha (w := 2) (by decide) (sv2.trans ec0)) ?_
    refine kt_v ?_
    refine wp_ifF (pc' := 94) 143 dL_isStreet_91 rfl rfl (nI_pos (by omega)) ?_
    refine wp_load (pc' := 96) (j := 7) dL_isStreet_94 rfl rfl rfl ?_
    refine wp_ifF (pc' := 99) 143 dL_isStreet_96 rfl rfl (nI_pos (by omega)) ?_
    refine wp_load (pc' := 101) (j := 7) dL_isStreet_99 rfl rfl rfl ?_
    refine wp_bipush (pc' := 103) (60) dL_isStreet_101 rfl rfl ?_
    refine wp_load (pc' := 104) (j := 1) dL_isStreet_103 rfl rfl rfl ?_
    refine wp_iconst (pc' := 105) (0) dL_isStreet_104 rfl rfl ?_
    refine wp_iald (pc' := 106) dL_isStreet_105 hg rfl (by decide) (by decide) rfl ?_
    rw [g0, et0]
    refine wp_bipush (pc' := 108) (96) dL_isStreet_106 rfl rfl ?_
    refine wp_rem (pc' := 109) dL_isStreet_108 (by decide) rfl ?_
    rw [show (96 : Int32) = nI 96 from rfl, pk_rem (by omega) (by decide) (by decide)]
    refine wp_pure (pc' := 110) dL_isStreet_109 rfl rfl ?_
    rw [show (60 : Int32) = nI 60 from rfl, pk_mul]
    refine wp_icmpF (pc' := 113) 143 dL_isStreet_110 rfl rfl (nI_nlt hq0 (by omega)) ?_
    refine wp_load (pc' := 114) (j := 1) dL_isStreet_113 rfl rfl rfl ?_
    refine wp_iconst (pc' := 115) (0) dL_isStreet_114 rfl rfl ?_
    refine wp_iald (pc' := 116) dL_isStreet_115 hg rfl (by decide) (by decide) rfl ?_
    rw [g0, et0]
    refine wp_bipush (pc' := 118) (96) dL_isStreet_116 rfl rfl ?_
    refine wp_rem (pc' := 119) dL_isStreet_118 (by decide) rfl ?_
    rw [show (96 : Int32) = nI 96 from rfl, pk_rem (by omega) (by decide) (by decide)]
    refine wp_if_gt (pc' := 122) 127 dL_isStreet_119 rfl rfl (fun h119 => ?_) (fun h119 => ?_)
    · skip
      skip
      refine wp_load (pc' := 128) (j := 0) dL_isStreet_127 rfl rfl rfl ?_
      refine wp_load (pc' := 130) (j := 4) dL_isStreet_128 rfl rfl rfl ?_
      refine wp_iconst (pc' := 131) (5) dL_isStreet_130 rfl rfl ?_
      refine wp_s3 10 60 dL_isStreet_131 ml_L_115 (Nat.le_of_ble_eq_true rfl) (by omega) (by omega) ?_
      refine w_streetIs hT (Nat.le_refl _) (Nat.le_refl _) (-1000002) ((rsO_2 (K_st_5 ha)).symm) ?_
      refine kt_v ?_
      refine wp_ldc (pc' := 136) dL_isStreet_134 kw_L_25 rfl ?_
      refine wp_icmpF (pc' := 139) 143 dL_isStreet_136 rfl rfl (cmpF rfl) ?_
      refine wp_iconst (pc' := 140) (1) dL_isStreet_139 rfl rfl ?_
      refine wp_goto 144 dL_isStreet_140 rfl ?_
      refine wp_iret dL_isStreet_144 rfl rfl ?_
      exact hP
    · skip
      have hz : t0 % 96 = 0 := by
        rcases Nat.eq_zero_or_pos (t0 % 96) with z | z
        · exact z
        · exact absurd (show nI 0 < nI (t0 % 96) from nI_lt z (by omega)) h119
      refine wp_load (pc' := 124) (j := 7) dL_isStreet_122 rfl rfl rfl ?_
      refine wp_ifF (pc' := 127) 143 dL_isStreet_124 rfl rfl (fun z => z (by rw [show q0 = 0 from by omega]; rfl)) ?_
      refine wp_load (pc' := 128) (j := 0) dL_isStreet_127 rfl rfl rfl ?_
      refine wp_load (pc' := 130) (j := 4) dL_isStreet_128 rfl rfl rfl ?_
      refine wp_iconst (pc' := 131) (5) dL_isStreet_130 rfl rfl ?_
      refine wp_s3 10 60 dL_isStreet_131 ml_L_115 (Nat.le_of_ble_eq_true rfl) (by omega) (by omega) ?_
      refine w_streetIs hT (Nat.le_refl _) (Nat.le_refl _) (-1000002) ((rsO_2 (K_st_5 ha)).symm) ?_
      refine kt_v ?_
      refine wp_ldc (pc' := 136) dL_isStreet_134 kw_L_25 rfl ?_
      refine wp_icmpF (pc' := 139) 143 dL_isStreet_136 rfl rfl (cmpF rfl) ?_
      refine wp_iconst (pc' := 140) (1) dL_isStreet_139 rfl rfl ?_
      refine wp_goto 144 dL_isStreet_140 rfl ?_
      refine wp_iret dL_isStreet_144 rfl rfl ?_
      exact hP
  | j + 1, k, hk, z7 => by
    have ih := l_isStreet (E := E) (d := d) (mc := mc) (ms := ms) hd hT hX hw ha hg g0 g2 hl ll ht tt hB hmc hms hP j (k + 1) (by omega)
    subst hd
    have n2 := (tk_N hT).2.2.1
    refine wp_load (pc' := 8) (j := 6) dL_isStreet_6 rfl rfl rfl ?_
    refine wp_load (pc' := 9) (j := 1) dL_isStreet_8 rfl rfl rfl ?_
    refine wp_iconst (pc' := 10) (2) dL_isStreet_9 rfl rfl ?_
    refine wp_iald (pc' := 11) dL_isStreet_10 hg rfl (by decide) (by decide) rfl ?_
    rw [g2]
    refine wp_icmpF (pc' := 14) 42 dL_isStreet_11 rfl rfl (cgeF rfl (by omega) (by omega)) ?_
    refine wp_load (pc' := 16) (j := 5) dL_isStreet_14 rfl rfl rfl ?_
    refine wp_load (pc' := 17) (j := 3) dL_isStreet_16 rfl rfl rfl ?_
    refine wp_load (pc' := 19) (j := 6) dL_isStreet_17 rfl rfl rfl ?_
    refine wp_iald (pc' := 20) dL_isStreet_19 ht rfl (show k < 30 by omega) (by decide) rfl ?_
    rw [tt k (by omega)]
    refine wp_load (pc' := 22) (j := 4) dL_isStreet_20 rfl rfl rfl ?_
    refine wp_icmp_ne (pc' := 25) 32 dL_isStreet_22 rfl rfl (fun h22 => ?_) (fun h22 => ?_)
    · skip
      refine wp_iconst (pc' := 33) (0) dL_isStreet_32 rfl rfl ?_
      refine wp_pure (pc' := 34) dL_isStreet_33 rfl rfl ?_
      refine wp_store (pc' := 36) (j := 5) (ls' := [_, _, _, _, _, _, _, _]) dL_isStreet_34 rfl (Nat.le_of_ble_eq_true rfl) rfl rfl ?_
      refine wp_iinc (pc' := 39) (j := 6) (ls' := [_, _, _, _, _, _, _, _]) (nI (k + 1)) dL_isStreet_36 rfl (nI_1 k) rfl rfl ?_
      refine wp_goto 6 dL_isStreet_39 rfl ?_
      first
        | (rw [takenF, if_pos (by assumption)] at ih; exact ih _)
        | (rw [takenF, if_neg (by assumption)] at ih; exact ih _)
    · skip
      refine wp_load (pc' := 26) (j := 2) dL_isStreet_25 rfl rfl rfl ?_
      refine wp_load (pc' := 28) (j := 6) dL_isStreet_26 rfl rfl rfl ?_
      refine wp_iald (pc' := 29) dL_isStreet_28 hl rfl (show k < 30 by omega) (by decide) rfl ?_
      rw [ll k (by omega)]
      refine wp_goto 33 dL_isStreet_29 rfl ?_
      refine wp_pure (pc' := 34) dL_isStreet_33 rfl rfl ?_
      refine wp_store (pc' := 36) (j := 5) (ls' := [_, _, _, _, _, _, _, _]) dL_isStreet_34 rfl (Nat.le_of_ble_eq_true rfl) rfl rfl ?_
      refine wp_iinc (pc' := 39) (j := 6) (ls' := [_, _, _, _, _, _, _, _]) (nI (k + 1)) dL_isStreet_36 rfl (nI_1 k) rfl rfl ?_
      refine wp_goto 6 dL_isStreet_39 rfl ?_
      first
        | (rw [takenF, if_pos (by assumption)] at ih; exact ih _)
        | (rw [takenF, if_neg (by assumption)] at ih; exact ih _)

set_option maxRecDepth 20000 in
set_option maxHeartbeats 2000000 in
theorem t_isStreet {E : XE} {d mc ms : Nat} {P : Ps} {own : Nat → Nat} {x T B w : Nat} {σ : MS} {N : Nat → Nat} {G : HP} (hT : TK E own x σ N T G) (hX : XI σ N B w) (hw : w ≤ 60) {ag al aT a : Nat} (ha : a < 4) {g l t : Nat → Int32} (hg : G ag = some (hI 6 g)) (g0 : g 0 = σ.1 0) (g2 : g 2 = nI (N 2)) (hl : G al = some (hI 30 l)) (ll : ∀ i, i < N 2 → l i = σ.2.1 23 i) (ht : G aT = some (hI 30 t)) (tt : ∀ i, i < N 2 → t i = σ.2.1 25 i) (hB : B ≤ 49999) (hmc : 60 ≤ mc) (hms : 400 ≤ ms) (hP : P (.inl (some (.int 1))) G) : Sp E (d + 13) yL_isStreet mc ms [.ref x, .ref ag, .ref al, .ref aT, .int (nI a)] G P := by
  refine sp_intro bd_L_isStreet (v1_all rfl) (Nat.le_of_ble_eq_true rfl) ?_
  change WX _ _ _ _ _ _ 0 [some (.ref x), some (.ref ag), some (.ref al), some (.ref aT), some (.int (nI a)), none, none, none] [] _ 0 0
  refine wp_iconst (pc' := 1) (0) dL_isStreet_0 rfl rfl ?_
  refine wp_store (pc' := 3) (j := 5) (ls' := [_, _, _, _, _, _, _, _]) dL_isStreet_1 rfl (Nat.le_of_ble_eq_true rfl) rfl rfl ?_
  refine wp_iconst (pc' := 4) (0) dL_isStreet_3 rfl rfl ?_
  refine wp_store (pc' := 6) (j := 6) (ls' := [_, _, _, _, _, _, _, _]) dL_isStreet_4 rfl (Nat.le_of_ble_eq_true rfl) rfl rfl ?_
  exact l_isStreet rfl hT hX hw ha hg g0 g2 hl ll ht tt hB hmc hms hP (N 2) 0 (by omega) none

set_option maxRecDepth 20000 in
set_option maxHeartbeats 2000000 in
theorem l_af3 {E : XE} {d0 d mc ms : Nat} {P : Ps} {own : Nat → Nat} {x T B w : Nat} {σ : MS} {N : Nat → Nat} {G : HP} (hd : d = d0 + 12) (hT : TK E own x σ N T G) (hX : XI σ N B w) (hw : w ≤ 60) {ag : Nat} {g : Nat → Int32} (hg : G ag = some (hI 6 g)) (g0 : g 0 = σ.1 0) (g2 : g 2 = nI (N 2)) (g5 : g 5 = nI (N 5)) (hP : P (.inl (some (.int 1))) G) : ∀ j k, k + j = 4 → ∀ z7 : Option Value, ∀ z8 : Option Value, ∀ z9 : Option Value, ∀ (c : Nat), ∀ (n : Nat), ∀ (hc : c + 10 * j + 0 ≤ mc), ∀ (hn : n + 60 * j + 0 ≤ ms), WX E d (yL_areFines, cL_areFines, (some .boolean), []) mc ms P 242 [some (.ref x), some (.ref ag), some (.int (opnF σ (N 5))), some (.int (opnF σ (N 5))), some (.int (dsm (fun i => σ.2.1 54 i) k)), some (.int 1), some (.int (nI k)), z7, z8, z9] [] G c n
  | 0, k, hk, z7, z8, z9, c, n, hc, hn => by
    subst hd
    have hN := tk_N hT
    have n2 := hN.2.2.1
    have n5 := hN.2.2.2.2.2.1
    have hI := tk_I hT
    obtain rfl : k = 4 := by omega
    have hsum : dsm (fun i => σ.2.1 54 i) 4 = nI (N 5) := by
      have := hX.2.2.2.1
      rw [hN.2.2.2.2.2.2.2.2.2.2] at this
      rw [← this]
      show 0 + σ.2.1 54 0 + σ.2.1 54 1 + σ.2.1 54 2 + σ.2.1 54 3 = _
      rw [Int32.zero_add]
    refine wp_load (pc' := 244) (j := 6) dL_areFines_242 rfl rfl rfl ?_
    refine wp_iconst (pc' := 245) (4) dL_areFines_244 rfl rfl ?_
    refine wp_icmpT 266 dL_areFines_245 rfl (cgeT (n := 4) rfl (by omega) (by decide)) ?_
    refine wp_load (pc' := 268) (j := 5) dL_areFines_266 rfl rfl rfl ?_
    refine wp_ifF (pc' := 271) 288 dL_areFines_268 rfl rfl (cmpF rfl) ?_
    refine wp_load (pc' := 272) (j := 3) dL_areFines_271 rfl rfl rfl ?_
    refine wp_load (pc' := 273) (j := 2) dL_areFines_272 rfl rfl rfl ?_
    refine wp_icmpF (pc' := 276) 288 dL_areFines_273 rfl rfl (fun z => z rfl) ?_
    refine wp_load (pc' := 278) (j := 4) dL_areFines_276 rfl rfl rfl ?_
    refine wp_load (pc' := 279) (j := 1) dL_areFines_278 rfl rfl rfl ?_
    refine wp_iconst (pc' := 280) (5) dL_areFines_279 rfl rfl ?_
    refine wp_iald (pc' := 281) dL_areFines_280 hg rfl (by decide) (by decide) rfl ?_
    rw [g5]
    refine wp_icmpF (pc' := 284) 288 dL_areFines_281 rfl rfl (fun z => z hsum) ?_
    refine wp_iconst (pc' := 285) (1) dL_areFines_284 rfl rfl ?_
    refine wp_goto 289 dL_areFines_285 rfl ?_
    refine wp_iret dL_areFines_289 rfl rfl ?_
    exact hP
  | j + 1, k, hk, z7, z8, z9, c, n, hc, hn => by
    have ih := l_af3 (E := E) (d := d) (mc := mc) (ms := ms) hd hT hX hw hg g0 g2 g5 hP j (k + 1) (by omega)
    subst hd
    have hN := tk_N hT
    have n2 := hN.2.2.1
    have n5 := hN.2.2.2.2.2.1
    have hI := tk_I hT
    refine wp_load (pc' := 244) (j := 6) dL_areFines_242 rfl rfl rfl ?_
    refine wp_iconst (pc' := 245) (4) dL_areFines_244 rfl rfl ?_
    refine wp_icmpF (pc' := 248) 266 dL_areFines_245 rfl rfl (cgeF (n := 4) rfl (by omega) (by decide)) ?_
    refine wp_load (pc' := 250) (j := 4) dL_areFines_248 rfl rfl rfl ?_
    refine wp_load (pc' := 251) (j := 0) dL_areFines_250 rfl rfl rfl ?_
    refine wp_load (pc' := 253) (j := 6) dL_areFines_251 rfl rfl rfl ?_
    refine wp_iconst (pc' := 254) (3) dL_areFines_253 rfl rfl ?_
    refine wp_s3 10 60 dL_areFines_254 ml_L_115 (Nat.le_of_ble_eq_true rfl) (by omega) (by omega) ?_
    refine w_streetIs hT (Nat.le_refl _) (Nat.le_refl _) (σ.2.1 54 k) (s_ans (show k < 4 by omega) (w := 3) (by decide) (sv3.trans rfl)) ?_
    refine kt_v ?_
    refine wp_pure (pc' := 258) dL_areFines_257 rfl rfl ?_
    refine wp_store (pc' := 260) (j := 4) (ls' := [_, _, _, _, _, _, _, _, _, _]) dL_areFines_258 rfl (Nat.le_of_ble_eq_true rfl) rfl rfl ?_
    refine wp_iinc (pc' := 263) (j := 6) (ls' := [_, _, _, _, _, _, _, _, _, _]) (nI (k + 1)) dL_areFines_260 rfl (nI_1 k) rfl rfl ?_
    refine wp_goto 242 dL_areFines_263 rfl ?_
    exact ih _ _ _ _ _ (by omega) (by omega)

set_option maxRecDepth 20000 in
set_option maxHeartbeats 2000000 in
theorem l_af2 {E : XE} {d0 d mc ms : Nat} {P : Ps} {own : Nat → Nat} {x T B w : Nat} {σ : MS} {N : Nat → Nat} {G : HP} (hd : d = d0 + 12) (hT : TK E own x σ N T G) (hX : XI σ N B w) (hw : w ≤ 60) {ag : Nat} {g : Nat → Int32} (hg : G ag = some (hI 6 g)) (g0 : g 0 = σ.1 0) (g2 : g 2 = nI (N 2)) (g5 : g 5 = nI (N 5)) (hP : P (.inl (some (.int 1))) G) : ∀ j k, k + j = N 2 → ∀ z7 : Option Value, ∀ z8 : Option Value, ∀ z9 : Option Value, ∀ (c : Nat), ∀ (n : Nat), ∀ (hc : c + 10 * j + 40 ≤ mc), ∀ (hn : n + 60 * j + 240 ≤ ms), WX E d (yL_areFines, cL_areFines, (some .boolean), []) mc ms P 216 [some (.ref x), some (.ref ag), some (.int (opnF σ (N 5))), some (.int (dsm (fun i => debtF σ i (N 5)) k)), some (.int 0), some (.int 1), some (.int (nI k)), z7, z8, z9] [] G c n
  | 0, k, hk, z7, z8, z9, c, n, hc, hn => by
    subst hd
    have hN := tk_N hT
    have n2 := hN.2.2.1
    have n5 := hN.2.2.2.2.2.1
    have hI := tk_I hT
    obtain rfl : k = N 2 := by omega
    refine wp_load (pc' := 218) (j := 6) dL_areFines_216 rfl rfl rfl ?_
    refine wp_load (pc' := 219) (j := 1) dL_areFines_218 rfl rfl rfl ?_
    refine wp_iconst (pc' := 220) (2) dL_areFines_219 rfl rfl ?_
    refine wp_iald (pc' := 221) dL_areFines_220 hg rfl (by decide) (by decide) rfl ?_
    rw [g2]
    refine wp_icmpT 239 dL_areFines_221 rfl (cgeT rfl (by omega) (by omega)) ?_
    refine wp_iconst (pc' := 240) (0) dL_areFines_239 rfl rfl ?_
    refine wp_store (pc' := 242) (j := 6) (ls' := [_, _, _, _, _, _, _, _, _, _]) dL_areFines_240 rfl (Nat.le_of_ble_eq_true rfl) rfl rfl ?_
    rw [debts_open hN hI (N 5) (Nat.le_refl _)]
    exact l_af3 rfl hT hX hw hg g0 g2 g5 hP 4 0 (by omega) _ _ _ _ _ (by omega) (by omega)
  | j + 1, k, hk, z7, z8, z9, c, n, hc, hn => by
    have ih := l_af2 (E := E) (d := d) (mc := mc) (ms := ms) hd hT hX hw hg g0 g2 g5 hP j (k + 1) (by omega)
    subst hd
    have hN := tk_N hT
    have n2 := hN.2.2.1
    have n5 := hN.2.2.2.2.2.1
    have hI := tk_I hT
    refine wp_load (pc' := 218) (j := 6) dL_areFines_216 rfl rfl rfl ?_
    refine wp_load (pc' := 219) (j := 1) dL_areFines_218 rfl rfl rfl ?_
    refine wp_iconst (pc' := 220) (2) dL_areFines_219 rfl rfl ?_
    refine wp_iald (pc' := 221) dL_areFines_220 hg rfl (by decide) (by decide) rfl ?_
    rw [g2]
    refine wp_icmpF (pc' := 224) 239 dL_areFines_221 rfl rfl (cgeF rfl (by omega) (by omega)) ?_
    refine wp_load (pc' := 225) (j := 3) dL_areFines_224 rfl rfl rfl ?_
    refine wp_load (pc' := 226) (j := 0) dL_areFines_225 rfl rfl rfl ?_
    refine wp_load (pc' := 228) (j := 6) dL_areFines_226 rfl rfl rfl ?_
    refine wp_s2 10 60 dL_areFines_228 ml_L_120 (Nat.le_of_ble_eq_true rfl) (by omega) (by omega) ?_
    refine w_debt hT (Nat.le_refl _) (Nat.le_refl _) (debtF σ k (N 5)) (d_ans hN (show k < N 2 by omega) rfl) ?_
    refine kt_v ?_
    refine wp_pure (pc' := 232) dL_areFines_231 rfl rfl ?_
    refine wp_store (pc' := 233) (j := 3) (ls' := [_, _, _, _, _, _, _, _, _, _]) dL_areFines_232 rfl (Nat.le_of_ble_eq_true rfl) rfl rfl ?_
    refine wp_iinc (pc' := 236) (j := 6) (ls' := [_, _, _, _, _, _, _, _, _, _]) (nI (k + 1)) dL_areFines_233 rfl (nI_1 k) rfl rfl ?_
    refine wp_goto 216 dL_areFines_236 rfl ?_
    exact ih _ _ _ _ _ (by omega) (by omega)

set_option maxRecDepth 20000 in
set_option maxHeartbeats 2000000 in
theorem l_af1 {E : XE} {d0 d mc ms : Nat} {P : Ps} {own : Nat → Nat} {x T B w : Nat} {σ : MS} {N : Nat → Nat} {G : HP} (hd : d = d0 + 12) (hT : TK E own x σ N T G) (hX : XI σ N B w) (hw : w ≤ 60) {ag : Nat} {g : Nat → Int32} (hg : G ag = some (hI 6 g)) (g0 : g 0 = σ.1 0) (g2 : g 2 = nI (N 2)) (g5 : g 5 = nI (N 5)) (hP : P (.inl (some (.int 1))) G) (hB : B ≤ 49999) : ∀ j k, k + j = N 5 → ∀ z7 : Option Value, ∀ z8 : Option Value, ∀ z9 : Option Value, ∀ (c : Nat), ∀ (n : Nat), ∀ (hc : c + 70 * j + 400 ≤ mc), ∀ (hn : n + 420 * j + 2400 ≤ ms), WX E d (yL_areFines, cL_areFines, (some .boolean), []) mc ms P 30 [some (.ref x), some (.ref ag), some (.int (opnF σ k)), some (.int 0), some (.int 0), some (.int 1), some (.int (nI k)), z7, z8, z9] [] G c n
  | 0, k, hk, z7, z8, z9, c, n, hc, hn => by
    subst hd
    have hN := tk_N hT
    have n2 := hN.2.2.1
    have n5 := hN.2.2.2.2.2.1
    have hI := tk_I hT
    obtain rfl : k = N 5 := by omega
    refine wp_load (pc' := 32) (j := 6) dL_areFines_30 rfl rfl rfl ?_
    refine wp_load (pc' := 33) (j := 1) dL_areFines_32 rfl rfl rfl ?_
    refine wp_iconst (pc' := 34) (5) dL_areFines_33 rfl rfl ?_
    refine wp_iald (pc' := 35) dL_areFines_34 hg rfl (by decide) (by decide) rfl ?_
    rw [g5]
    refine wp_icmpT 213 dL_areFines_35 rfl (cgeT rfl (by omega) (by omega)) ?_
    refine wp_iconst (pc' := 214) (0) dL_areFines_213 rfl rfl ?_
    refine wp_store (pc' := 216) (j := 6) (ls' := [_, _, _, _, _, _, _, _, _, _]) dL_areFines_214 rfl (Nat.le_of_ble_eq_true rfl) rfl rfl ?_
    exact l_af2 rfl hT hX hw hg g0 g2 g5 hP (N 2) 0 (by omega) _ _ _ _ _ (by omega) (by omega)
  | j + 1, k, hk, z7, z8, z9, c, n, hc, hn => by
    have ih := l_af1 (E := E) (d := d) (mc := mc) (ms := ms) hd hT hX hw hg g0 g2 g5 hP hB j (k + 1) (by omega)
    subst hd
    have hN := tk_N hT
    have n2 := hN.2.2.1
    have n5 := hN.2.2.2.2.2.1
    have hI := tk_I hT
    have hk5 : k < N 5 := by omega
    obtain ⟨⟨t0, ht0, et0, xs, xq⟩, x2, x3, x4, x5, x6, x7, -⟩ := id hX
    obtain ⟨⟨t1, ht1, et1, -, p2⟩, -, -, -, p6, -⟩ := id hI
    obtain ⟨cc, aa, mm, pp, hcc, e41, haa, e42, e43, hmm, e45, hpp, hw47, -⟩ := p6 k hk5
    obtain ⟨uu, huu, e46⟩ := p2 k hk5
    obtain rfl : t0 = t1 := (nI_eq (by omega) (by omega)).1 (et0.symm.trans et1)
    have hvv : 0 < k → ∃ vv, vv ≤ uu ∧ σ.2.1 46 (k - 1) = nI vv := fun hk0 => by
      obtain ⟨a1, b1, q1, q2, q3, q4⟩ := x5 (k - 1) (by omega)
      rw [show k - 1 + 1 = k from by omega] at q4
      have := (nI_eq (by omega) (by omega)).1 (q4.symm.trans e46)
      exact ⟨a1, by omega, q3⟩
    have h6 := x6 k hk5
    rcases z50 : σ.2.2 50 k with _ | _ <;> rcases z51 : σ.2.2 51 k with _ | _
    rotate_left 3
    · exact absurd ⟨z50, z51⟩ h6
    all_goals rcases hw47 with z47 | z47 | z47 | z47
    · skip
      have h47 : σ.2.1 47 k = 1 := z47
      have h50 : σ.2.2 50 k = false := z50
      have h51 : σ.2.2 51 k = false := z51
      have eo : opnF σ k + 100 = opnF σ (k + 1) := by
        simp only [opnF, h50, h51, amoF, h47]
        rfl
      refine wp_load (pc' := 32) (j := 6) dL_areFines_30 rfl rfl rfl ?_
      refine wp_load (pc' := 33) (j := 1) dL_areFines_32 rfl rfl rfl ?_
      refine wp_iconst (pc' := 34) (5) dL_areFines_33 rfl rfl ?_
      refine wp_iald (pc' := 35) dL_areFines_34 hg rfl (by decide) (by decide) rfl ?_
      rw [g5]
      refine wp_icmpF (pc' := 38) 213 dL_areFines_35 rfl rfl (cgeF rfl (by omega) (by omega)) ?_
      refine wp_load (pc' := 40) (j := 5) dL_areFines_38 rfl rfl rfl ?_
      refine wp_ifF (pc' := 43) 213 dL_areFines_40 rfl rfl (cmpF rfl) ?_
      refine wp_load (pc' := 44) (j := 0) dL_areFines_43 rfl rfl rfl ?_
      refine wp_load (pc' := 46) (j := 6) dL_areFines_44 rfl rfl rfl ?_
      refine wp_iconst (pc' := 47) (3) dL_areFines_46 rfl rfl ?_
      refine wp_s3 10 60 dL_areFines_47 ml_L_118 (Nat.le_of_ble_eq_true rfl) (by omega) (by omega) ?_
      refine w_fine hT (Nat.le_refl _) (Nat.le_refl _) (1) (f_ans hN (hk5) (w := 3) (by decide) (fv3.trans h47)) ?_
      refine kt_v ?_
      refine wp_store (pc' := 52) (j := 7) (ls' := [_, _, _, _, _, _, _, _, _, _]) dL_areFines_50 rfl (Nat.le_of_ble_eq_true rfl) rfl rfl ?_
      refine wp_load (pc' := 53) (j := 0) dL_areFines_52 rfl rfl rfl ?_
      refine wp_load (pc' := 55) (j := 6) dL_areFines_53 rfl rfl rfl ?_
      refine wp_iconst (pc' := 56) (4) dL_areFines_55 rfl rfl ?_
      refine wp_s3 10 60 dL_areFines_56 ml_L_118 (Nat.le_of_ble_eq_true rfl) (by omega) (by omega) ?_
      refine w_fine hT (Nat.le_refl _) (Nat.le_refl _) (0) (f_ans hN (hk5) (w := 4) (by decide) (fv4.trans (congrArg b2i h50))) ?_
      refine kt_v ?_
      refine wp_store (pc' := 61) (j := 8) (ls' := [_, _, _, _, _, _, _, _, _, _]) dL_areFines_59 rfl (Nat.le_of_ble_eq_true rfl) rfl rfl ?_
      refine wp_load (pc' := 62) (j := 0) dL_areFines_61 rfl rfl rfl ?_
      refine wp_load (pc' := 64) (j := 6) dL_areFines_62 rfl rfl rfl ?_
      refine wp_iconst (pc' := 65) (5) dL_areFines_64 rfl rfl ?_
      refine wp_s3 10 60 dL_areFines_65 ml_L_118 (Nat.le_of_ble_eq_true rfl) (by omega) (by omega) ?_
      refine w_fine hT (Nat.le_refl _) (Nat.le_refl _) (0) (f_ans hN (hk5) (w := 5) (by decide) (fv5.trans (congrArg b2i h51))) ?_
      refine kt_v ?_
      refine wp_store (pc' := 70) (j := 9) (ls' := [_, _, _, _, _, _, _, _, _, _]) dL_areFines_68 rfl (Nat.le_of_ble_eq_true rfl) rfl rfl ?_
      refine wp_load (pc' := 71) (j := 2) dL_areFines_70 rfl rfl rfl ?_
      refine wp_load (pc' := 73) (j := 8) dL_areFines_71 rfl rfl rfl ?_
      refine wp_load (pc' := 75) (j := 9) dL_areFines_73 rfl rfl rfl ?_
      refine wp_pure (pc' := 76) dL_areFines_75 rfl rfl ?_
      refine wp_ifT 83 dL_areFines_76 rfl (cmpT rfl) ?_
      refine wp_load (pc' := 85) (j := 7) dL_areFines_83 rfl rfl rfl ?_
      refine wp_iconst (pc' := 86) (1) dL_areFines_85 rfl rfl ?_
      refine wp_icmpF (pc' := 89) 94 dL_areFines_86 rfl rfl (cmpF rfl) ?_
      refine wp_bipush (pc' := 91) (100) dL_areFines_89 rfl rfl ?_
      refine wp_goto 118 dL_areFines_91 rfl ?_
      refine wp_pure (pc' := 119) dL_areFines_118 rfl rfl ?_
      refine wp_store (pc' := 120) (j := 2) (ls' := [_, _, _, _, _, _, _, _, _, _]) dL_areFines_119 rfl (Nat.le_of_ble_eq_true rfl) rfl rfl ?_
      refine wp_load (pc' := 122) (j := 7) dL_areFines_120 rfl rfl rfl ?_
      refine wp_ifF (pc' := 125) 204 dL_areFines_122 rfl rfl (cmpF rfl) ?_
      refine wp_load (pc' := 127) (j := 7) dL_areFines_125 rfl rfl rfl ?_
      refine wp_iconst (pc' := 128) (5) dL_areFines_127 rfl rfl ?_
      refine wp_icmpF (pc' := 131) 204 dL_areFines_128 rfl rfl (cmpF rfl) ?_
      refine wp_load (pc' := 133) (j := 8) dL_areFines_131 rfl rfl rfl ?_
      refine wp_ifF (pc' := 136) 204 dL_areFines_133 rfl rfl (cmpF rfl) ?_
      refine wp_load (pc' := 138) (j := 9) dL_areFines_136 rfl rfl rfl ?_
      refine wp_ifF (pc' := 141) 204 dL_areFines_138 rfl rfl (cmpF rfl) ?_
      refine wp_load (pc' := 143) (j := 8) dL_areFines_141 rfl rfl rfl ?_
      refine wp_load (pc' := 145) (j := 9) dL_areFines_143 rfl rfl rfl ?_
      refine wp_pure (pc' := 146) dL_areFines_145 rfl rfl ?_
      refine wp_iconst (pc' := 147) (2) dL_areFines_146 rfl rfl ?_
      refine wp_icmpF (pc' := 150) 204 dL_areFines_147 rfl rfl (cmpF rfl) ?_
      refine wp_load (pc' := 151) (j := 0) dL_areFines_150 rfl rfl rfl ?_
      refine wp_load (pc' := 153) (j := 6) dL_areFines_151 rfl rfl rfl ?_
      refine wp_iconst (pc' := 154) (0) dL_areFines_153 rfl rfl ?_
      refine wp_s3 10 60 dL_areFines_154 ml_L_118 (Nat.le_of_ble_eq_true rfl) (by omega) (by omega) ?_
      refine w_fine hT (Nat.le_refl _) (Nat.le_refl _) (nI cc) (f_ans hN (hk5) (w := 0) (by decide) (fv0.trans e41)) ?_
      refine kt_v ?_
      refine wp_load (pc' := 158) (j := 1) dL_areFines_157 rfl rfl rfl ?_
      refine wp_iconst (pc' := 159) (2) dL_areFines_158 rfl rfl ?_
      refine wp_iald (pc' := 160) dL_areFines_159 hg rfl (by decide) (by decide) rfl ?_
      rw [g2]
      refine wp_icmpF (pc' := 163) 204 dL_areFines_160 rfl rfl (cgeF rfl (by omega) (by omega)) ?_
      refine wp_load (pc' := 164) (j := 0) dL_areFines_163 rfl rfl rfl ?_
      refine wp_load (pc' := 166) (j := 6) dL_areFines_164 rfl rfl rfl ?_
      refine wp_iconst (pc' := 167) (2) dL_areFines_166 rfl rfl ?_
      refine wp_s3 10 60 dL_areFines_167 ml_L_118 (Nat.le_of_ble_eq_true rfl) (by omega) (by omega) ?_
      refine w_fine hT (Nat.le_refl _) (Nat.le_refl _) (nI uu) (f_ans hN (hk5) (w := 2) (by decide) (fv2.trans e46)) ?_
      refine kt_v ?_
      refine wp_load (pc' := 171) (j := 1) dL_areFines_170 rfl rfl rfl ?_
      refine wp_iconst (pc' := 172) (0) dL_areFines_171 rfl rfl ?_
      refine wp_iald (pc' := 173) dL_areFines_172 hg rfl (by decide) (by decide) rfl ?_
      rw [g0, et0]
      refine wp_icmpF (pc' := 176) 204 dL_areFines_173 rfl rfl (nI_nlt (by omega) (by omega)) ?_
      refine wp_load (pc' := 178) (j := 6) dL_areFines_176 rfl rfl rfl ?_
      refine wp_if_eq (pc' := 181) 200 dL_areFines_178 rfl rfl (fun h178 => ?_) (fun h178 => ?_)
      · skip
        skip
        refine wp_iconst (pc' := 201) (1) dL_areFines_200 rfl rfl ?_
        refine wp_goto 205 dL_areFines_201 rfl ?_
        refine wp_store (pc' := 207) (j := 5) (ls' := [_, _, _, _, _, _, _, _, _, _]) dL_areFines_205 rfl (Nat.le_of_ble_eq_true rfl) rfl rfl ?_
        refine wp_iinc (pc' := 210) (j := 6) (ls' := [_, _, _, _, _, _, _, _, _, _]) (nI (k + 1)) dL_areFines_207 rfl (nI_1 k) rfl rfl ?_
        refine wp_goto 30 dL_areFines_210 rfl ?_
        rw [eo]
        exact ih _ _ _ _ _ (by omega) (by omega)
      · skip
        have hk1 : 0 < k := Nat.pos_of_ne_zero (fun z => h178 (by rw [z]; rfl))
        obtain ⟨vv, hvu, e46b⟩ := hvv hk1
        refine wp_load (pc' := 182) (j := 0) dL_areFines_181 rfl rfl rfl ?_
        refine wp_load (pc' := 184) (j := 6) dL_areFines_182 rfl rfl rfl ?_
        refine wp_iconst (pc' := 185) (2) dL_areFines_184 rfl rfl ?_
        refine wp_s3 10 60 dL_areFines_185 ml_L_118 (Nat.le_of_ble_eq_true rfl) (by omega) (by omega) ?_
        refine w_fine hT (Nat.le_refl _) (Nat.le_refl _) (nI uu) (f_ans hN (hk5) (w := 2) (by decide) (fv2.trans e46)) ?_
        refine kt_v ?_
        refine wp_load (pc' := 189) (j := 0) dL_areFines_188 rfl rfl rfl ?_
        refine wp_load (pc' := 191) (j := 6) dL_areFines_189 rfl rfl rfl ?_
        refine wp_iconst (pc' := 192) (1) dL_areFines_191 rfl rfl ?_
        refine wp_pure (pc' := 193) dL_areFines_192 rfl rfl ?_
        rw [show nI k - 1 = nI (k - 1) from pk_sub (show 1 ≤ k by omega)]
        refine wp_iconst (pc' := 194) (2) dL_areFines_193 rfl rfl ?_
        refine wp_s3 10 60 dL_areFines_194 ml_L_118 (Nat.le_of_ble_eq_true rfl) (by omega) (by omega) ?_
        refine w_fine hT (Nat.le_refl _) (Nat.le_refl _) (nI vv) (f_ans hN (show k - 1 < N 5 by omega) (w := 2) (by decide) (fv2.trans e46b)) ?_
        refine kt_v ?_
        refine wp_icmpF (pc' := 200) 204 dL_areFines_197 rfl rfl (nI_nlt hvu (by omega)) ?_
        refine wp_iconst (pc' := 201) (1) dL_areFines_200 rfl rfl ?_
        refine wp_goto 205 dL_areFines_201 rfl ?_
        refine wp_store (pc' := 207) (j := 5) (ls' := [_, _, _, _, _, _, _, _, _, _]) dL_areFines_205 rfl (Nat.le_of_ble_eq_true rfl) rfl rfl ?_
        refine wp_iinc (pc' := 210) (j := 6) (ls' := [_, _, _, _, _, _, _, _, _, _]) (nI (k + 1)) dL_areFines_207 rfl (nI_1 k) rfl rfl ?_
        refine wp_goto 30 dL_areFines_210 rfl ?_
        rw [eo]
        exact ih _ _ _ _ _ (by omega) (by omega)
    · skip
      have h47 : σ.2.1 47 k = 2 := z47
      have h50 : σ.2.2 50 k = false := z50
      have h51 : σ.2.2 51 k = false := z51
      have eo : opnF σ k + 60 = opnF σ (k + 1) := by
        simp only [opnF, h50, h51, amoF, h47]
        rfl
      refine wp_load (pc' := 32) (j := 6) dL_areFines_30 rfl rfl rfl ?_
      refine wp_load (pc' := 33) (j := 1) dL_areFines_32 rfl rfl rfl ?_
      refine wp_iconst (pc' := 34) (5) dL_areFines_33 rfl rfl ?_
      refine wp_iald (pc' := 35) dL_areFines_34 hg rfl (by decide) (by decide) rfl ?_
      rw [g5]
      refine wp_icmpF (pc' := 38) 213 dL_areFines_35 rfl rfl (cgeF rfl (by omega) (by omega)) ?_
      refine wp_load (pc' := 40) (j := 5) dL_areFines_38 rfl rfl rfl ?_
      refine wp_ifF (pc' := 43) 213 dL_areFines_40 rfl rfl (cmpF rfl) ?_
      refine wp_load (pc' := 44) (j := 0) dL_areFines_43 rfl rfl rfl ?_
      refine wp_load (pc' := 46) (j := 6) dL_areFines_44 rfl rfl rfl ?_
      refine wp_iconst (pc' := 47) (3) dL_areFines_46 rfl rfl ?_
      refine wp_s3 10 60 dL_areFines_47 ml_L_118 (Nat.le_of_ble_eq_true rfl) (by omega) (by omega) ?_
      refine w_fine hT (Nat.le_refl _) (Nat.le_refl _) (2) (f_ans hN (hk5) (w := 3) (by decide) (fv3.trans h47)) ?_
      refine kt_v ?_
      refine wp_store (pc' := 52) (j := 7) (ls' := [_, _, _, _, _, _, _, _, _, _]) dL_areFines_50 rfl (Nat.le_of_ble_eq_true rfl) rfl rfl ?_
      refine wp_load (pc' := 53) (j := 0) dL_areFines_52 rfl rfl rfl ?_
      refine wp_load (pc' := 55) (j := 6) dL_areFines_53 rfl rfl rfl ?_
      refine wp_iconst (pc' := 56) (4) dL_areFines_55 rfl rfl ?_
      refine wp_s3 10 60 dL_areFines_56 ml_L_118 (Nat.le_of_ble_eq_true rfl) (by omega) (by omega) ?_
      refine w_fine hT (Nat.le_refl _) (Nat.le_refl _) (0) (f_ans hN (hk5) (w := 4) (by decide) (fv4.trans (congrArg b2i h50))) ?_
      refine kt_v ?_
      refine wp_store (pc' := 61) (j := 8) (ls' := [_, _, _, _, _, _, _, _, _, _]) dL_areFines_59 rfl (Nat.le_of_ble_eq_true rfl) rfl rfl ?_
      refine wp_load (pc' := 62) (j := 0) dL_areFines_61 rfl rfl rfl ?_
      refine wp_load (pc' := 64) (j := 6) dL_areFines_62 rfl rfl rfl ?_
      refine wp_iconst (pc' := 65) (5) dL_areFines_64 rfl rfl ?_
      refine wp_s3 10 60 dL_areFines_65 ml_L_118 (Nat.le_of_ble_eq_true rfl) (by omega) (by omega) ?_
      refine w_fine hT (Nat.le_refl _) (Nat.le_refl _) (0) (f_ans hN (hk5) (w := 5) (by decide) (fv5.trans (congrArg b2i h51))) ?_
      refine kt_v ?_
      refine wp_store (pc' := 70) (j := 9) (ls' := [_, _, _, _, _, _, _, _, _, _]) dL_areFines_68 rfl (Nat.le_of_ble_eq_true rfl) rfl rfl ?_
      refine wp_load (pc' := 71) (j := 2) dL_areFines_70 rfl rfl rfl ?_
      refine wp_load (pc' := 73) (j := 8) dL_areFines_71 rfl rfl rfl ?_
      refine wp_load (pc' := 75) (j := 9) dL_areFines_73 rfl rfl rfl ?_
      refine wp_pure (pc' := 76) dL_areFines_75 rfl rfl ?_
      refine wp_ifT 83 dL_areFines_76 rfl (cmpT rfl) ?_
      refine wp_load (pc' := 85) (j := 7) dL_areFines_83 rfl rfl rfl ?_
      refine wp_iconst (pc' := 86) (1) dL_areFines_85 rfl rfl ?_
      refine wp_icmpT 94 dL_areFines_86 rfl (cmpT rfl) ?_
      refine wp_load (pc' := 96) (j := 7) dL_areFines_94 rfl rfl rfl ?_
      refine wp_iconst (pc' := 97) (2) dL_areFines_96 rfl rfl ?_
      refine wp_icmpF (pc' := 100) 105 dL_areFines_97 rfl rfl (cmpF rfl) ?_
      refine wp_bipush (pc' := 102) (60) dL_areFines_100 rfl rfl ?_
      refine wp_goto 118 dL_areFines_102 rfl ?_
      refine wp_pure (pc' := 119) dL_areFines_118 rfl rfl ?_
      refine wp_store (pc' := 120) (j := 2) (ls' := [_, _, _, _, _, _, _, _, _, _]) dL_areFines_119 rfl (Nat.le_of_ble_eq_true rfl) rfl rfl ?_
      refine wp_load (pc' := 122) (j := 7) dL_areFines_120 rfl rfl rfl ?_
      refine wp_ifF (pc' := 125) 204 dL_areFines_122 rfl rfl (cmpF rfl) ?_
      refine wp_load (pc' := 127) (j := 7) dL_areFines_125 rfl rfl rfl ?_
      refine wp_iconst (pc' := 128) (5) dL_areFines_127 rfl rfl ?_
      refine wp_icmpF (pc' := 131) 204 dL_areFines_128 rfl rfl (cmpF rfl) ?_
      refine wp_load (pc' := 133) (j := 8) dL_areFines_131 rfl rfl rfl ?_
      refine wp_ifF (pc' := 136) 204 dL_areFines_133 rfl rfl (cmpF rfl) ?_
      refine wp_load (pc' := 138) (j := 9) dL_areFines_136 rfl rfl rfl ?_
      refine wp_ifF (pc' := 141) 204 dL_areFines_138 rfl rfl (cmpF rfl) ?_
      refine wp_load (pc' := 143) (j := 8) dL_areFines_141 rfl rfl rfl ?_
      refine wp_load (pc' := 145) (j := 9) dL_areFines_143 rfl rfl rfl ?_
      refine wp_pure (pc' := 146) dL_areFines_145 rfl rfl ?_
      refine wp_iconst (pc' := 147) (2) dL_areFines_146 rfl rfl ?_
      refine wp_icmpF (pc' := 150) 204 dL_areFines_147 rfl rfl (cmpF rfl) ?_
      refine wp_load (pc' := 151) (j := 0) dL_areFines_150 rfl rfl rfl ?_
      refine wp_load (pc' := 153) (j := 6) dL_areFines_151 rfl rfl rfl ?_
      refine wp_iconst (pc' := 154) (0) dL_areFines_153 rfl rfl ?_
      refine wp_s3 10 60 dL_areFines_154 ml_L_118 (Nat.le_of_ble_eq_true rfl) (by omega) (by omega) ?_
      refine w_fine hT (Nat.le_refl _) (Nat.le_refl _) (nI cc) (f_ans hN (hk5) (w := 0) (by decide) (fv0.trans e41)) ?_
      refine kt_v ?_
      refine wp_load (pc' := 158) (j := 1) dL_areFines_157 rfl rfl rfl ?_
      refine wp_iconst (pc' := 159) (2) dL_areFines_158 rfl rfl ?_
      refine wp_iald (pc' := 160) dL_areFines_159 hg rfl (by decide) (by decide) rfl ?_
      rw [g2]
      refine wp_icmpF (pc' := 163) 204 dL_areFines_160 rfl rfl (cgeF rfl (by omega) (by omega)) ?_
      refine wp_load (pc' := 164) (j := 0) dL_areFines_163 rfl rfl rfl ?_
      refine wp_load (pc' := 166) (j := 6) dL_areFines_164 rfl rfl rfl ?_
      refine wp_iconst (pc' := 167) (2) dL_areFines_166 rfl rfl ?_
      refine wp_s3 10 60 dL_areFines_167 ml_L_118 (Nat.le_of_ble_eq_true rfl) (by omega) (by omega) ?_
      refine w_fine hT (Nat.le_refl _) (Nat.le_refl _) (nI uu) (f_ans hN (hk5) (w := 2) (by decide) (fv2.trans e46)) ?_
      refine kt_v ?_
      refine wp_load (pc' := 171) (j := 1) dL_areFines_170 rfl rfl rfl ?_
      refine wp_iconst (pc' := 172) (0) dL_areFines_171 rfl rfl ?_
      refine wp_iald (pc' := 173) dL_areFines_172 hg rfl (by decide) (by decide) rfl ?_
      rw [g0, et0]
      refine wp_icmpF (pc' := 176) 204 dL_areFines_173 rfl rfl (nI_nlt (by omega) (by omega)) ?_
      refine wp_load (pc' := 178) (j := 6) dL_areFines_176 rfl rfl rfl ?_
      refine wp_if_eq (pc' := 181) 200 dL_areFines_178 rfl rfl (fun h178 => ?_) (fun h178 => ?_)
      · skip
        skip
        refine wp_iconst (pc' := 201) (1) dL_areFines_200 rfl rfl ?_
        refine wp_goto 205 dL_areFines_201 rfl ?_
        refine wp_store (pc' := 207) (j := 5) (ls' := [_, _, _, _, _, _, _, _, _, _]) dL_areFines_205 rfl (Nat.le_of_ble_eq_true rfl) rfl rfl ?_
        refine wp_iinc (pc' := 210) (j := 6) (ls' := [_, _, _, _, _, _, _, _, _, _]) (nI (k + 1)) dL_areFines_207 rfl (nI_1 k) rfl rfl ?_
        refine wp_goto 30 dL_areFines_210 rfl ?_
        rw [eo]
        exact ih _ _ _ _ _ (by omega) (by omega)
      · skip
        have hk1 : 0 < k := Nat.pos_of_ne_zero (fun z => h178 (by rw [z]; rfl))
        obtain ⟨vv, hvu, e46b⟩ := hvv hk1
        refine wp_load (pc' := 182) (j := 0) dL_areFines_181 rfl rfl rfl ?_
        refine wp_load (pc' := 184) (j := 6) dL_areFines_182 rfl rfl rfl ?_
        refine wp_iconst (pc' := 185) (2) dL_areFines_184 rfl rfl ?_
        refine wp_s3 10 60 dL_areFines_185 ml_L_118 (Nat.le_of_ble_eq_true rfl) (by omega) (by omega) ?_
        refine w_fine hT (Nat.le_refl _) (Nat.le_refl _) (nI uu) (f_ans hN (hk5) (w := 2) (by decide) (fv2.trans e46)) ?_
        refine kt_v ?_
        refine wp_load (pc' := 189) (j := 0) dL_areFines_188 rfl rfl rfl ?_
        refine wp_load (pc' := 191) (j := 6) dL_areFines_189 rfl rfl rfl ?_
        refine wp_iconst (pc' := 192) (1) dL_areFines_191 rfl rfl ?_
        refine wp_pure (pc' := 193) dL_areFines_192 rfl rfl ?_
        rw [show nI k - 1 = nI (k - 1) from pk_sub (show 1 ≤ k by omega)]
        refine wp_iconst (pc' := 194) (2) dL_areFines_193 rfl rfl ?_
        refine wp_s3 10 60 dL_areFines_194 ml_L_118 (Nat.le_of_ble_eq_true rfl) (by omega) (by omega) ?_
        refine w_fine hT (Nat.le_refl _) (Nat.le_refl _) (nI vv) (f_ans hN (show k - 1 < N 5 by omega) (w := 2) (by decide) (fv2.trans e46b)) ?_
        refine kt_v ?_
        refine wp_icmpF (pc' := 200) 204 dL_areFines_197 rfl rfl (nI_nlt hvu (by omega)) ?_
        refine wp_iconst (pc' := 201) (1) dL_areFines_200 rfl rfl ?_
        refine wp_goto 205 dL_areFines_201 rfl ?_
        refine wp_store (pc' := 207) (j := 5) (ls' := [_, _, _, _, _, _, _, _, _, _]) dL_areFines_205 rfl (Nat.le_of_ble_eq_true rfl) rfl rfl ?_
        refine wp_iinc (pc' := 210) (j := 6) (ls' := [_, _, _, _, _, _, _, _, _, _]) (nI (k + 1)) dL_areFines_207 rfl (nI_1 k) rfl rfl ?_
        refine wp_goto 30 dL_areFines_210 rfl ?_
        rw [eo]
        exact ih _ _ _ _ _ (by omega) (by omega)
    · skip
      have h47 : σ.2.1 47 k = 3 := z47
      have h50 : σ.2.2 50 k = false := z50
      have h51 : σ.2.2 51 k = false := z51
      have eo : opnF σ k + 30 = opnF σ (k + 1) := by
        simp only [opnF, h50, h51, amoF, h47]
        rfl
      refine wp_load (pc' := 32) (j := 6) dL_areFines_30 rfl rfl rfl ?_
      refine wp_load (pc' := 33) (j := 1) dL_areFines_32 rfl rfl rfl ?_
      refine wp_iconst (pc' := 34) (5) dL_areFines_33 rfl rfl ?_
      refine wp_iald (pc' := 35) dL_areFines_34 hg rfl (by decide) (by decide) rfl ?_
      rw [g5]
      refine wp_icmpF (pc' := 38) 213 dL_areFines_35 rfl rfl (cgeF rfl (by omega) (by omega)) ?_
      refine wp_load (pc' := 40) (j := 5) dL_areFines_38 rfl rfl rfl ?_
      refine wp_ifF (pc' := 43) 213 dL_areFines_40 rfl rfl (cmpF rfl) ?_
      refine wp_load (pc' := 44) (j := 0) dL_areFines_43 rfl rfl rfl ?_
      refine wp_load (pc' := 46) (j := 6) dL_areFines_44 rfl rfl rfl ?_
      refine wp_iconst (pc' := 47) (3) dL_areFines_46 rfl rfl ?_
      refine wp_s3 10 60 dL_areFines_47 ml_L_118 (Nat.le_of_ble_eq_true rfl) (by omega) (by omega) ?_
      refine w_fine hT (Nat.le_refl _) (Nat.le_refl _) (3) (f_ans hN (hk5) (w := 3) (by decide) (fv3.trans h47)) ?_
      refine kt_v ?_
      refine wp_store (pc' := 52) (j := 7) (ls' := [_, _, _, _, _, _, _, _, _, _]) dL_areFines_50 rfl (Nat.le_of_ble_eq_true rfl) rfl rfl ?_
      refine wp_load (pc' := 53) (j := 0) dL_areFines_52 rfl rfl rfl ?_
      refine wp_load (pc' := 55) (j := 6) dL_areFines_53 rfl rfl rfl ?_
      refine wp_iconst (pc' := 56) (4) dL_areFines_55 rfl rfl ?_
      refine wp_s3 10 60 dL_areFines_56 ml_L_118 (Nat.le_of_ble_eq_true rfl) (by omega) (by omega) ?_
      refine w_fine hT (Nat.le_refl _) (Nat.le_refl _) (0) (f_ans hN (hk5) (w := 4) (by decide) (fv4.trans (congrArg b2i h50))) ?_
      refine kt_v ?_
      refine wp_store (pc' := 61) (j := 8) (ls' := [_, _, _, _, _, _, _, _, _, _]) dL_areFines_59 rfl (Nat.le_of_ble_eq_true rfl) rfl rfl ?_
      refine wp_load (pc' := 62) (j := 0) dL_areFines_61 rfl rfl rfl ?_
      refine wp_load (pc' := 64) (j := 6) dL_areFines_62 rfl rfl rfl ?_
      refine wp_iconst (pc' := 65) (5) dL_areFines_64 rfl rfl ?_
      refine wp_s3 10 60 dL_areFines_65 ml_L_118 (Nat.le_of_ble_eq_true rfl) (by omega) (by omega) ?_
      refine w_fine hT (Nat.le_refl _) (Nat.le_refl _) (0) (f_ans hN (hk5) (w := 5) (by decide) (fv5.trans (congrArg b2i h51))) ?_
      refine kt_v ?_
      refine wp_store (pc' := 70) (j := 9) (ls' := [_, _, _, _, _, _, _, _, _, _]) dL_areFines_68 rfl (Nat.le_of_ble_eq_true rfl) rfl rfl ?_
      refine wp_load (pc' := 71) (j := 2) dL_areFines_70 rfl rfl rfl ?_
      refine wp_load (pc' := 73) (j := 8) dL_areFines_71 rfl rfl rfl ?_
      refine wp_load (pc' := 75) (j := 9) dL_areFines_73 rfl rfl rfl ?_
      refine wp_pure (pc' := 76) dL_areFines_75 rfl rfl ?_
      refine wp_ifT 83 dL_areFines_76 rfl (cmpT rfl) ?_
      refine wp_load (pc' := 85) (j := 7) dL_areFines_83 rfl rfl rfl ?_
      refine wp_iconst (pc' := 86) (1) dL_areFines_85 rfl rfl ?_
      refine wp_icmpT 94 dL_areFines_86 rfl (cmpT rfl) ?_
      refine wp_load (pc' := 96) (j := 7) dL_areFines_94 rfl rfl rfl ?_
      refine wp_iconst (pc' := 97) (2) dL_areFines_96 rfl rfl ?_
      refine wp_icmpT 105 dL_areFines_97 rfl (cmpT rfl) ?_
      refine wp_load (pc' := 107) (j := 7) dL_areFines_105 rfl rfl rfl ?_
      refine wp_iconst (pc' := 108) (3) dL_areFines_107 rfl rfl ?_
      refine wp_icmpF (pc' := 111) 116 dL_areFines_108 rfl rfl (cmpF rfl) ?_
      refine wp_bipush (pc' := 113) (30) dL_areFines_111 rfl rfl ?_
      refine wp_goto 118 dL_areFines_113 rfl ?_
      refine wp_pure (pc' := 119) dL_areFines_118 rfl rfl ?_
      refine wp_store (pc' := 120) (j := 2) (ls' := [_, _, _, _, _, _, _, _, _, _]) dL_areFines_119 rfl (Nat.le_of_ble_eq_true rfl) rfl rfl ?_
      refine wp_load (pc' := 122) (j := 7) dL_areFines_120 rfl rfl rfl ?_
      refine wp_ifF (pc' := 125) 204 dL_areFines_122 rfl rfl (cmpF rfl) ?_
      refine wp_load (pc' := 127) (j := 7) dL_areFines_125 rfl rfl rfl ?_
      refine wp_iconst (pc' := 128) (5) dL_areFines_127 rfl rfl ?_
      refine wp_icmpF (pc' := 131) 204 dL_areFines_128 rfl rfl (cmpF rfl) ?_
      refine wp_load (pc' := 133) (j := 8) dL_areFines_131 rfl rfl rfl ?_
      refine wp_ifF (pc' := 136) 204 dL_areFines_133 rfl rfl (cmpF rfl) ?_
      refine wp_load (pc' := 138) (j := 9) dL_areFines_136 rfl rfl rfl ?_
      refine wp_ifF (pc' := 141) 204 dL_areFines_138 rfl rfl (cmpF rfl) ?_
      refine wp_load (pc' := 143) (j := 8) dL_areFines_141 rfl rfl rfl ?_
      refine wp_load (pc' := 145) (j := 9) dL_areFines_143 rfl rfl rfl ?_
      refine wp_pure (pc' := 146) dL_areFines_145 rfl rfl ?_
      refine wp_iconst (pc' := 147) (2) dL_areFines_146 rfl rfl ?_
      refine wp_icmpF (pc' := 150) 204 dL_areFines_147 rfl rfl (cmpF rfl) ?_
      refine wp_load (pc' := 151) (j := 0) dL_areFines_150 rfl rfl rfl ?_
      refine wp_load (pc' := 153) (j := 6) dL_areFines_151 rfl rfl rfl ?_
      refine wp_iconst (pc' := 154) (0) dL_areFines_153 rfl rfl ?_
      refine wp_s3 10 60 dL_areFines_154 ml_L_118 (Nat.le_of_ble_eq_true rfl) (by omega) (by omega) ?_
      refine w_fine hT (Nat.le_refl _) (Nat.le_refl _) (nI cc) (f_ans hN (hk5) (w := 0) (by decide) (fv0.trans e41)) ?_
      refine kt_v ?_
      refine wp_load (pc' := 158) (j := 1) dL_areFines_157 rfl rfl rfl ?_
      refine wp_iconst (pc' := 159) (2) dL_areFines_158 rfl rfl ?_
      refine wp_iald (pc' := 160) dL_areFines_159 hg rfl (by decide) (by decide) rfl ?_
      rw [g2]
      refine wp_icmpF (pc' := 163) 204 dL_areFines_160 rfl rfl (cgeF rfl (by omega) (by omega)) ?_
      refine wp_load (pc' := 164) (j := 0) dL_areFines_163 rfl rfl rfl ?_
      refine wp_load (pc' := 166) (j := 6) dL_areFines_164 rfl rfl rfl ?_
      refine wp_iconst (pc' := 167) (2) dL_areFines_166 rfl rfl ?_
      refine wp_s3 10 60 dL_areFines_167 ml_L_118 (Nat.le_of_ble_eq_true rfl) (by omega) (by omega) ?_
      refine w_fine hT (Nat.le_refl _) (Nat.le_refl _) (nI uu) (f_ans hN (hk5) (w := 2) (by decide) (fv2.trans e46)) ?_
      refine kt_v ?_
      refine wp_load (pc' := 171) (j := 1) dL_areFines_170 rfl rfl rfl ?_
      refine wp_iconst (pc' := 172) (0) dL_areFines_171 rfl rfl ?_
      refine wp_iald (pc' := 173) dL_areFines_172 hg rfl (by decide) (by decide) rfl ?_
      rw [g0, et0]
      refine wp_icmpF (pc' := 176) 204 dL_areFines_173 rfl rfl (nI_nlt (by omega) (by omega)) ?_
      refine wp_load (pc' := 178) (j := 6) dL_areFines_176 rfl rfl rfl ?_
      refine wp_if_eq (pc' := 181) 200 dL_areFines_178 rfl rfl (fun h178 => ?_) (fun h178 => ?_)
      · skip
        skip
        refine wp_iconst (pc' := 201) (1) dL_areFines_200 rfl rfl ?_
        refine wp_goto 205 dL_areFines_201 rfl ?_
        refine wp_store (pc' := 207) (j := 5) (ls' := [_, _, _, _, _, _, _, _, _, _]) dL_areFines_205 rfl (Nat.le_of_ble_eq_true rfl) rfl rfl ?_
        refine wp_iinc (pc' := 210) (j := 6) (ls' := [_, _, _, _, _, _, _, _, _, _]) (nI (k + 1)) dL_areFines_207 rfl (nI_1 k) rfl rfl ?_
        refine wp_goto 30 dL_areFines_210 rfl ?_
        rw [eo]
        exact ih _ _ _ _ _ (by omega) (by omega)
      · skip
        have hk1 : 0 < k := Nat.pos_of_ne_zero (fun z => h178 (by rw [z]; rfl))
        obtain ⟨vv, hvu, e46b⟩ := hvv hk1
        refine wp_load (pc' := 182) (j := 0) dL_areFines_181 rfl rfl rfl ?_
        refine wp_load (pc' := 184) (j := 6) dL_areFines_182 rfl rfl rfl ?_
        refine wp_iconst (pc' := 185) (2) dL_areFines_184 rfl rfl ?_
        refine wp_s3 10 60 dL_areFines_185 ml_L_118 (Nat.le_of_ble_eq_true rfl) (by omega) (by omega) ?_
        refine w_fine hT (Nat.le_refl _) (Nat.le_refl _) (nI uu) (f_ans hN (hk5) (w := 2) (by decide) (fv2.trans e46)) ?_
        refine kt_v ?_
        refine wp_load (pc' := 189) (j := 0) dL_areFines_188 rfl rfl rfl ?_
        refine wp_load (pc' := 191) (j := 6) dL_areFines_189 rfl rfl rfl ?_
        refine wp_iconst (pc' := 192) (1) dL_areFines_191 rfl rfl ?_
        refine wp_pure (pc' := 193) dL_areFines_192 rfl rfl ?_
        rw [show nI k - 1 = nI (k - 1) from pk_sub (show 1 ≤ k by omega)]
        refine wp_iconst (pc' := 194) (2) dL_areFines_193 rfl rfl ?_
        refine wp_s3 10 60 dL_areFines_194 ml_L_118 (Nat.le_of_ble_eq_true rfl) (by omega) (by omega) ?_
        refine w_fine hT (Nat.le_refl _) (Nat.le_refl _) (nI vv) (f_ans hN (show k - 1 < N 5 by omega) (w := 2) (by decide) (fv2.trans e46b)) ?_
        refine kt_v ?_
        refine wp_icmpF (pc' := 200) 204 dL_areFines_197 rfl rfl (nI_nlt hvu (by omega)) ?_
        refine wp_iconst (pc' := 201) (1) dL_areFines_200 rfl rfl ?_
        refine wp_goto 205 dL_areFines_201 rfl ?_
        refine wp_store (pc' := 207) (j := 5) (ls' := [_, _, _, _, _, _, _, _, _, _]) dL_areFines_205 rfl (Nat.le_of_ble_eq_true rfl) rfl rfl ?_
        refine wp_iinc (pc' := 210) (j := 6) (ls' := [_, _, _, _, _, _, _, _, _, _]) (nI (k + 1)) dL_areFines_207 rfl (nI_1 k) rfl rfl ?_
        refine wp_goto 30 dL_areFines_210 rfl ?_
        rw [eo]
        exact ih _ _ _ _ _ (by omega) (by omega)
    · skip
      have h47 : σ.2.1 47 k = 4 := z47
      have h50 : σ.2.2 50 k = false := z50
      have h51 : σ.2.2 51 k = false := z51
      have eo : opnF σ k + 40 = opnF σ (k + 1) := by
        simp only [opnF, h50, h51, amoF, h47]
        rfl
      refine wp_load (pc' := 32) (j := 6) dL_areFines_30 rfl rfl rfl ?_
      refine wp_load (pc' := 33) (j := 1) dL_areFines_32 rfl rfl rfl ?_
      refine wp_iconst (pc' := 34) (5) dL_areFines_33 rfl rfl ?_
      refine wp_iald (pc' := 35) dL_areFines_34 hg rfl (by decide) (by decide) rfl ?_
      rw [g5]
      refine wp_icmpF (pc' := 38) 213 dL_areFines_35 rfl rfl (cgeF rfl (by omega) (by omega)) ?_
      refine wp_load (pc' := 40) (j := 5) dL_areFines_38 rfl rfl rfl ?_
      refine wp_ifF (pc' := 43) 213 dL_areFines_40 rfl rfl (cmpF rfl) ?_
      refine wp_load (pc' := 44) (j := 0) dL_areFines_43 rfl rfl rfl ?_
      refine wp_load (pc' := 46) (j := 6) dL_areFines_44 rfl rfl rfl ?_
      refine wp_iconst (pc' := 47) (3) dL_areFines_46 rfl rfl ?_
      refine wp_s3 10 60 dL_areFines_47 ml_L_118 (Nat.le_of_ble_eq_true rfl) (by omega) (by omega) ?_
      refine w_fine hT (Nat.le_refl _) (Nat.le_refl _) (4) (f_ans hN (hk5) (w := 3) (by decide) (fv3.trans h47)) ?_
      refine kt_v ?_
      refine wp_store (pc' := 52) (j := 7) (ls' := [_, _, _, _, _, _, _, _, _, _]) dL_areFines_50 rfl (Nat.le_of_ble_eq_true rfl) rfl rfl ?_
      refine wp_load (pc' := 53) (j := 0) dL_areFines_52 rfl rfl rfl ?_
      refine wp_load (pc' := 55) (j := 6) dL_areFines_53 rfl rfl rfl ?_
      refine wp_iconst (pc' := 56) (4) dL_areFines_55 rfl rfl ?_
      refine wp_s3 10 60 dL_areFines_56 ml_L_118 (Nat.le_of_ble_eq_true rfl) (by omega) (by omega) ?_
      refine w_fine hT (Nat.le_refl _) (Nat.le_refl _) (0) (f_ans hN (hk5) (w := 4) (by decide) (fv4.trans (congrArg b2i h50))) ?_
      refine kt_v ?_
      refine wp_store (pc' := 61) (j := 8) (ls' := [_, _, _, _, _, _, _, _, _, _]) dL_areFines_59 rfl (Nat.le_of_ble_eq_true rfl) rfl rfl ?_
      refine wp_load (pc' := 62) (j := 0) dL_areFines_61 rfl rfl rfl ?_
      refine wp_load (pc' := 64) (j := 6) dL_areFines_62 rfl rfl rfl ?_
      refine wp_iconst (pc' := 65) (5) dL_areFines_64 rfl rfl ?_
      refine wp_s3 10 60 dL_areFines_65 ml_L_118 (Nat.le_of_ble_eq_true rfl) (by omega) (by omega) ?_
      refine w_fine hT (Nat.le_refl _) (Nat.le_refl _) (0) (f_ans hN (hk5) (w := 5) (by decide) (fv5.trans (congrArg b2i h51))) ?_
      refine kt_v ?_
      refine wp_store (pc' := 70) (j := 9) (ls' := [_, _, _, _, _, _, _, _, _, _]) dL_areFines_68 rfl (Nat.le_of_ble_eq_true rfl) rfl rfl ?_
      refine wp_load (pc' := 71) (j := 2) dL_areFines_70 rfl rfl rfl ?_
      refine wp_load (pc' := 73) (j := 8) dL_areFines_71 rfl rfl rfl ?_
      refine wp_load (pc' := 75) (j := 9) dL_areFines_73 rfl rfl rfl ?_
      refine wp_pure (pc' := 76) dL_areFines_75 rfl rfl ?_
      refine wp_ifT 83 dL_areFines_76 rfl (cmpT rfl) ?_
      refine wp_load (pc' := 85) (j := 7) dL_areFines_83 rfl rfl rfl ?_
      refine wp_iconst (pc' := 86) (1) dL_areFines_85 rfl rfl ?_
      refine wp_icmpT 94 dL_areFines_86 rfl (cmpT rfl) ?_
      refine wp_load (pc' := 96) (j := 7) dL_areFines_94 rfl rfl rfl ?_
      refine wp_iconst (pc' := 97) (2) dL_areFines_96 rfl rfl ?_
      refine wp_icmpT 105 dL_areFines_97 rfl (cmpT rfl) ?_
      refine wp_load (pc' := 107) (j := 7) dL_areFines_105 rfl rfl rfl ?_
      refine wp_iconst (pc' := 108) (3) dL_areFines_107 rfl rfl ?_
      refine wp_icmpT 116 dL_areFines_108 rfl (cmpT rfl) ?_
      refine wp_bipush (pc' := 118) (40) dL_areFines_116 rfl rfl ?_
      refine wp_pure (pc' := 119) dL_areFines_118 rfl rfl ?_
      refine wp_store (pc' := 120) (j := 2) (ls' := [_, _, _, _, _, _, _, _, _, _]) dL_areFines_119 rfl (Nat.le_of_ble_eq_true rfl) rfl rfl ?_
      refine wp_load (pc' := 122) (j := 7) dL_areFines_120 rfl rfl rfl ?_
      refine wp_ifF (pc' := 125) 204 dL_areFines_122 rfl rfl (cmpF rfl) ?_
      refine wp_load (pc' := 127) (j := 7) dL_areFines_125 rfl rfl rfl ?_
      refine wp_iconst (pc' := 128) (5) dL_areFines_127 rfl rfl ?_
      refine wp_icmpF (pc' := 131) 204 dL_areFines_128 rfl rfl (cmpF rfl) ?_
      refine wp_load (pc' := 133) (j := 8) dL_areFines_131 rfl rfl rfl ?_
      refine wp_ifF (pc' := 136) 204 dL_areFines_133 rfl rfl (cmpF rfl) ?_
      refine wp_load (pc' := 138) (j := 9) dL_areFines_136 rfl rfl rfl ?_
      refine wp_ifF (pc' := 141) 204 dL_areFines_138 rfl rfl (cmpF rfl) ?_
      refine wp_load (pc' := 143) (j := 8) dL_areFines_141 rfl rfl rfl ?_
      refine wp_load (pc' := 145) (j := 9) dL_areFines_143 rfl rfl rfl ?_
      refine wp_pure (pc' := 146) dL_areFines_145 rfl rfl ?_
      refine wp_iconst (pc' := 147) (2) dL_areFines_146 rfl rfl ?_
      refine wp_icmpF (pc' := 150) 204 dL_areFines_147 rfl rfl (cmpF rfl) ?_
      refine wp_load (pc' := 151) (j := 0) dL_areFines_150 rfl rfl rfl ?_
      refine wp_load (pc' := 153) (j := 6) dL_areFines_151 rfl rfl rfl ?_
      refine wp_iconst (pc' := 154) (0) dL_areFines_153 rfl rfl ?_
      refine wp_s3 10 60 dL_areFines_154 ml_L_118 (Nat.le_of_ble_eq_true rfl) (by omega) (by omega) ?_
      refine w_fine hT (Nat.le_refl _) (Nat.le_refl _) (nI cc) (f_ans hN (hk5) (w := 0) (by decide) (fv0.trans e41)) ?_
      refine kt_v ?_
      refine wp_load (pc' := 158) (j := 1) dL_areFines_157 rfl rfl rfl ?_
      refine wp_iconst (pc' := 159) (2) dL_areFines_158 rfl rfl ?_
      refine wp_iald (pc' := 160) dL_areFines_159 hg rfl (by decide) (by decide) rfl ?_
      rw [g2]
      refine wp_icmpF (pc' := 163) 204 dL_areFines_160 rfl rfl (cgeF rfl (by omega) (by omega)) ?_
      refine wp_load (pc' := 164) (j := 0) dL_areFines_163 rfl rfl rfl ?_
      refine wp_load (pc' := 166) (j := 6) dL_areFines_164 rfl rfl rfl ?_
      refine wp_iconst (pc' := 167) (2) dL_areFines_166 rfl rfl ?_
      refine wp_s3 10 60 dL_areFines_167 ml_L_118 (Nat.le_of_ble_eq_true rfl) (by omega) (by omega) ?_
      refine w_fine hT (Nat.le_refl _) (Nat.le_refl _) (nI uu) (f_ans hN (hk5) (w := 2) (by decide) (fv2.trans e46)) ?_
      refine kt_v ?_
      refine wp_load (pc' := 171) (j := 1) dL_areFines_170 rfl rfl rfl ?_
      refine wp_iconst (pc' := 172) (0) dL_areFines_171 rfl rfl ?_
      refine wp_iald (pc' := 173) dL_areFines_172 hg rfl (by decide) (by decide) rfl ?_
      rw [g0, et0]
      refine wp_icmpF (pc' := 176) 204 dL_areFines_173 rfl rfl (nI_nlt (by omega) (by omega)) ?_
      refine wp_load (pc' := 178) (j := 6) dL_areFines_176 rfl rfl rfl ?_
      refine wp_if_eq (pc' := 181) 200 dL_areFines_178 rfl rfl (fun h178 => ?_) (fun h178 => ?_)
      · skip
        skip
        refine wp_iconst (pc' := 201) (1) dL_areFines_200 rfl rfl ?_
        refine wp_goto 205 dL_areFines_201 rfl ?_
        refine wp_store (pc' := 207) (j := 5) (ls' := [_, _, _, _, _, _, _, _, _, _]) dL_areFines_205 rfl (Nat.le_of_ble_eq_true rfl) rfl rfl ?_
        refine wp_iinc (pc' := 210) (j := 6) (ls' := [_, _, _, _, _, _, _, _, _, _]) (nI (k + 1)) dL_areFines_207 rfl (nI_1 k) rfl rfl ?_
        refine wp_goto 30 dL_areFines_210 rfl ?_
        rw [eo]
        exact ih _ _ _ _ _ (by omega) (by omega)
      · skip
        have hk1 : 0 < k := Nat.pos_of_ne_zero (fun z => h178 (by rw [z]; rfl))
        obtain ⟨vv, hvu, e46b⟩ := hvv hk1
        refine wp_load (pc' := 182) (j := 0) dL_areFines_181 rfl rfl rfl ?_
        refine wp_load (pc' := 184) (j := 6) dL_areFines_182 rfl rfl rfl ?_
        refine wp_iconst (pc' := 185) (2) dL_areFines_184 rfl rfl ?_
        refine wp_s3 10 60 dL_areFines_185 ml_L_118 (Nat.le_of_ble_eq_true rfl) (by omega) (by omega) ?_
        refine w_fine hT (Nat.le_refl _) (Nat.le_refl _) (nI uu) (f_ans hN (hk5) (w := 2) (by decide) (fv2.trans e46)) ?_
        refine kt_v ?_
        refine wp_load (pc' := 189) (j := 0) dL_areFines_188 rfl rfl rfl ?_
        refine wp_load (pc' := 191) (j := 6) dL_areFines_189 rfl rfl rfl ?_
        refine wp_iconst (pc' := 192) (1) dL_areFines_191 rfl rfl ?_
        refine wp_pure (pc' := 193) dL_areFines_192 rfl rfl ?_
        rw [show nI k - 1 = nI (k - 1) from pk_sub (show 1 ≤ k by omega)]
        refine wp_iconst (pc' := 194) (2) dL_areFines_193 rfl rfl ?_
        refine wp_s3 10 60 dL_areFines_194 ml_L_118 (Nat.le_of_ble_eq_true rfl) (by omega) (by omega) ?_
        refine w_fine hT (Nat.le_refl _) (Nat.le_refl _) (nI vv) (f_ans hN (show k - 1 < N 5 by omega) (w := 2) (by decide) (fv2.trans e46b)) ?_
        refine kt_v ?_
        refine wp_icmpF (pc' := 200) 204 dL_areFines_197 rfl rfl (nI_nlt hvu (by omega)) ?_
        refine wp_iconst (pc' := 201) (1) dL_areFines_200 rfl rfl ?_
        refine wp_goto 205 dL_areFines_201 rfl ?_
        refine wp_store (pc' := 207) (j := 5) (ls' := [_, _, _, _, _, _, _, _, _, _]) dL_areFines_205 rfl (Nat.le_of_ble_eq_true rfl) rfl rfl ?_
        refine wp_iinc (pc' := 210) (j := 6) (ls' := [_, _, _, _, _, _, _, _, _, _]) (nI (k + 1)) dL_areFines_207 rfl (nI_1 k) rfl rfl ?_
        refine wp_goto 30 dL_areFines_210 rfl ?_
        rw [eo]
        exact ih _ _ _ _ _ (by omega) (by omega)
    · skip
      have h47 : σ.2.1 47 k = 1 := z47
      have h50 : σ.2.2 50 k = false := z50
      have h51 : σ.2.2 51 k = true := z51
      have eo : opnF σ k + 0 = opnF σ (k + 1) := by
        simp only [opnF, h50, h51, amoF, h47]
        rfl
      refine wp_load (pc' := 32) (j := 6) dL_areFines_30 rfl rfl rfl ?_
      refine wp_load (pc' := 33) (j := 1) dL_areFines_32 rfl rfl rfl ?_
      refine wp_iconst (pc' := 34) (5) dL_areFines_33 rfl rfl ?_
      refine wp_iald (pc' := 35) dL_areFines_34 hg rfl (by decide) (by decide) rfl ?_
      rw [g5]
      refine wp_icmpF (pc' := 38) 213 dL_areFines_35 rfl rfl (cgeF rfl (by omega) (by omega)) ?_
      refine wp_load (pc' := 40) (j := 5) dL_areFines_38 rfl rfl rfl ?_
      refine wp_ifF (pc' := 43) 213 dL_areFines_40 rfl rfl (cmpF rfl) ?_
      refine wp_load (pc' := 44) (j := 0) dL_areFines_43 rfl rfl rfl ?_
      refine wp_load (pc' := 46) (j := 6) dL_areFines_44 rfl rfl rfl ?_
      refine wp_iconst (pc' := 47) (3) dL_areFines_46 rfl rfl ?_
      refine wp_s3 10 60 dL_areFines_47 ml_L_118 (Nat.le_of_ble_eq_true rfl) (by omega) (by omega) ?_
      refine w_fine hT (Nat.le_refl _) (Nat.le_refl _) (1) (f_ans hN (hk5) (w := 3) (by decide) (fv3.trans h47)) ?_
      refine kt_v ?_
      refine wp_store (pc' := 52) (j := 7) (ls' := [_, _, _, _, _, _, _, _, _, _]) dL_areFines_50 rfl (Nat.le_of_ble_eq_true rfl) rfl rfl ?_
      refine wp_load (pc' := 53) (j := 0) dL_areFines_52 rfl rfl rfl ?_
      refine wp_load (pc' := 55) (j := 6) dL_areFines_53 rfl rfl rfl ?_
      refine wp_iconst (pc' := 56) (4) dL_areFines_55 rfl rfl ?_
      refine wp_s3 10 60 dL_areFines_56 ml_L_118 (Nat.le_of_ble_eq_true rfl) (by omega) (by omega) ?_
      refine w_fine hT (Nat.le_refl _) (Nat.le_refl _) (0) (f_ans hN (hk5) (w := 4) (by decide) (fv4.trans (congrArg b2i h50))) ?_
      refine kt_v ?_
      refine wp_store (pc' := 61) (j := 8) (ls' := [_, _, _, _, _, _, _, _, _, _]) dL_areFines_59 rfl (Nat.le_of_ble_eq_true rfl) rfl rfl ?_
      refine wp_load (pc' := 62) (j := 0) dL_areFines_61 rfl rfl rfl ?_
      refine wp_load (pc' := 64) (j := 6) dL_areFines_62 rfl rfl rfl ?_
      refine wp_iconst (pc' := 65) (5) dL_areFines_64 rfl rfl ?_
      refine wp_s3 10 60 dL_areFines_65 ml_L_118 (Nat.le_of_ble_eq_true rfl) (by omega) (by omega) ?_
      refine w_fine hT (Nat.le_refl _) (Nat.le_refl _) (1) (f_ans hN (hk5) (w := 5) (by decide) (fv5.trans (congrArg b2i h51))) ?_
      refine kt_v ?_
      refine wp_store (pc' := 70) (j := 9) (ls' := [_, _, _, _, _, _, _, _, _, _]) dL_areFines_68 rfl (Nat.le_of_ble_eq_true rfl) rfl rfl ?_
      refine wp_load (pc' := 71) (j := 2) dL_areFines_70 rfl rfl rfl ?_
      refine wp_load (pc' := 73) (j := 8) dL_areFines_71 rfl rfl rfl ?_
      refine wp_load (pc' := 75) (j := 9) dL_areFines_73 rfl rfl rfl ?_
      refine wp_pure (pc' := 76) dL_areFines_75 rfl rfl ?_
      refine wp_ifF (pc' := 79) 83 dL_areFines_76 rfl rfl (cmpF rfl) ?_
      refine wp_iconst (pc' := 80) (0) dL_areFines_79 rfl rfl ?_
      refine wp_goto 118 dL_areFines_80 rfl ?_
      refine wp_pure (pc' := 119) dL_areFines_118 rfl rfl ?_
      refine wp_store (pc' := 120) (j := 2) (ls' := [_, _, _, _, _, _, _, _, _, _]) dL_areFines_119 rfl (Nat.le_of_ble_eq_true rfl) rfl rfl ?_
      refine wp_load (pc' := 122) (j := 7) dL_areFines_120 rfl rfl rfl ?_
      refine wp_ifF (pc' := 125) 204 dL_areFines_122 rfl rfl (cmpF rfl) ?_
      refine wp_load (pc' := 127) (j := 7) dL_areFines_125 rfl rfl rfl ?_
      refine wp_iconst (pc' := 128) (5) dL_areFines_127 rfl rfl ?_
      refine wp_icmpF (pc' := 131) 204 dL_areFines_128 rfl rfl (cmpF rfl) ?_
      refine wp_load (pc' := 133) (j := 8) dL_areFines_131 rfl rfl rfl ?_
      refine wp_ifF (pc' := 136) 204 dL_areFines_133 rfl rfl (cmpF rfl) ?_
      refine wp_load (pc' := 138) (j := 9) dL_areFines_136 rfl rfl rfl ?_
      refine wp_ifF (pc' := 141) 204 dL_areFines_138 rfl rfl (cmpF rfl) ?_
      refine wp_load (pc' := 143) (j := 8) dL_areFines_141 rfl rfl rfl ?_
      refine wp_load (pc' := 145) (j := 9) dL_areFines_143 rfl rfl rfl ?_
      refine wp_pure (pc' := 146) dL_areFines_145 rfl rfl ?_
      refine wp_iconst (pc' := 147) (2) dL_areFines_146 rfl rfl ?_
      refine wp_icmpF (pc' := 150) 204 dL_areFines_147 rfl rfl (cmpF rfl) ?_
      refine wp_load (pc' := 151) (j := 0) dL_areFines_150 rfl rfl rfl ?_
      refine wp_load (pc' := 153) (j := 6) dL_areFines_151 rfl rfl rfl ?_
      refine wp_iconst (pc' := 154) (0) dL_areFines_153 rfl rfl ?_
      refine wp_s3 10 60 dL_areFines_154 ml_L_118 (Nat.le_of_ble_eq_true rfl) (by omega) (by omega) ?_
      refine w_fine hT (Nat.le_refl _) (Nat.le_refl _) (nI cc) (f_ans hN (hk5) (w := 0) (by decide) (fv0.trans e41)) ?_
      refine kt_v ?_
      refine wp_load (pc' := 158) (j := 1) dL_areFines_157 rfl rfl rfl ?_
      refine wp_iconst (pc' := 159) (2) dL_areFines_158 rfl rfl ?_
      refine wp_iald (pc' := 160) dL_areFines_159 hg rfl (by decide) (by decide) rfl ?_
      rw [g2]
      refine wp_icmpF (pc' := 163) 204 dL_areFines_160 rfl rfl (cgeF rfl (by omega) (by omega)) ?_
      refine wp_load (pc' := 164) (j := 0) dL_areFines_163 rfl rfl rfl ?_
      refine wp_load (pc' := 166) (j := 6) dL_areFines_164 rfl rfl rfl ?_
      refine wp_iconst (pc' := 167) (2) dL_areFines_166 rfl rfl ?_
      refine wp_s3 10 60 dL_areFines_167 ml_L_118 (Nat.le_of_ble_eq_true rfl) (by omega) (by omega) ?_
      refine w_fine hT (Nat.le_refl _) (Nat.le_refl _) (nI uu) (f_ans hN (hk5) (w := 2) (by decide) (fv2.trans e46)) ?_
      refine kt_v ?_
      refine wp_load (pc' := 171) (j := 1) dL_areFines_170 rfl rfl rfl ?_
      refine wp_iconst (pc' := 172) (0) dL_areFines_171 rfl rfl ?_
      refine wp_iald (pc' := 173) dL_areFines_172 hg rfl (by decide) (by decide) rfl ?_
      rw [g0, et0]
      refine wp_icmpF (pc' := 176) 204 dL_areFines_173 rfl rfl (nI_nlt (by omega) (by omega)) ?_
      refine wp_load (pc' := 178) (j := 6) dL_areFines_176 rfl rfl rfl ?_
      refine wp_if_eq (pc' := 181) 200 dL_areFines_178 rfl rfl (fun h178 => ?_) (fun h178 => ?_)
      · skip
        skip
        refine wp_iconst (pc' := 201) (1) dL_areFines_200 rfl rfl ?_
        refine wp_goto 205 dL_areFines_201 rfl ?_
        refine wp_store (pc' := 207) (j := 5) (ls' := [_, _, _, _, _, _, _, _, _, _]) dL_areFines_205 rfl (Nat.le_of_ble_eq_true rfl) rfl rfl ?_
        refine wp_iinc (pc' := 210) (j := 6) (ls' := [_, _, _, _, _, _, _, _, _, _]) (nI (k + 1)) dL_areFines_207 rfl (nI_1 k) rfl rfl ?_
        refine wp_goto 30 dL_areFines_210 rfl ?_
        rw [eo]
        exact ih _ _ _ _ _ (by omega) (by omega)
      · skip
        have hk1 : 0 < k := Nat.pos_of_ne_zero (fun z => h178 (by rw [z]; rfl))
        obtain ⟨vv, hvu, e46b⟩ := hvv hk1
        refine wp_load (pc' := 182) (j := 0) dL_areFines_181 rfl rfl rfl ?_
        refine wp_load (pc' := 184) (j := 6) dL_areFines_182 rfl rfl rfl ?_
        refine wp_iconst (pc' := 185) (2) dL_areFines_184 rfl rfl ?_
        refine wp_s3 10 60 dL_areFines_185 ml_L_118 (Nat.le_of_ble_eq_true rfl) (by omega) (by omega) ?_
        refine w_fine hT (Nat.le_refl _) (Nat.le_refl _) (nI uu) (f_ans hN (hk5) (w := 2) (by decide) (fv2.trans e46)) ?_
        refine kt_v ?_
        refine wp_load (pc' := 189) (j := 0) dL_areFines_188 rfl rfl rfl ?_
        refine wp_load (pc' := 191) (j := 6) dL_areFines_189 rfl rfl rfl ?_
        refine wp_iconst (pc' := 192) (1) dL_areFines_191 rfl rfl ?_
        refine wp_pure (pc' := 193) dL_areFines_192 rfl rfl ?_
        rw [show nI k - 1 = nI (k - 1) from pk_sub (show 1 ≤ k by omega)]
        refine wp_iconst (pc' := 194) (2) dL_areFines_193 rfl rfl ?_
        refine wp_s3 10 60 dL_areFines_194 ml_L_118 (Nat.le_of_ble_eq_true rfl) (by omega) (by omega) ?_
        refine w_fine hT (Nat.le_refl _) (Nat.le_refl _) (nI vv) (f_ans hN (show k - 1 < N 5 by omega) (w := 2) (by decide) (fv2.trans e46b)) ?_
        refine kt_v ?_
        refine wp_icmpF (pc' := 200) 204 dL_areFines_197 rfl rfl (nI_nlt hvu (by omega)) ?_
        refine wp_iconst (pc' := 201) (1) dL_areFines_200 rfl rfl ?_
        refine wp_goto 205 dL_areFines_201 rfl ?_
        refine wp_store (pc' := 207) (j := 5) (ls' := [_, _, _, _, _, _, _, _, _, _]) dL_areFines_205 rfl (Nat.le_of_ble_eq_true rfl) rfl rfl ?_
        refine wp_iinc (pc' := 210) (j := 6) (ls' := [_, _, _, _, _, _, _, _, _, _]) (nI (k + 1)) dL_areFines_207 rfl (nI_1 k) rfl rfl ?_
        refine wp_goto 30 dL_areFines_210 rfl ?_
        rw [eo]
        exact ih _ _ _ _ _ (by omega) (by omega)
    · skip
      have h47 : σ.2.1 47 k = 2 := z47
      have h50 : σ.2.2 50 k = false := z50
      have h51 : σ.2.2 51 k = true := z51
      have eo : opnF σ k + 0 = opnF σ (k + 1) := by
        simp only [opnF, h50, h51, amoF, h47]
        rfl
      refine wp_load (pc' := 32) (j := 6) dL_areFines_30 rfl rfl rfl ?_
      refine wp_load (pc' := 33) (j := 1) dL_areFines_32 rfl rfl rfl ?_
      refine wp_iconst (pc' := 34) (5) dL_areFines_33 rfl rfl ?_
      refine wp_iald (pc' := 35) dL_areFines_34 hg rfl (by decide) (by decide) rfl ?_
      rw [g5]
      refine wp_icmpF (pc' := 38) 213 dL_areFines_35 rfl rfl (cgeF rfl (by omega) (by omega)) ?_
      refine wp_load (pc' := 40) (j := 5) dL_areFines_38 rfl rfl rfl ?_
      refine wp_ifF (pc' := 43) 213 dL_areFines_40 rfl rfl (cmpF rfl) ?_
      refine wp_load (pc' := 44) (j := 0) dL_areFines_43 rfl rfl rfl ?_
      refine wp_load (pc' := 46) (j := 6) dL_areFines_44 rfl rfl rfl ?_
      refine wp_iconst (pc' := 47) (3) dL_areFines_46 rfl rfl ?_
      refine wp_s3 10 60 dL_areFines_47 ml_L_118 (Nat.le_of_ble_eq_true rfl) (by omega) (by omega) ?_
      refine w_fine hT (Nat.le_refl _) (Nat.le_refl _) (2) (f_ans hN (hk5) (w := 3) (by decide) (fv3.trans h47)) ?_
      refine kt_v ?_
      refine wp_store (pc' := 52) (j := 7) (ls' := [_, _, _, _, _, _, _, _, _, _]) dL_areFines_50 rfl (Nat.le_of_ble_eq_true rfl) rfl rfl ?_
      refine wp_load (pc' := 53) (j := 0) dL_areFines_52 rfl rfl rfl ?_
      refine wp_load (pc' := 55) (j := 6) dL_areFines_53 rfl rfl rfl ?_
      refine wp_iconst (pc' := 56) (4) dL_areFines_55 rfl rfl ?_
      refine wp_s3 10 60 dL_areFines_56 ml_L_118 (Nat.le_of_ble_eq_true rfl) (by omega) (by omega) ?_
      refine w_fine hT (Nat.le_refl _) (Nat.le_refl _) (0) (f_ans hN (hk5) (w := 4) (by decide) (fv4.trans (congrArg b2i h50))) ?_
      refine kt_v ?_
      refine wp_store (pc' := 61) (j := 8) (ls' := [_, _, _, _, _, _, _, _, _, _]) dL_areFines_59 rfl (Nat.le_of_ble_eq_true rfl) rfl rfl ?_
      refine wp_load (pc' := 62) (j := 0) dL_areFines_61 rfl rfl rfl ?_
      refine wp_load (pc' := 64) (j := 6) dL_areFines_62 rfl rfl rfl ?_
      refine wp_iconst (pc' := 65) (5) dL_areFines_64 rfl rfl ?_
      refine wp_s3 10 60 dL_areFines_65 ml_L_118 (Nat.le_of_ble_eq_true rfl) (by omega) (by omega) ?_
      refine w_fine hT (Nat.le_refl _) (Nat.le_refl _) (1) (f_ans hN (hk5) (w := 5) (by decide) (fv5.trans (congrArg b2i h51))) ?_
      refine kt_v ?_
      refine wp_store (pc' := 70) (j := 9) (ls' := [_, _, _, _, _, _, _, _, _, _]) dL_areFines_68 rfl (Nat.le_of_ble_eq_true rfl) rfl rfl ?_
      refine wp_load (pc' := 71) (j := 2) dL_areFines_70 rfl rfl rfl ?_
      refine wp_load (pc' := 73) (j := 8) dL_areFines_71 rfl rfl rfl ?_
      refine wp_load (pc' := 75) (j := 9) dL_areFines_73 rfl rfl rfl ?_
      refine wp_pure (pc' := 76) dL_areFines_75 rfl rfl ?_
      refine wp_ifF (pc' := 79) 83 dL_areFines_76 rfl rfl (cmpF rfl) ?_
      refine wp_iconst (pc' := 80) (0) dL_areFines_79 rfl rfl ?_
      refine wp_goto 118 dL_areFines_80 rfl ?_
      refine wp_pure (pc' := 119) dL_areFines_118 rfl rfl ?_
      refine wp_store (pc' := 120) (j := 2) (ls' := [_, _, _, _, _, _, _, _, _, _]) dL_areFines_119 rfl (Nat.le_of_ble_eq_true rfl) rfl rfl ?_
      refine wp_load (pc' := 122) (j := 7) dL_areFines_120 rfl rfl rfl ?_
      refine wp_ifF (pc' := 125) 204 dL_areFines_122 rfl rfl (cmpF rfl) ?_
      refine wp_load (pc' := 127) (j := 7) dL_areFines_125 rfl rfl rfl ?_
      refine wp_iconst (pc' := 128) (5) dL_areFines_127 rfl rfl ?_
      refine wp_icmpF (pc' := 131) 204 dL_areFines_128 rfl rfl (cmpF rfl) ?_
      refine wp_load (pc' := 133) (j := 8) dL_areFines_131 rfl rfl rfl ?_
      refine wp_ifF (pc' := 136) 204 dL_areFines_133 rfl rfl (cmpF rfl) ?_
      refine wp_load (pc' := 138) (j := 9) dL_areFines_136 rfl rfl rfl ?_
      refine wp_ifF (pc' := 141) 204 dL_areFines_138 rfl rfl (cmpF rfl) ?_
      refine wp_load (pc' := 143) (j := 8) dL_areFines_141 rfl rfl rfl ?_
      refine wp_load (pc' := 145) (j := 9) dL_areFines_143 rfl rfl rfl ?_
      refine wp_pure (pc' := 146) dL_areFines_145 rfl rfl ?_
      refine wp_iconst (pc' := 147) (2) dL_areFines_146 rfl rfl ?_
      refine wp_icmpF (pc' := 150) 204 dL_areFines_147 rfl rfl (cmpF rfl) ?_
      refine wp_load (pc' := 151) (j := 0) dL_areFines_150 rfl rfl rfl ?_
      refine wp_load (pc' := 153) (j := 6) dL_areFines_151 rfl rfl rfl ?_
      refine wp_iconst (pc' := 154) (0) dL_areFines_153 rfl rfl ?_
      refine wp_s3 10 60 dL_areFines_154 ml_L_118 (Nat.le_of_ble_eq_true rfl) (by omega) (by omega) ?_
      refine w_fine hT (Nat.le_refl _) (Nat.le_refl _) (nI cc) (f_ans hN (hk5) (w := 0) (by decide) (fv0.trans e41)) ?_
      refine kt_v ?_
      refine wp_load (pc' := 158) (j := 1) dL_areFines_157 rfl rfl rfl ?_
      refine wp_iconst (pc' := 159) (2) dL_areFines_158 rfl rfl ?_
      refine wp_iald (pc' := 160) dL_areFines_159 hg rfl (by decide) (by decide) rfl ?_
      rw [g2]
      refine wp_icmpF (pc' := 163) 204 dL_areFines_160 rfl rfl (cgeF rfl (by omega) (by omega)) ?_
      refine wp_load (pc' := 164) (j := 0) dL_areFines_163 rfl rfl rfl ?_
      refine wp_load (pc' := 166) (j := 6) dL_areFines_164 rfl rfl rfl ?_
      refine wp_iconst (pc' := 167) (2) dL_areFines_166 rfl rfl ?_
      refine wp_s3 10 60 dL_areFines_167 ml_L_118 (Nat.le_of_ble_eq_true rfl) (by omega) (by omega) ?_
      refine w_fine hT (Nat.le_refl _) (Nat.le_refl _) (nI uu) (f_ans hN (hk5) (w := 2) (by decide) (fv2.trans e46)) ?_
      refine kt_v ?_
      refine wp_load (pc' := 171) (j := 1) dL_areFines_170 rfl rfl rfl ?_
      refine wp_iconst (pc' := 172) (0) dL_areFines_171 rfl rfl ?_
      refine wp_iald (pc' := 173) dL_areFines_172 hg rfl (by decide) (by decide) rfl ?_
      rw [g0, et0]
      refine wp_icmpF (pc' := 176) 204 dL_areFines_173 rfl rfl (nI_nlt (by omega) (by omega)) ?_
      refine wp_load (pc' := 178) (j := 6) dL_areFines_176 rfl rfl rfl ?_
      refine wp_if_eq (pc' := 181) 200 dL_areFines_178 rfl rfl (fun h178 => ?_) (fun h178 => ?_)
      · skip
        skip
        refine wp_iconst (pc' := 201) (1) dL_areFines_200 rfl rfl ?_
        refine wp_goto 205 dL_areFines_201 rfl ?_
        refine wp_store (pc' := 207) (j := 5) (ls' := [_, _, _, _, _, _, _, _, _, _]) dL_areFines_205 rfl (Nat.le_of_ble_eq_true rfl) rfl rfl ?_
        refine wp_iinc (pc' := 210) (j := 6) (ls' := [_, _, _, _, _, _, _, _, _, _]) (nI (k + 1)) dL_areFines_207 rfl (nI_1 k) rfl rfl ?_
        refine wp_goto 30 dL_areFines_210 rfl ?_
        rw [eo]
        exact ih _ _ _ _ _ (by omega) (by omega)
      · skip
        have hk1 : 0 < k := Nat.pos_of_ne_zero (fun z => h178 (by rw [z]; rfl))
        obtain ⟨vv, hvu, e46b⟩ := hvv hk1
        refine wp_load (pc' := 182) (j := 0) dL_areFines_181 rfl rfl rfl ?_
        refine wp_load (pc' := 184) (j := 6) dL_areFines_182 rfl rfl rfl ?_
        refine wp_iconst (pc' := 185) (2) dL_areFines_184 rfl rfl ?_
        refine wp_s3 10 60 dL_areFines_185 ml_L_118 (Nat.le_of_ble_eq_true rfl) (by omega) (by omega) ?_
        refine w_fine hT (Nat.le_refl _) (Nat.le_refl _) (nI uu) (f_ans hN (hk5) (w := 2) (by decide) (fv2.trans e46)) ?_
        refine kt_v ?_
        refine wp_load (pc' := 189) (j := 0) dL_areFines_188 rfl rfl rfl ?_
        refine wp_load (pc' := 191) (j := 6) dL_areFines_189 rfl rfl rfl ?_
        refine wp_iconst (pc' := 192) (1) dL_areFines_191 rfl rfl ?_
        refine wp_pure (pc' := 193) dL_areFines_192 rfl rfl ?_
        rw [show nI k - 1 = nI (k - 1) from pk_sub (show 1 ≤ k by omega)]
        refine wp_iconst (pc' := 194) (2) dL_areFines_193 rfl rfl ?_
        refine wp_s3 10 60 dL_areFines_194 ml_L_118 (Nat.le_of_ble_eq_true rfl) (by omega) (by omega) ?_
        refine w_fine hT (Nat.le_refl _) (Nat.le_refl _) (nI vv) (f_ans hN (show k - 1 < N 5 by omega) (w := 2) (by decide) (fv2.trans e46b)) ?_
        refine kt_v ?_
        refine wp_icmpF (pc' := 200) 204 dL_areFines_197 rfl rfl (nI_nlt hvu (by omega)) ?_
        refine wp_iconst (pc' := 201) (1) dL_areFines_200 rfl rfl ?_
        refine wp_goto 205 dL_areFines_201 rfl ?_
        refine wp_store (pc' := 207) (j := 5) (ls' := [_, _, _, _, _, _, _, _, _, _]) dL_areFines_205 rfl (Nat.le_of_ble_eq_true rfl) rfl rfl ?_
        refine wp_iinc (pc' := 210) (j := 6) (ls' := [_, _, _, _, _, _, _, _, _, _]) (nI (k + 1)) dL_areFines_207 rfl (nI_1 k) rfl rfl ?_
        refine wp_goto 30 dL_areFines_210 rfl ?_
        rw [eo]
        exact ih _ _ _ _ _ (by omega) (by omega)
    · skip
      have h47 : σ.2.1 47 k = 3 := z47
      have h50 : σ.2.2 50 k = false := z50
      have h51 : σ.2.2 51 k = true := z51
      have eo : opnF σ k + 0 = opnF σ (k + 1) := by
        simp only [opnF, h50, h51, amoF, h47]
        rfl
      refine wp_load (pc' := 32) (j := 6) dL_areFines_30 rfl rfl rfl ?_
      refine wp_load (pc' := 33) (j := 1) dL_areFines_32 rfl rfl rfl ?_
      refine wp_iconst (pc' := 34) (5) dL_areFines_33 rfl rfl ?_
      refine wp_iald (pc' := 35) dL_areFines_34 hg rfl (by decide) (by decide) rfl ?_
      rw [g5]
      refine wp_icmpF (pc' := 38) 213 dL_areFines_35 rfl rfl (cgeF rfl (by omega) (by omega)) ?_
      refine wp_load (pc' := 40) (j := 5) dL_areFines_38 rfl rfl rfl ?_
      refine wp_ifF (pc' := 43) 213 dL_areFines_40 rfl rfl (cmpF rfl) ?_
      refine wp_load (pc' := 44) (j := 0) dL_areFines_43 rfl rfl rfl ?_
      refine wp_load (pc' := 46) (j := 6) dL_areFines_44 rfl rfl rfl ?_
      refine wp_iconst (pc' := 47) (3) dL_areFines_46 rfl rfl ?_
      refine wp_s3 10 60 dL_areFines_47 ml_L_118 (Nat.le_of_ble_eq_true rfl) (by omega) (by omega) ?_
      refine w_fine hT (Nat.le_refl _) (Nat.le_refl _) (3) (f_ans hN (hk5) (w := 3) (by decide) (fv3.trans h47)) ?_
      refine kt_v ?_
      refine wp_store (pc' := 52) (j := 7) (ls' := [_, _, _, _, _, _, _, _, _, _]) dL_areFines_50 rfl (Nat.le_of_ble_eq_true rfl) rfl rfl ?_
      refine wp_load (pc' := 53) (j := 0) dL_areFines_52 rfl rfl rfl ?_
      refine wp_load (pc' := 55) (j := 6) dL_areFines_53 rfl rfl rfl ?_
      refine wp_iconst (pc' := 56) (4) dL_areFines_55 rfl rfl ?_
      refine wp_s3 10 60 dL_areFines_56 ml_L_118 (Nat.le_of_ble_eq_true rfl) (by omega) (by omega) ?_
      refine w_fine hT (Nat.le_refl _) (Nat.le_refl _) (0) (f_ans hN (hk5) (w := 4) (by decide) (fv4.trans (congrArg b2i h50))) ?_
      refine kt_v ?_
      refine wp_store (pc' := 61) (j := 8) (ls' := [_, _, _, _, _, _, _, _, _, _]) dL_areFines_59 rfl (Nat.le_of_ble_eq_true rfl) rfl rfl ?_
      refine wp_load (pc' := 62) (j := 0) dL_areFines_61 rfl rfl rfl ?_
      refine wp_load (pc' := 64) (j := 6) dL_areFines_62 rfl rfl rfl ?_
      refine wp_iconst (pc' := 65) (5) dL_areFines_64 rfl rfl ?_
      refine wp_s3 10 60 dL_areFines_65 ml_L_118 (Nat.le_of_ble_eq_true rfl) (by omega) (by omega) ?_
      refine w_fine hT (Nat.le_refl _) (Nat.le_refl _) (1) (f_ans hN (hk5) (w := 5) (by decide) (fv5.trans (congrArg b2i h51))) ?_
      refine kt_v ?_
      refine wp_store (pc' := 70) (j := 9) (ls' := [_, _, _, _, _, _, _, _, _, _]) dL_areFines_68 rfl (Nat.le_of_ble_eq_true rfl) rfl rfl ?_
      refine wp_load (pc' := 71) (j := 2) dL_areFines_70 rfl rfl rfl ?_
      refine wp_load (pc' := 73) (j := 8) dL_areFines_71 rfl rfl rfl ?_
      refine wp_load (pc' := 75) (j := 9) dL_areFines_73 rfl rfl rfl ?_
      refine wp_pure (pc' := 76) dL_areFines_75 rfl rfl ?_
      refine wp_ifF (pc' := 79) 83 dL_areFines_76 rfl rfl (cmpF rfl) ?_
      refine wp_iconst (pc' := 80) (0) dL_areFines_79 rfl rfl ?_
      refine wp_goto 118 dL_areFines_80 rfl ?_
      refine wp_pure (pc' := 119) dL_areFines_118 rfl rfl ?_
      refine wp_store (pc' := 120) (j := 2) (ls' := [_, _, _, _, _, _, _, _, _, _]) dL_areFines_119 rfl (Nat.le_of_ble_eq_true rfl) rfl rfl ?_
      refine wp_load (pc' := 122) (j := 7) dL_areFines_120 rfl rfl rfl ?_
      refine wp_ifF (pc' := 125) 204 dL_areFines_122 rfl rfl (cmpF rfl) ?_
      refine wp_load (pc' := 127) (j := 7) dL_areFines_125 rfl rfl rfl ?_
      refine wp_iconst (pc' := 128) (5) dL_areFines_127 rfl rfl ?_
      refine wp_icmpF (pc' := 131) 204 dL_areFines_128 rfl rfl (cmpF rfl) ?_
      refine wp_load (pc' := 133) (j := 8) dL_areFines_131 rfl rfl rfl ?_
      refine wp_ifF (pc' := 136) 204 dL_areFines_133 rfl rfl (cmpF rfl) ?_
      refine wp_load (pc' := 138) (j := 9) dL_areFines_136 rfl rfl rfl ?_
      refine wp_ifF (pc' := 141) 204 dL_areFines_138 rfl rfl (cmpF rfl) ?_
      refine wp_load (pc' := 143) (j := 8) dL_areFines_141 rfl rfl rfl ?_
      refine wp_load (pc' := 145) (j := 9) dL_areFines_143 rfl rfl rfl ?_
      refine wp_pure (pc' := 146) dL_areFines_145 rfl rfl ?_
      refine wp_iconst (pc' := 147) (2) dL_areFines_146 rfl rfl ?_
      refine wp_icmpF (pc' := 150) 204 dL_areFines_147 rfl rfl (cmpF rfl) ?_
      refine wp_load (pc' := 151) (j := 0) dL_areFines_150 rfl rfl rfl ?_
      refine wp_load (pc' := 153) (j := 6) dL_areFines_151 rfl rfl rfl ?_
      refine wp_iconst (pc' := 154) (0) dL_areFines_153 rfl rfl ?_
      refine wp_s3 10 60 dL_areFines_154 ml_L_118 (Nat.le_of_ble_eq_true rfl) (by omega) (by omega) ?_
      refine w_fine hT (Nat.le_refl _) (Nat.le_refl _) (nI cc) (f_ans hN (hk5) (w := 0) (by decide) (fv0.trans e41)) ?_
      refine kt_v ?_
      refine wp_load (pc' := 158) (j := 1) dL_areFines_157 rfl rfl rfl ?_
      refine wp_iconst (pc' := 159) (2) dL_areFines_158 rfl rfl ?_
      refine wp_iald (pc' := 160) dL_areFines_159 hg rfl (by decide) (by decide) rfl ?_
      rw [g2]
      refine wp_icmpF (pc' := 163) 204 dL_areFines_160 rfl rfl (cgeF rfl (by omega) (by omega)) ?_
      refine wp_load (pc' := 164) (j := 0) dL_areFines_163 rfl rfl rfl ?_
      refine wp_load (pc' := 166) (j := 6) dL_areFines_164 rfl rfl rfl ?_
      refine wp_iconst (pc' := 167) (2) dL_areFines_166 rfl rfl ?_
      refine wp_s3 10 60 dL_areFines_167 ml_L_118 (Nat.le_of_ble_eq_true rfl) (by omega) (by omega) ?_
      refine w_fine hT (Nat.le_refl _) (Nat.le_refl _) (nI uu) (f_ans hN (hk5) (w := 2) (by decide) (fv2.trans e46)) ?_
      refine kt_v ?_
      refine wp_load (pc' := 171) (j := 1) dL_areFines_170 rfl rfl rfl ?_
      refine wp_iconst (pc' := 172) (0) dL_areFines_171 rfl rfl ?_
      refine wp_iald (pc' := 173) dL_areFines_172 hg rfl (by decide) (by decide) rfl ?_
      rw [g0, et0]
      refine wp_icmpF (pc' := 176) 204 dL_areFines_173 rfl rfl (nI_nlt (by omega) (by omega)) ?_
      refine wp_load (pc' := 178) (j := 6) dL_areFines_176 rfl rfl rfl ?_
      refine wp_if_eq (pc' := 181) 200 dL_areFines_178 rfl rfl (fun h178 => ?_) (fun h178 => ?_)
      · skip
        skip
        refine wp_iconst (pc' := 201) (1) dL_areFines_200 rfl rfl ?_
        refine wp_goto 205 dL_areFines_201 rfl ?_
        refine wp_store (pc' := 207) (j := 5) (ls' := [_, _, _, _, _, _, _, _, _, _]) dL_areFines_205 rfl (Nat.le_of_ble_eq_true rfl) rfl rfl ?_
        refine wp_iinc (pc' := 210) (j := 6) (ls' := [_, _, _, _, _, _, _, _, _, _]) (nI (k + 1)) dL_areFines_207 rfl (nI_1 k) rfl rfl ?_
        refine wp_goto 30 dL_areFines_210 rfl ?_
        rw [eo]
        exact ih _ _ _ _ _ (by omega) (by omega)
      · skip
        have hk1 : 0 < k := Nat.pos_of_ne_zero (fun z => h178 (by rw [z]; rfl))
        obtain ⟨vv, hvu, e46b⟩ := hvv hk1
        refine wp_load (pc' := 182) (j := 0) dL_areFines_181 rfl rfl rfl ?_
        refine wp_load (pc' := 184) (j := 6) dL_areFines_182 rfl rfl rfl ?_
        refine wp_iconst (pc' := 185) (2) dL_areFines_184 rfl rfl ?_
        refine wp_s3 10 60 dL_areFines_185 ml_L_118 (Nat.le_of_ble_eq_true rfl) (by omega) (by omega) ?_
        refine w_fine hT (Nat.le_refl _) (Nat.le_refl _) (nI uu) (f_ans hN (hk5) (w := 2) (by decide) (fv2.trans e46)) ?_
        refine kt_v ?_
        refine wp_load (pc' := 189) (j := 0) dL_areFines_188 rfl rfl rfl ?_
        refine wp_load (pc' := 191) (j := 6) dL_areFines_189 rfl rfl rfl ?_
        refine wp_iconst (pc' := 192) (1) dL_areFines_191 rfl rfl ?_
        refine wp_pure (pc' := 193) dL_areFines_192 rfl rfl ?_
        rw [show nI k - 1 = nI (k - 1) from pk_sub (show 1 ≤ k by omega)]
        refine wp_iconst (pc' := 194) (2) dL_areFines_193 rfl rfl ?_
        refine wp_s3 10 60 dL_areFines_194 ml_L_118 (Nat.le_of_ble_eq_true rfl) (by omega) (by omega) ?_
        refine w_fine hT (Nat.le_refl _) (Nat.le_refl _) (nI vv) (f_ans hN (show k - 1 < N 5 by omega) (w := 2) (by decide) (fv2.trans e46b)) ?_
        refine kt_v ?_
        refine wp_icmpF (pc' := 200) 204 dL_areFines_197 rfl rfl (nI_nlt hvu (by omega)) ?_
        refine wp_iconst (pc' := 201) (1) dL_areFines_200 rfl rfl ?_
        refine wp_goto 205 dL_areFines_201 rfl ?_
        refine wp_store (pc' := 207) (j := 5) (ls' := [_, _, _, _, _, _, _, _, _, _]) dL_areFines_205 rfl (Nat.le_of_ble_eq_true rfl) rfl rfl ?_
        refine wp_iinc (pc' := 210) (j := 6) (ls' := [_, _, _, _, _, _, _, _, _, _]) (nI (k + 1)) dL_areFines_207 rfl (nI_1 k) rfl rfl ?_
        refine wp_goto 30 dL_areFines_210 rfl ?_
        rw [eo]
        exact ih _ _ _ _ _ (by omega) (by omega)
    · skip
      have h47 : σ.2.1 47 k = 4 := z47
      have h50 : σ.2.2 50 k = false := z50
      have h51 : σ.2.2 51 k = true := z51
      have eo : opnF σ k + 0 = opnF σ (k + 1) := by
        simp only [opnF, h50, h51, amoF, h47]
        rfl
      refine wp_load (pc' := 32) (j := 6) dL_areFines_30 rfl rfl rfl ?_
      refine wp_load (pc' := 33) (j := 1) dL_areFines_32 rfl rfl rfl ?_
      refine wp_iconst (pc' := 34) (5) dL_areFines_33 rfl rfl ?_
      refine wp_iald (pc' := 35) dL_areFines_34 hg rfl (by decide) (by decide) rfl ?_
      rw [g5]
      refine wp_icmpF (pc' := 38) 213 dL_areFines_35 rfl rfl (cgeF rfl (by omega) (by omega)) ?_
      refine wp_load (pc' := 40) (j := 5) dL_areFines_38 rfl rfl rfl ?_
      refine wp_ifF (pc' := 43) 213 dL_areFines_40 rfl rfl (cmpF rfl) ?_
      refine wp_load (pc' := 44) (j := 0) dL_areFines_43 rfl rfl rfl ?_
      refine wp_load (pc' := 46) (j := 6) dL_areFines_44 rfl rfl rfl ?_
      refine wp_iconst (pc' := 47) (3) dL_areFines_46 rfl rfl ?_
      refine wp_s3 10 60 dL_areFines_47 ml_L_118 (Nat.le_of_ble_eq_true rfl) (by omega) (by omega) ?_
      refine w_fine hT (Nat.le_refl _) (Nat.le_refl _) (4) (f_ans hN (hk5) (w := 3) (by decide) (fv3.trans h47)) ?_
      refine kt_v ?_
      refine wp_store (pc' := 52) (j := 7) (ls' := [_, _, _, _, _, _, _, _, _, _]) dL_areFines_50 rfl (Nat.le_of_ble_eq_true rfl) rfl rfl ?_
      refine wp_load (pc' := 53) (j := 0) dL_areFines_52 rfl rfl rfl ?_
      refine wp_load (pc' := 55) (j := 6) dL_areFines_53 rfl rfl rfl ?_
      refine wp_iconst (pc' := 56) (4) dL_areFines_55 rfl rfl ?_
      refine wp_s3 10 60 dL_areFines_56 ml_L_118 (Nat.le_of_ble_eq_true rfl) (by omega) (by omega) ?_
      refine w_fine hT (Nat.le_refl _) (Nat.le_refl _) (0) (f_ans hN (hk5) (w := 4) (by decide) (fv4.trans (congrArg b2i h50))) ?_
      refine kt_v ?_
      refine wp_store (pc' := 61) (j := 8) (ls' := [_, _, _, _, _, _, _, _, _, _]) dL_areFines_59 rfl (Nat.le_of_ble_eq_true rfl) rfl rfl ?_
      refine wp_load (pc' := 62) (j := 0) dL_areFines_61 rfl rfl rfl ?_
      refine wp_load (pc' := 64) (j := 6) dL_areFines_62 rfl rfl rfl ?_
      refine wp_iconst (pc' := 65) (5) dL_areFines_64 rfl rfl ?_
      refine wp_s3 10 60 dL_areFines_65 ml_L_118 (Nat.le_of_ble_eq_true rfl) (by omega) (by omega) ?_
      refine w_fine hT (Nat.le_refl _) (Nat.le_refl _) (1) (f_ans hN (hk5) (w := 5) (by decide) (fv5.trans (congrArg b2i h51))) ?_
      refine kt_v ?_
      refine wp_store (pc' := 70) (j := 9) (ls' := [_, _, _, _, _, _, _, _, _, _]) dL_areFines_68 rfl (Nat.le_of_ble_eq_true rfl) rfl rfl ?_
      refine wp_load (pc' := 71) (j := 2) dL_areFines_70 rfl rfl rfl ?_
      refine wp_load (pc' := 73) (j := 8) dL_areFines_71 rfl rfl rfl ?_
      refine wp_load (pc' := 75) (j := 9) dL_areFines_73 rfl rfl rfl ?_
      refine wp_pure (pc' := 76) dL_areFines_75 rfl rfl ?_
      refine wp_ifF (pc' := 79) 83 dL_areFines_76 rfl rfl (cmpF rfl) ?_
      refine wp_iconst (pc' := 80) (0) dL_areFines_79 rfl rfl ?_
      refine wp_goto 118 dL_areFines_80 rfl ?_
      refine wp_pure (pc' := 119) dL_areFines_118 rfl rfl ?_
      refine wp_store (pc' := 120) (j := 2) (ls' := [_, _, _, _, _, _, _, _, _, _]) dL_areFines_119 rfl (Nat.le_of_ble_eq_true rfl) rfl rfl ?_
      refine wp_load (pc' := 122) (j := 7) dL_areFines_120 rfl rfl rfl ?_
      refine wp_ifF (pc' := 125) 204 dL_areFines_122 rfl rfl (cmpF rfl) ?_
      refine wp_load (pc' := 127) (j := 7) dL_areFines_125 rfl rfl rfl ?_
      refine wp_iconst (pc' := 128) (5) dL_areFines_127 rfl rfl ?_
      refine wp_icmpF (pc' := 131) 204 dL_areFines_128 rfl rfl (cmpF rfl) ?_
      refine wp_load (pc' := 133) (j := 8) dL_areFines_131 rfl rfl rfl ?_
      refine wp_ifF (pc' := 136) 204 dL_areFines_133 rfl rfl (cmpF rfl) ?_
      refine wp_load (pc' := 138) (j := 9) dL_areFines_136 rfl rfl rfl ?_
      refine wp_ifF (pc' := 141) 204 dL_areFines_138 rfl rfl (cmpF rfl) ?_
      refine wp_load (pc' := 143) (j := 8) dL_areFines_141 rfl rfl rfl ?_
      refine wp_load (pc' := 145) (j := 9) dL_areFines_143 rfl rfl rfl ?_
      refine wp_pure (pc' := 146) dL_areFines_145 rfl rfl ?_
      refine wp_iconst (pc' := 147) (2) dL_areFines_146 rfl rfl ?_
      refine wp_icmpF (pc' := 150) 204 dL_areFines_147 rfl rfl (cmpF rfl) ?_
      refine wp_load (pc' := 151) (j := 0) dL_areFines_150 rfl rfl rfl ?_
      refine wp_load (pc' := 153) (j := 6) dL_areFines_151 rfl rfl rfl ?_
      refine wp_iconst (pc' := 154) (0) dL_areFines_153 rfl rfl ?_
      refine wp_s3 10 60 dL_areFines_154 ml_L_118 (Nat.le_of_ble_eq_true rfl) (by omega) (by omega) ?_
      refine w_fine hT (Nat.le_refl _) (Nat.le_refl _) (nI cc) (f_ans hN (hk5) (w := 0) (by decide) (fv0.trans e41)) ?_
      refine kt_v ?_
      refine wp_load (pc' := 158) (j := 1) dL_areFines_157 rfl rfl rfl ?_
      refine wp_iconst (pc' := 159) (2) dL_areFines_158 rfl rfl ?_
      refine wp_iald (pc' := 160) dL_areFines_159 hg rfl (by decide) (by decide) rfl ?_
      rw [g2]
      refine wp_icmpF (pc' := 163) 204 dL_areFines_160 rfl rfl (cgeF rfl (by omega) (by omega)) ?_
      refine wp_load (pc' := 164) (j := 0) dL_areFines_163 rfl rfl rfl ?_
      refine wp_load (pc' := 166) (j := 6) dL_areFines_164 rfl rfl rfl ?_
      refine wp_iconst (pc' := 167) (2) dL_areFines_166 rfl rfl ?_
      refine wp_s3 10 60 dL_areFines_167 ml_L_118 (Nat.le_of_ble_eq_true rfl) (by omega) (by omega) ?_
      refine w_fine hT (Nat.le_refl _) (Nat.le_refl _) (nI uu) (f_ans hN (hk5) (w := 2) (by decide) (fv2.trans e46)) ?_
      refine kt_v ?_
      refine wp_load (pc' := 171) (j := 1) dL_areFines_170 rfl rfl rfl ?_
      refine wp_iconst (pc' := 172) (0) dL_areFines_171 rfl rfl ?_
      refine wp_iald (pc' := 173) dL_areFines_172 hg rfl (by decide) (by decide) rfl ?_
      rw [g0, et0]
      refine wp_icmpF (pc' := 176) 204 dL_areFines_173 rfl rfl (nI_nlt (by omega) (by omega)) ?_
      refine wp_load (pc' := 178) (j := 6) dL_areFines_176 rfl rfl rfl ?_
      refine wp_if_eq (pc' := 181) 200 dL_areFines_178 rfl rfl (fun h178 => ?_) (fun h178 => ?_)
      · skip
        skip
        refine wp_iconst (pc' := 201) (1) dL_areFines_200 rfl rfl ?_
        refine wp_goto 205 dL_areFines_201 rfl ?_
        refine wp_store (pc' := 207) (j := 5) (ls' := [_, _, _, _, _, _, _, _, _, _]) dL_areFines_205 rfl (Nat.le_of_ble_eq_true rfl) rfl rfl ?_
        refine wp_iinc (pc' := 210) (j := 6) (ls' := [_, _, _, _, _, _, _, _, _, _]) (nI (k + 1)) dL_areFines_207 rfl (nI_1 k) rfl rfl ?_
        refine wp_goto 30 dL_areFines_210 rfl ?_
        rw [eo]
        exact ih _ _ _ _ _ (by omega) (by omega)
      · skip
        have hk1 : 0 < k := Nat.pos_of_ne_zero (fun z => h178 (by rw [z]; rfl))
        obtain ⟨vv, hvu, e46b⟩ := hvv hk1
        refine wp_load (pc' := 182) (j := 0) dL_areFines_181 rfl rfl rfl ?_
        refine wp_load (pc' := 184) (j := 6) dL_areFines_182 rfl rfl rfl ?_
        refine wp_iconst (pc' := 185) (2) dL_areFines_184 rfl rfl ?_
        refine wp_s3 10 60 dL_areFines_185 ml_L_118 (Nat.le_of_ble_eq_true rfl) (by omega) (by omega) ?_
        refine w_fine hT (Nat.le_refl _) (Nat.le_refl _) (nI uu) (f_ans hN (hk5) (w := 2) (by decide) (fv2.trans e46)) ?_
        refine kt_v ?_
        refine wp_load (pc' := 189) (j := 0) dL_areFines_188 rfl rfl rfl ?_
        refine wp_load (pc' := 191) (j := 6) dL_areFines_189 rfl rfl rfl ?_
        refine wp_iconst (pc' := 192) (1) dL_areFines_191 rfl rfl ?_
        refine wp_pure (pc' := 193) dL_areFines_192 rfl rfl ?_
        rw [show nI k - 1 = nI (k - 1) from pk_sub (show 1 ≤ k by omega)]
        refine wp_iconst (pc' := 194) (2) dL_areFines_193 rfl rfl ?_
        refine wp_s3 10 60 dL_areFines_194 ml_L_118 (Nat.le_of_ble_eq_true rfl) (by omega) (by omega) ?_
        refine w_fine hT (Nat.le_refl _) (Nat.le_refl _) (nI vv) (f_ans hN (show k - 1 < N 5 by omega) (w := 2) (by decide) (fv2.trans e46b)) ?_
        refine kt_v ?_
        refine wp_icmpF (pc' := 200) 204 dL_areFines_197 rfl rfl (nI_nlt hvu (by omega)) ?_
        refine wp_iconst (pc' := 201) (1) dL_areFines_200 rfl rfl ?_
        refine wp_goto 205 dL_areFines_201 rfl ?_
        refine wp_store (pc' := 207) (j := 5) (ls' := [_, _, _, _, _, _, _, _, _, _]) dL_areFines_205 rfl (Nat.le_of_ble_eq_true rfl) rfl rfl ?_
        refine wp_iinc (pc' := 210) (j := 6) (ls' := [_, _, _, _, _, _, _, _, _, _]) (nI (k + 1)) dL_areFines_207 rfl (nI_1 k) rfl rfl ?_
        refine wp_goto 30 dL_areFines_210 rfl ?_
        rw [eo]
        exact ih _ _ _ _ _ (by omega) (by omega)
    · skip
      have h47 : σ.2.1 47 k = 1 := z47
      have h50 : σ.2.2 50 k = true := z50
      have h51 : σ.2.2 51 k = false := z51
      have eo : opnF σ k + 0 = opnF σ (k + 1) := by
        simp only [opnF, h50, h51, amoF, h47]
        rfl
      refine wp_load (pc' := 32) (j := 6) dL_areFines_30 rfl rfl rfl ?_
      refine wp_load (pc' := 33) (j := 1) dL_areFines_32 rfl rfl rfl ?_
      refine wp_iconst (pc' := 34) (5) dL_areFines_33 rfl rfl ?_
      refine wp_iald (pc' := 35) dL_areFines_34 hg rfl (by decide) (by decide) rfl ?_
      rw [g5]
      refine wp_icmpF (pc' := 38) 213 dL_areFines_35 rfl rfl (cgeF rfl (by omega) (by omega)) ?_
      refine wp_load (pc' := 40) (j := 5) dL_areFines_38 rfl rfl rfl ?_
      refine wp_ifF (pc' := 43) 213 dL_areFines_40 rfl rfl (cmpF rfl) ?_
      refine wp_load (pc' := 44) (j := 0) dL_areFines_43 rfl rfl rfl ?_
      refine wp_load (pc' := 46) (j := 6) dL_areFines_44 rfl rfl rfl ?_
      refine wp_iconst (pc' := 47) (3) dL_areFines_46 rfl rfl ?_
      refine wp_s3 10 60 dL_areFines_47 ml_L_118 (Nat.le_of_ble_eq_true rfl) (by omega) (by omega) ?_
      refine w_fine hT (Nat.le_refl _) (Nat.le_refl _) (1) (f_ans hN (hk5) (w := 3) (by decide) (fv3.trans h47)) ?_
      refine kt_v ?_
      refine wp_store (pc' := 52) (j := 7) (ls' := [_, _, _, _, _, _, _, _, _, _]) dL_areFines_50 rfl (Nat.le_of_ble_eq_true rfl) rfl rfl ?_
      refine wp_load (pc' := 53) (j := 0) dL_areFines_52 rfl rfl rfl ?_
      refine wp_load (pc' := 55) (j := 6) dL_areFines_53 rfl rfl rfl ?_
      refine wp_iconst (pc' := 56) (4) dL_areFines_55 rfl rfl ?_
      refine wp_s3 10 60 dL_areFines_56 ml_L_118 (Nat.le_of_ble_eq_true rfl) (by omega) (by omega) ?_
      refine w_fine hT (Nat.le_refl _) (Nat.le_refl _) (1) (f_ans hN (hk5) (w := 4) (by decide) (fv4.trans (congrArg b2i h50))) ?_
      refine kt_v ?_
      refine wp_store (pc' := 61) (j := 8) (ls' := [_, _, _, _, _, _, _, _, _, _]) dL_areFines_59 rfl (Nat.le_of_ble_eq_true rfl) rfl rfl ?_
      refine wp_load (pc' := 62) (j := 0) dL_areFines_61 rfl rfl rfl ?_
      refine wp_load (pc' := 64) (j := 6) dL_areFines_62 rfl rfl rfl ?_
      refine wp_iconst (pc' := 65) (5) dL_areFines_64 rfl rfl ?_
      refine wp_s3 10 60 dL_areFines_65 ml_L_118 (Nat.le_of_ble_eq_true rfl) (by omega) (by omega) ?_
      refine w_fine hT (Nat.le_refl _) (Nat.le_refl _) (0) (f_ans hN (hk5) (w := 5) (by decide) (fv5.trans (congrArg b2i h51))) ?_
      refine kt_v ?_
      refine wp_store (pc' := 70) (j := 9) (ls' := [_, _, _, _, _, _, _, _, _, _]) dL_areFines_68 rfl (Nat.le_of_ble_eq_true rfl) rfl rfl ?_
      refine wp_load (pc' := 71) (j := 2) dL_areFines_70 rfl rfl rfl ?_
      refine wp_load (pc' := 73) (j := 8) dL_areFines_71 rfl rfl rfl ?_
      refine wp_load (pc' := 75) (j := 9) dL_areFines_73 rfl rfl rfl ?_
      refine wp_pure (pc' := 76) dL_areFines_75 rfl rfl ?_
      refine wp_ifF (pc' := 79) 83 dL_areFines_76 rfl rfl (cmpF rfl) ?_
      refine wp_iconst (pc' := 80) (0) dL_areFines_79 rfl rfl ?_
      refine wp_goto 118 dL_areFines_80 rfl ?_
      refine wp_pure (pc' := 119) dL_areFines_118 rfl rfl ?_
      refine wp_store (pc' := 120) (j := 2) (ls' := [_, _, _, _, _, _, _, _, _, _]) dL_areFines_119 rfl (Nat.le_of_ble_eq_true rfl) rfl rfl ?_
      refine wp_load (pc' := 122) (j := 7) dL_areFines_120 rfl rfl rfl ?_
      refine wp_ifF (pc' := 125) 204 dL_areFines_122 rfl rfl (cmpF rfl) ?_
      refine wp_load (pc' := 127) (j := 7) dL_areFines_125 rfl rfl rfl ?_
      refine wp_iconst (pc' := 128) (5) dL_areFines_127 rfl rfl ?_
      refine wp_icmpF (pc' := 131) 204 dL_areFines_128 rfl rfl (cmpF rfl) ?_
      refine wp_load (pc' := 133) (j := 8) dL_areFines_131 rfl rfl rfl ?_
      refine wp_ifF (pc' := 136) 204 dL_areFines_133 rfl rfl (cmpF rfl) ?_
      refine wp_load (pc' := 138) (j := 9) dL_areFines_136 rfl rfl rfl ?_
      refine wp_ifF (pc' := 141) 204 dL_areFines_138 rfl rfl (cmpF rfl) ?_
      refine wp_load (pc' := 143) (j := 8) dL_areFines_141 rfl rfl rfl ?_
      refine wp_load (pc' := 145) (j := 9) dL_areFines_143 rfl rfl rfl ?_
      refine wp_pure (pc' := 146) dL_areFines_145 rfl rfl ?_
      refine wp_iconst (pc' := 147) (2) dL_areFines_146 rfl rfl ?_
      refine wp_icmpF (pc' := 150) 204 dL_areFines_147 rfl rfl (cmpF rfl) ?_
      refine wp_load (pc' := 151) (j := 0) dL_areFines_150 rfl rfl rfl ?_
      refine wp_load (pc' := 153) (j := 6) dL_areFines_151 rfl rfl rfl ?_
      refine wp_iconst (pc' := 154) (0) dL_areFines_153 rfl rfl ?_
      refine wp_s3 10 60 dL_areFines_154 ml_L_118 (Nat.le_of_ble_eq_true rfl) (by omega) (by omega) ?_
      refine w_fine hT (Nat.le_refl _) (Nat.le_refl _) (nI cc) (f_ans hN (hk5) (w := 0) (by decide) (fv0.trans e41)) ?_
      refine kt_v ?_
      refine wp_load (pc' := 158) (j := 1) dL_areFines_157 rfl rfl rfl ?_
      refine wp_iconst (pc' := 159) (2) dL_areFines_158 rfl rfl ?_
      refine wp_iald (pc' := 160) dL_areFines_159 hg rfl (by decide) (by decide) rfl ?_
      rw [g2]
      refine wp_icmpF (pc' := 163) 204 dL_areFines_160 rfl rfl (cgeF rfl (by omega) (by omega)) ?_
      refine wp_load (pc' := 164) (j := 0) dL_areFines_163 rfl rfl rfl ?_
      refine wp_load (pc' := 166) (j := 6) dL_areFines_164 rfl rfl rfl ?_
      refine wp_iconst (pc' := 167) (2) dL_areFines_166 rfl rfl ?_
      refine wp_s3 10 60 dL_areFines_167 ml_L_118 (Nat.le_of_ble_eq_true rfl) (by omega) (by omega) ?_
      refine w_fine hT (Nat.le_refl _) (Nat.le_refl _) (nI uu) (f_ans hN (hk5) (w := 2) (by decide) (fv2.trans e46)) ?_
      refine kt_v ?_
      refine wp_load (pc' := 171) (j := 1) dL_areFines_170 rfl rfl rfl ?_
      refine wp_iconst (pc' := 172) (0) dL_areFines_171 rfl rfl ?_
      refine wp_iald (pc' := 173) dL_areFines_172 hg rfl (by decide) (by decide) rfl ?_
      rw [g0, et0]
      refine wp_icmpF (pc' := 176) 204 dL_areFines_173 rfl rfl (nI_nlt (by omega) (by omega)) ?_
      refine wp_load (pc' := 178) (j := 6) dL_areFines_176 rfl rfl rfl ?_
      refine wp_if_eq (pc' := 181) 200 dL_areFines_178 rfl rfl (fun h178 => ?_) (fun h178 => ?_)
      · skip
        skip
        refine wp_iconst (pc' := 201) (1) dL_areFines_200 rfl rfl ?_
        refine wp_goto 205 dL_areFines_201 rfl ?_
        refine wp_store (pc' := 207) (j := 5) (ls' := [_, _, _, _, _, _, _, _, _, _]) dL_areFines_205 rfl (Nat.le_of_ble_eq_true rfl) rfl rfl ?_
        refine wp_iinc (pc' := 210) (j := 6) (ls' := [_, _, _, _, _, _, _, _, _, _]) (nI (k + 1)) dL_areFines_207 rfl (nI_1 k) rfl rfl ?_
        refine wp_goto 30 dL_areFines_210 rfl ?_
        rw [eo]
        exact ih _ _ _ _ _ (by omega) (by omega)
      · skip
        have hk1 : 0 < k := Nat.pos_of_ne_zero (fun z => h178 (by rw [z]; rfl))
        obtain ⟨vv, hvu, e46b⟩ := hvv hk1
        refine wp_load (pc' := 182) (j := 0) dL_areFines_181 rfl rfl rfl ?_
        refine wp_load (pc' := 184) (j := 6) dL_areFines_182 rfl rfl rfl ?_
        refine wp_iconst (pc' := 185) (2) dL_areFines_184 rfl rfl ?_
        refine wp_s3 10 60 dL_areFines_185 ml_L_118 (Nat.le_of_ble_eq_true rfl) (by omega) (by omega) ?_
        refine w_fine hT (Nat.le_refl _) (Nat.le_refl _) (nI uu) (f_ans hN (hk5) (w := 2) (by decide) (fv2.trans e46)) ?_
        refine kt_v ?_
        refine wp_load (pc' := 189) (j := 0) dL_areFines_188 rfl rfl rfl ?_
        refine wp_load (pc' := 191) (j := 6) dL_areFines_189 rfl rfl rfl ?_
        refine wp_iconst (pc' := 192) (1) dL_areFines_191 rfl rfl ?_
        refine wp_pure (pc' := 193) dL_areFines_192 rfl rfl ?_
        rw [show nI k - 1 = nI (k - 1) from pk_sub (show 1 ≤ k by omega)]
        refine wp_iconst (pc' := 194) (2) dL_areFines_193 rfl rfl ?_
        refine wp_s3 10 60 dL_areFines_194 ml_L_118 (Nat.le_of_ble_eq_true rfl) (by omega) (by omega) ?_
        refine w_fine hT (Nat.le_refl _) (Nat.le_refl _) (nI vv) (f_ans hN (show k - 1 < N 5 by omega) (w := 2) (by decide) (fv2.trans e46b)) ?_
        refine kt_v ?_
        refine wp_icmpF (pc' := 200) 204 dL_areFines_197 rfl rfl (nI_nlt hvu (by omega)) ?_
        refine wp_iconst (pc' := 201) (1) dL_areFines_200 rfl rfl ?_
        refine wp_goto 205 dL_areFines_201 rfl ?_
        refine wp_store (pc' := 207) (j := 5) (ls' := [_, _, _, _, _, _, _, _, _, _]) dL_areFines_205 rfl (Nat.le_of_ble_eq_true rfl) rfl rfl ?_
        refine wp_iinc (pc' := 210) (j := 6) (ls' := [_, _, _, _, _, _, _, _, _, _]) (nI (k + 1)) dL_areFines_207 rfl (nI_1 k) rfl rfl ?_
        refine wp_goto 30 dL_areFines_210 rfl ?_
        rw [eo]
        exact ih _ _ _ _ _ (by omega) (by omega)
    · skip
      have h47 : σ.2.1 47 k = 2 := z47
      have h50 : σ.2.2 50 k = true := z50
      have h51 : σ.2.2 51 k = false := z51
      have eo : opnF σ k + 0 = opnF σ (k + 1) := by
        simp only [opnF, h50, h51, amoF, h47]
        rfl
      refine wp_load (pc' := 32) (j := 6) dL_areFines_30 rfl rfl rfl ?_
      refine wp_load (pc' := 33) (j := 1) dL_areFines_32 rfl rfl rfl ?_
      refine wp_iconst (pc' := 34) (5) dL_areFines_33 rfl rfl ?_
      refine wp_iald (pc' := 35) dL_areFines_34 hg rfl (by decide) (by decide) rfl ?_
      rw [g5]
      refine wp_icmpF (pc' := 38) 213 dL_areFines_35 rfl rfl (cgeF rfl (by omega) (by omega)) ?_
      refine wp_load (pc' := 40) (j := 5) dL_areFines_38 rfl rfl rfl ?_
      refine wp_ifF (pc' := 43) 213 dL_areFines_40 rfl rfl (cmpF rfl) ?_
      refine wp_load (pc' := 44) (j := 0) dL_areFines_43 rfl rfl rfl ?_
      refine wp_load (pc' := 46) (j := 6) dL_areFines_44 rfl rfl rfl ?_
      refine wp_iconst (pc' := 47) (3) dL_areFines_46 rfl rfl ?_
      refine wp_s3 10 60 dL_areFines_47 ml_L_118 (Nat.le_of_ble_eq_true rfl) (by omega) (by omega) ?_
      refine w_fine hT (Nat.le_refl _) (Nat.le_refl _) (2) (f_ans hN (hk5) (w := 3) (by decide) (fv3.trans h47)) ?_
      refine kt_v ?_
      refine wp_store (pc' := 52) (j := 7) (ls' := [_, _, _, _, _, _, _, _, _, _]) dL_areFines_50 rfl (Nat.le_of_ble_eq_true rfl) rfl rfl ?_
      refine wp_load (pc' := 53) (j := 0) dL_areFines_52 rfl rfl rfl ?_
      refine wp_load (pc' := 55) (j := 6) dL_areFines_53 rfl rfl rfl ?_
      refine wp_iconst (pc' := 56) (4) dL_areFines_55 rfl rfl ?_
      refine wp_s3 10 60 dL_areFines_56 ml_L_118 (Nat.le_of_ble_eq_true rfl) (by omega) (by omega) ?_
      refine w_fine hT (Nat.le_refl _) (Nat.le_refl _) (1) (f_ans hN (hk5) (w := 4) (by decide) (fv4.trans (congrArg b2i h50))) ?_
      refine kt_v ?_
      refine wp_store (pc' := 61) (j := 8) (ls' := [_, _, _, _, _, _, _, _, _, _]) dL_areFines_59 rfl (Nat.le_of_ble_eq_true rfl) rfl rfl ?_
      refine wp_load (pc' := 62) (j := 0) dL_areFines_61 rfl rfl rfl ?_
      refine wp_load (pc' := 64) (j := 6) dL_areFines_62 rfl rfl rfl ?_
      refine wp_iconst (pc' := 65) (5) dL_areFines_64 rfl rfl ?_
      refine wp_s3 10 60 dL_areFines_65 ml_L_118 (Nat.le_of_ble_eq_true rfl) (by omega) (by omega) ?_
      refine w_fine hT (Nat.le_refl _) (Nat.le_refl _) (0) (f_ans hN (hk5) (w := 5) (by decide) (fv5.trans (congrArg b2i h51))) ?_
      refine kt_v ?_
      refine wp_store (pc' := 70) (j := 9) (ls' := [_, _, _, _, _, _, _, _, _, _]) dL_areFines_68 rfl (Nat.le_of_ble_eq_true rfl) rfl rfl ?_
      refine wp_load (pc' := 71) (j := 2) dL_areFines_70 rfl rfl rfl ?_
      refine wp_load (pc' := 73) (j := 8) dL_areFines_71 rfl rfl rfl ?_
      refine wp_load (pc' := 75) (j := 9) dL_areFines_73 rfl rfl rfl ?_
      refine wp_pure (pc' := 76) dL_areFines_75 rfl rfl ?_
      refine wp_ifF (pc' := 79) 83 dL_areFines_76 rfl rfl (cmpF rfl) ?_
      refine wp_iconst (pc' := 80) (0) dL_areFines_79 rfl rfl ?_
      refine wp_goto 118 dL_areFines_80 rfl ?_
      refine wp_pure (pc' := 119) dL_areFines_118 rfl rfl ?_
      refine wp_store (pc' := 120) (j := 2) (ls' := [_, _, _, _, _, _, _, _, _, _]) dL_areFines_119 rfl (Nat.le_of_ble_eq_true rfl) rfl rfl ?_
      refine wp_load (pc' := 122) (j := 7) dL_areFines_120 rfl rfl rfl ?_
      refine wp_ifF (pc' := 125) 204 dL_areFines_122 rfl rfl (cmpF rfl) ?_
      refine wp_load (pc' := 127) (j := 7) dL_areFines_125 rfl rfl rfl ?_
      refine wp_iconst (pc' := 128) (5) dL_areFines_127 rfl rfl ?_
      refine wp_icmpF (pc' := 131) 204 dL_areFines_128 rfl rfl (cmpF rfl) ?_
      refine wp_load (pc' := 133) (j := 8) dL_areFines_131 rfl rfl rfl ?_
      refine wp_ifF (pc' := 136) 204 dL_areFines_133 rfl rfl (cmpF rfl) ?_
      refine wp_load (pc' := 138) (j := 9) dL_areFines_136 rfl rfl rfl ?_
      refine wp_ifF (pc' := 141) 204 dL_areFines_138 rfl rfl (cmpF rfl) ?_
      refine wp_load (pc' := 143) (j := 8) dL_areFines_141 rfl rfl rfl ?_
      refine wp_load (pc' := 145) (j := 9) dL_areFines_143 rfl rfl rfl ?_
      refine wp_pure (pc' := 146) dL_areFines_145 rfl rfl ?_
      refine wp_iconst (pc' := 147) (2) dL_areFines_146 rfl rfl ?_
      refine wp_icmpF (pc' := 150) 204 dL_areFines_147 rfl rfl (cmpF rfl) ?_
      refine wp_load (pc' := 151) (j := 0) dL_areFines_150 rfl rfl rfl ?_
      refine wp_load (pc' := 153) (j := 6) dL_areFines_151 rfl rfl rfl ?_
      refine wp_iconst (pc' := 154) (0) dL_areFines_153 rfl rfl ?_
      refine wp_s3 10 60 dL_areFines_154 ml_L_118 (Nat.le_of_ble_eq_true rfl) (by omega) (by omega) ?_
      refine w_fine hT (Nat.le_refl _) (Nat.le_refl _) (nI cc) (f_ans hN (hk5) (w := 0) (by decide) (fv0.trans e41)) ?_
      refine kt_v ?_
      refine wp_load (pc' := 158) (j := 1) dL_areFines_157 rfl rfl rfl ?_
      refine wp_iconst (pc' := 159) (2) dL_areFines_158 rfl rfl ?_
      refine wp_iald (pc' := 160) dL_areFines_159 hg rfl (by decide) (by decide) rfl ?_
      rw [g2]
      refine wp_icmpF (pc' := 163) 204 dL_areFines_160 rfl rfl (cgeF rfl (by omega) (by omega)) ?_
      refine wp_load (pc' := 164) (j := 0) dL_areFines_163 rfl rfl rfl ?_
      refine wp_load (pc' := 166) (j := 6) dL_areFines_164 rfl rfl rfl ?_
      refine wp_iconst (pc' := 167) (2) dL_areFines_166 rfl rfl ?_
      refine wp_s3 10 60 dL_areFines_167 ml_L_118 (Nat.le_of_ble_eq_true rfl) (by omega) (by omega) ?_
      refine w_fine hT (Nat.le_refl _) (Nat.le_refl _) (nI uu) (f_ans hN (hk5) (w := 2) (by decide) (fv2.trans e46)) ?_
      refine kt_v ?_
      refine wp_load (pc' := 171) (j := 1) dL_areFines_170 rfl rfl rfl ?_
      refine wp_iconst (pc' := 172) (0) dL_areFines_171 rfl rfl ?_
      refine wp_iald (pc' := 173) dL_areFines_172 hg rfl (by decide) (by decide) rfl ?_
      rw [g0, et0]
      refine wp_icmpF (pc' := 176) 204 dL_areFines_173 rfl rfl (nI_nlt (by omega) (by omega)) ?_
      refine wp_load (pc' := 178) (j := 6) dL_areFines_176 rfl rfl rfl ?_
      refine wp_if_eq (pc' := 181) 200 dL_areFines_178 rfl rfl (fun h178 => ?_) (fun h178 => ?_)
      · skip
        skip
        refine wp_iconst (pc' := 201) (1) dL_areFines_200 rfl rfl ?_
        refine wp_goto 205 dL_areFines_201 rfl ?_
        refine wp_store (pc' := 207) (j := 5) (ls' := [_, _, _, _, _, _, _, _, _, _]) dL_areFines_205 rfl (Nat.le_of_ble_eq_true rfl) rfl rfl ?_
        refine wp_iinc (pc' := 210) (j := 6) (ls' := [_, _, _, _, _, _, _, _, _, _]) (nI (k + 1)) dL_areFines_207 rfl (nI_1 k) rfl rfl ?_
        refine wp_goto 30 dL_areFines_210 rfl ?_
        rw [eo]
        exact ih _ _ _ _ _ (by omega) (by omega)
      · skip
        have hk1 : 0 < k := Nat.pos_of_ne_zero (fun z => h178 (by rw [z]; rfl))
        obtain ⟨vv, hvu, e46b⟩ := hvv hk1
        refine wp_load (pc' := 182) (j := 0) dL_areFines_181 rfl rfl rfl ?_
        refine wp_load (pc' := 184) (j := 6) dL_areFines_182 rfl rfl rfl ?_
        refine wp_iconst (pc' := 185) (2) dL_areFines_184 rfl rfl ?_
        refine wp_s3 10 60 dL_areFines_185 ml_L_118 (Nat.le_of_ble_eq_true rfl) (by omega) (by omega) ?_
        refine w_fine hT (Nat.le_refl _) (Nat.le_refl _) (nI uu) (f_ans hN (hk5) (w := 2) (by decide) (fv2.trans e46)) ?_
        refine kt_v ?_
        refine wp_load (pc' := 189) (j := 0) dL_areFines_188 rfl rfl rfl ?_
        refine wp_load (pc' := 191) (j := 6) dL_areFines_189 rfl rfl rfl ?_
        refine wp_iconst (pc' := 192) (1) dL_areFines_191 rfl rfl ?_
        refine wp_pure (pc' := 193) dL_areFines_192 rfl rfl ?_
        rw [show nI k - 1 = nI (k - 1) from pk_sub (show 1 ≤ k by omega)]
        refine wp_iconst (pc' := 194) (2) dL_areFines_193 rfl rfl ?_
        refine wp_s3 10 60 dL_areFines_194 ml_L_118 (Nat.le_of_ble_eq_true rfl) (by omega) (by omega) ?_
        refine w_fine hT (Nat.le_refl _) (Nat.le_refl _) (nI vv) (f_ans hN (show k - 1 < N 5 by omega) (w := 2) (by decide) (fv2.trans e46b)) ?_
        refine kt_v ?_
        refine wp_icmpF (pc' := 200) 204 dL_areFines_197 rfl rfl (nI_nlt hvu (by omega)) ?_
        refine wp_iconst (pc' := 201) (1) dL_areFines_200 rfl rfl ?_
        refine wp_goto 205 dL_areFines_201 rfl ?_
        refine wp_store (pc' := 207) (j := 5) (ls' := [_, _, _, _, _, _, _, _, _, _]) dL_areFines_205 rfl (Nat.le_of_ble_eq_true rfl) rfl rfl ?_
        refine wp_iinc (pc' := 210) (j := 6) (ls' := [_, _, _, _, _, _, _, _, _, _]) (nI (k + 1)) dL_areFines_207 rfl (nI_1 k) rfl rfl ?_
        refine wp_goto 30 dL_areFines_210 rfl ?_
        rw [eo]
        exact ih _ _ _ _ _ (by omega) (by omega)
    · skip
      have h47 : σ.2.1 47 k = 3 := z47
      have h50 : σ.2.2 50 k = true := z50
      have h51 : σ.2.2 51 k = false := z51
      have eo : opnF σ k + 0 = opnF σ (k + 1) := by
        simp only [opnF, h50, h51, amoF, h47]
        rfl
      refine wp_load (pc' := 32) (j := 6) dL_areFines_30 rfl rfl rfl ?_
      refine wp_load (pc' := 33) (j := 1) dL_areFines_32 rfl rfl rfl ?_
      refine wp_iconst (pc' := 34) (5) dL_areFines_33 rfl rfl ?_
      refine wp_iald (pc' := 35) dL_areFines_34 hg rfl (by decide) (by decide) rfl ?_
      rw [g5]
      refine wp_icmpF (pc' := 38) 213 dL_areFines_35 rfl rfl (cgeF rfl (by omega) (by omega)) ?_
      refine wp_load (pc' := 40) (j := 5) dL_areFines_38 rfl rfl rfl ?_
      refine wp_ifF (pc' := 43) 213 dL_areFines_40 rfl rfl (cmpF rfl) ?_
      refine wp_load (pc' := 44) (j := 0) dL_areFines_43 rfl rfl rfl ?_
      refine wp_load (pc' := 46) (j := 6) dL_areFines_44 rfl rfl rfl ?_
      refine wp_iconst (pc' := 47) (3) dL_areFines_46 rfl rfl ?_
      refine wp_s3 10 60 dL_areFines_47 ml_L_118 (Nat.le_of_ble_eq_true rfl) (by omega) (by omega) ?_
      refine w_fine hT (Nat.le_refl _) (Nat.le_refl _) (3) (f_ans hN (hk5) (w := 3) (by decide) (fv3.trans h47)) ?_
      refine kt_v ?_
      refine wp_store (pc' := 52) (j := 7) (ls' := [_, _, _, _, _, _, _, _, _, _]) dL_areFines_50 rfl (Nat.le_of_ble_eq_true rfl) rfl rfl ?_
      refine wp_load (pc' := 53) (j := 0) dL_areFines_52 rfl rfl rfl ?_
      refine wp_load (pc' := 55) (j := 6) dL_areFines_53 rfl rfl rfl ?_
      refine wp_iconst (pc' := 56) (4) dL_areFines_55 rfl rfl ?_
      refine wp_s3 10 60 dL_areFines_56 ml_L_118 (Nat.le_of_ble_eq_true rfl) (by omega) (by omega) ?_
      refine w_fine hT (Nat.le_refl _) (Nat.le_refl _) (1) (f_ans hN (hk5) (w := 4) (by decide) (fv4.trans (congrArg b2i h50))) ?_
      refine kt_v ?_
      refine wp_store (pc' := 61) (j := 8) (ls' := [_, _, _, _, _, _, _, _, _, _]) dL_areFines_59 rfl (Nat.le_of_ble_eq_true rfl) rfl rfl ?_
      refine wp_load (pc' := 62) (j := 0) dL_areFines_61 rfl rfl rfl ?_
      refine wp_load (pc' := 64) (j := 6) dL_areFines_62 rfl rfl rfl ?_
      refine wp_iconst (pc' := 65) (5) dL_areFines_64 rfl rfl ?_
      refine wp_s3 10 60 dL_areFines_65 ml_L_118 (Nat.le_of_ble_eq_true rfl) (by omega) (by omega) ?_
      refine w_fine hT (Nat.le_refl _) (Nat.le_refl _) (0) (f_ans hN (hk5) (w := 5) (by decide) (fv5.trans (congrArg b2i h51))) ?_
      refine kt_v ?_
      refine wp_store (pc' := 70) (j := 9) (ls' := [_, _, _, _, _, _, _, _, _, _]) dL_areFines_68 rfl (Nat.le_of_ble_eq_true rfl) rfl rfl ?_
      refine wp_load (pc' := 71) (j := 2) dL_areFines_70 rfl rfl rfl ?_
      refine wp_load (pc' := 73) (j := 8) dL_areFines_71 rfl rfl rfl ?_
      refine wp_load (pc' := 75) (j := 9) dL_areFines_73 rfl rfl rfl ?_
      refine wp_pure (pc' := 76) dL_areFines_75 rfl rfl ?_
      refine wp_ifF (pc' := 79) 83 dL_areFines_76 rfl rfl (cmpF rfl) ?_
      refine wp_iconst (pc' := 80) (0) dL_areFines_79 rfl rfl ?_
      refine wp_goto 118 dL_areFines_80 rfl ?_
      refine wp_pure (pc' := 119) dL_areFines_118 rfl rfl ?_
      refine wp_store (pc' := 120) (j := 2) (ls' := [_, _, _, _, _, _, _, _, _, _]) dL_areFines_119 rfl (Nat.le_of_ble_eq_true rfl) rfl rfl ?_
      refine wp_load (pc' := 122) (j := 7) dL_areFines_120 rfl rfl rfl ?_
      refine wp_ifF (pc' := 125) 204 dL_areFines_122 rfl rfl (cmpF rfl) ?_
      refine wp_load (pc' := 127) (j := 7) dL_areFines_125 rfl rfl rfl ?_
      refine wp_iconst (pc' := 128) (5) dL_areFines_127 rfl rfl ?_
      refine wp_icmpF (pc' := 131) 204 dL_areFines_128 rfl rfl (cmpF rfl) ?_
      refine wp_load (pc' := 133) (j := 8) dL_areFines_131 rfl rfl rfl ?_
      refine wp_ifF (pc' := 136) 204 dL_areFines_133 rfl rfl (cmpF rfl) ?_
      refine wp_load (pc' := 138) (j := 9) dL_areFines_136 rfl rfl rfl ?_
      refine wp_ifF (pc' := 141) 204 dL_areFines_138 rfl rfl (cmpF rfl) ?_
      refine wp_load (pc' := 143) (j := 8) dL_areFines_141 rfl rfl rfl ?_
      refine wp_load (pc' := 145) (j := 9) dL_areFines_143 rfl rfl rfl ?_
      refine wp_pure (pc' := 146) dL_areFines_145 rfl rfl ?_
      refine wp_iconst (pc' := 147) (2) dL_areFines_146 rfl rfl ?_
      refine wp_icmpF (pc' := 150) 204 dL_areFines_147 rfl rfl (cmpF rfl) ?_
      refine wp_load (pc' := 151) (j := 0) dL_areFines_150 rfl rfl rfl ?_
      refine wp_load (pc' := 153) (j := 6) dL_areFines_151 rfl rfl rfl ?_
      refine wp_iconst (pc' := 154) (0) dL_areFines_153 rfl rfl ?_
      refine wp_s3 10 60 dL_areFines_154 ml_L_118 (Nat.le_of_ble_eq_true rfl) (by omega) (by omega) ?_
      refine w_fine hT (Nat.le_refl _) (Nat.le_refl _) (nI cc) (f_ans hN (hk5) (w := 0) (by decide) (fv0.trans e41)) ?_
      refine kt_v ?_
      refine wp_load (pc' := 158) (j := 1) dL_areFines_157 rfl rfl rfl ?_
      refine wp_iconst (pc' := 159) (2) dL_areFines_158 rfl rfl ?_
      refine wp_iald (pc' := 160) dL_areFines_159 hg rfl (by decide) (by decide) rfl ?_
      rw [g2]
      refine wp_icmpF (pc' := 163) 204 dL_areFines_160 rfl rfl (cgeF rfl (by omega) (by omega)) ?_
      refine wp_load (pc' := 164) (j := 0) dL_areFines_163 rfl rfl rfl ?_
      refine wp_load (pc' := 166) (j := 6) dL_areFines_164 rfl rfl rfl ?_
      refine wp_iconst (pc' := 167) (2) dL_areFines_166 rfl rfl ?_
      refine wp_s3 10 60 dL_areFines_167 ml_L_118 (Nat.le_of_ble_eq_true rfl) (by omega) (by omega) ?_
      refine w_fine hT (Nat.le_refl _) (Nat.le_refl _) (nI uu) (f_ans hN (hk5) (w := 2) (by decide) (fv2.trans e46)) ?_
      refine kt_v ?_
      refine wp_load (pc' := 171) (j := 1) dL_areFines_170 rfl rfl rfl ?_
      refine wp_iconst (pc' := 172) (0) dL_areFines_171 rfl rfl ?_
      refine wp_iald (pc' := 173) dL_areFines_172 hg rfl (by decide) (by decide) rfl ?_
      rw [g0, et0]
      refine wp_icmpF (pc' := 176) 204 dL_areFines_173 rfl rfl (nI_nlt (by omega) (by omega)) ?_
      refine wp_load (pc' := 178) (j := 6) dL_areFines_176 rfl rfl rfl ?_
      refine wp_if_eq (pc' := 181) 200 dL_areFines_178 rfl rfl (fun h178 => ?_) (fun h178 => ?_)
      · skip
        skip
        refine wp_iconst (pc' := 201) (1) dL_areFines_200 rfl rfl ?_
        refine wp_goto 205 dL_areFines_201 rfl ?_
        refine wp_store (pc' := 207) (j := 5) (ls' := [_, _, _, _, _, _, _, _, _, _]) dL_areFines_205 rfl (Nat.le_of_ble_eq_true rfl) rfl rfl ?_
        refine wp_iinc (pc' := 210) (j := 6) (ls' := [_, _, _, _, _, _, _, _, _, _]) (nI (k + 1)) dL_areFines_207 rfl (nI_1 k) rfl rfl ?_
        refine wp_goto 30 dL_areFines_210 rfl ?_
        rw [eo]
        exact ih _ _ _ _ _ (by omega) (by omega)
      · skip
        have hk1 : 0 < k := Nat.pos_of_ne_zero (fun z => h178 (by rw [z]; rfl))
        obtain ⟨vv, hvu, e46b⟩ := hvv hk1
        refine wp_load (pc' := 182) (j := 0) dL_areFines_181 rfl rfl rfl ?_
        refine wp_load (pc' := 184) (j := 6) dL_areFines_182 rfl rfl rfl ?_
        refine wp_iconst (pc' := 185) (2) dL_areFines_184 rfl rfl ?_
        refine wp_s3 10 60 dL_areFines_185 ml_L_118 (Nat.le_of_ble_eq_true rfl) (by omega) (by omega) ?_
        refine w_fine hT (Nat.le_refl _) (Nat.le_refl _) (nI uu) (f_ans hN (hk5) (w := 2) (by decide) (fv2.trans e46)) ?_
        refine kt_v ?_
        refine wp_load (pc' := 189) (j := 0) dL_areFines_188 rfl rfl rfl ?_
        refine wp_load (pc' := 191) (j := 6) dL_areFines_189 rfl rfl rfl ?_
        refine wp_iconst (pc' := 192) (1) dL_areFines_191 rfl rfl ?_
        refine wp_pure (pc' := 193) dL_areFines_192 rfl rfl ?_
        rw [show nI k - 1 = nI (k - 1) from pk_sub (show 1 ≤ k by omega)]
        refine wp_iconst (pc' := 194) (2) dL_areFines_193 rfl rfl ?_
        refine wp_s3 10 60 dL_areFines_194 ml_L_118 (Nat.le_of_ble_eq_true rfl) (by omega) (by omega) ?_
        refine w_fine hT (Nat.le_refl _) (Nat.le_refl _) (nI vv) (f_ans hN (show k - 1 < N 5 by omega) (w := 2) (by decide) (fv2.trans e46b)) ?_
        refine kt_v ?_
        refine wp_icmpF (pc' := 200) 204 dL_areFines_197 rfl rfl (nI_nlt hvu (by omega)) ?_
        refine wp_iconst (pc' := 201) (1) dL_areFines_200 rfl rfl ?_
        refine wp_goto 205 dL_areFines_201 rfl ?_
        refine wp_store (pc' := 207) (j := 5) (ls' := [_, _, _, _, _, _, _, _, _, _]) dL_areFines_205 rfl (Nat.le_of_ble_eq_true rfl) rfl rfl ?_
        refine wp_iinc (pc' := 210) (j := 6) (ls' := [_, _, _, _, _, _, _, _, _, _]) (nI (k + 1)) dL_areFines_207 rfl (nI_1 k) rfl rfl ?_
        refine wp_goto 30 dL_areFines_210 rfl ?_
        rw [eo]
        exact ih _ _ _ _ _ (by omega) (by omega)
    · skip
      have h47 : σ.2.1 47 k = 4 := z47
      have h50 : σ.2.2 50 k = true := z50
      have h51 : σ.2.2 51 k = false := z51
      have eo : opnF σ k + 0 = opnF σ (k + 1) := by
        simp only [opnF, h50, h51, amoF, h47]
        rfl
      refine wp_load (pc' := 32) (j := 6) dL_areFines_30 rfl rfl rfl ?_
      refine wp_load (pc' := 33) (j := 1) dL_areFines_32 rfl rfl rfl ?_
      refine wp_iconst (pc' := 34) (5) dL_areFines_33 rfl rfl ?_
      refine wp_iald (pc' := 35) dL_areFines_34 hg rfl (by decide) (by decide) rfl ?_
      rw [g5]
      refine wp_icmpF (pc' := 38) 213 dL_areFines_35 rfl rfl (cgeF rfl (by omega) (by omega)) ?_
      refine wp_load (pc' := 40) (j := 5) dL_areFines_38 rfl rfl rfl ?_
      refine wp_ifF (pc' := 43) 213 dL_areFines_40 rfl rfl (cmpF rfl) ?_
      refine wp_load (pc' := 44) (j := 0) dL_areFines_43 rfl rfl rfl ?_
      refine wp_load (pc' := 46) (j := 6) dL_areFines_44 rfl rfl rfl ?_
      refine wp_iconst (pc' := 47) (3) dL_areFines_46 rfl rfl ?_
      refine wp_s3 10 60 dL_areFines_47 ml_L_118 (Nat.le_of_ble_eq_true rfl) (by omega) (by omega) ?_
      refine w_fine hT (Nat.le_refl _) (Nat.le_refl _) (4) (f_ans hN (hk5) (w := 3) (by decide) (fv3.trans h47)) ?_
      refine kt_v ?_
      refine wp_store (pc' := 52) (j := 7) (ls' := [_, _, _, _, _, _, _, _, _, _]) dL_areFines_50 rfl (Nat.le_of_ble_eq_true rfl) rfl rfl ?_
      refine wp_load (pc' := 53) (j := 0) dL_areFines_52 rfl rfl rfl ?_
      refine wp_load (pc' := 55) (j := 6) dL_areFines_53 rfl rfl rfl ?_
      refine wp_iconst (pc' := 56) (4) dL_areFines_55 rfl rfl ?_
      refine wp_s3 10 60 dL_areFines_56 ml_L_118 (Nat.le_of_ble_eq_true rfl) (by omega) (by omega) ?_
      refine w_fine hT (Nat.le_refl _) (Nat.le_refl _) (1) (f_ans hN (hk5) (w := 4) (by decide) (fv4.trans (congrArg b2i h50))) ?_
      refine kt_v ?_
      refine wp_store (pc' := 61) (j := 8) (ls' := [_, _, _, _, _, _, _, _, _, _]) dL_areFines_59 rfl (Nat.le_of_ble_eq_true rfl) rfl rfl ?_
      refine wp_load (pc' := 62) (j := 0) dL_areFines_61 rfl rfl rfl ?_
      refine wp_load (pc' := 64) (j := 6) dL_areFines_62 rfl rfl rfl ?_
      refine wp_iconst (pc' := 65) (5) dL_areFines_64 rfl rfl ?_
      refine wp_s3 10 60 dL_areFines_65 ml_L_118 (Nat.le_of_ble_eq_true rfl) (by omega) (by omega) ?_
      refine w_fine hT (Nat.le_refl _) (Nat.le_refl _) (0) (f_ans hN (hk5) (w := 5) (by decide) (fv5.trans (congrArg b2i h51))) ?_
      refine kt_v ?_
      refine wp_store (pc' := 70) (j := 9) (ls' := [_, _, _, _, _, _, _, _, _, _]) dL_areFines_68 rfl (Nat.le_of_ble_eq_true rfl) rfl rfl ?_
      refine wp_load (pc' := 71) (j := 2) dL_areFines_70 rfl rfl rfl ?_
      refine wp_load (pc' := 73) (j := 8) dL_areFines_71 rfl rfl rfl ?_
      refine wp_load (pc' := 75) (j := 9) dL_areFines_73 rfl rfl rfl ?_
      refine wp_pure (pc' := 76) dL_areFines_75 rfl rfl ?_
      refine wp_ifF (pc' := 79) 83 dL_areFines_76 rfl rfl (cmpF rfl) ?_
      refine wp_iconst (pc' := 80) (0) dL_areFines_79 rfl rfl ?_
      refine wp_goto 118 dL_areFines_80 rfl ?_
      refine wp_pure (pc' := 119) dL_areFines_118 rfl rfl ?_
      refine wp_store (pc' := 120) (j := 2) (ls' := [_, _, _, _, _, _, _, _, _, _]) dL_areFines_119 rfl (Nat.le_of_ble_eq_true rfl) rfl rfl ?_
      refine wp_load (pc' := 122) (j := 7) dL_areFines_120 rfl rfl rfl ?_
      refine wp_ifF (pc' := 125) 204 dL_areFines_122 rfl rfl (cmpF rfl) ?_
      refine wp_load (pc' := 127) (j := 7) dL_areFines_125 rfl rfl rfl ?_
      refine wp_iconst (pc' := 128) (5) dL_areFines_127 rfl rfl ?_
      refine wp_icmpF (pc' := 131) 204 dL_areFines_128 rfl rfl (cmpF rfl) ?_
      refine wp_load (pc' := 133) (j := 8) dL_areFines_131 rfl rfl rfl ?_
      refine wp_ifF (pc' := 136) 204 dL_areFines_133 rfl rfl (cmpF rfl) ?_
      refine wp_load (pc' := 138) (j := 9) dL_areFines_136 rfl rfl rfl ?_
      refine wp_ifF (pc' := 141) 204 dL_areFines_138 rfl rfl (cmpF rfl) ?_
      refine wp_load (pc' := 143) (j := 8) dL_areFines_141 rfl rfl rfl ?_
      refine wp_load (pc' := 145) (j := 9) dL_areFines_143 rfl rfl rfl ?_
      refine wp_pure (pc' := 146) dL_areFines_145 rfl rfl ?_
      refine wp_iconst (pc' := 147) (2) dL_areFines_146 rfl rfl ?_
      refine wp_icmpF (pc' := 150) 204 dL_areFines_147 rfl rfl (cmpF rfl) ?_
      refine wp_load (pc' := 151) (j := 0) dL_areFines_150 rfl rfl rfl ?_
      refine wp_load (pc' := 153) (j := 6) dL_areFines_151 rfl rfl rfl ?_
      refine wp_iconst (pc' := 154) (0) dL_areFines_153 rfl rfl ?_
      refine wp_s3 10 60 dL_areFines_154 ml_L_118 (Nat.le_of_ble_eq_true rfl) (by omega) (by omega) ?_
      refine w_fine hT (Nat.le_refl _) (Nat.le_refl _) (nI cc) (f_ans hN (hk5) (w := 0) (by decide) (fv0.trans e41)) ?_
      refine kt_v ?_
      refine wp_load (pc' := 158) (j := 1) dL_areFines_157 rfl rfl rfl ?_
      refine wp_iconst (pc' := 159) (2) dL_areFines_158 rfl rfl ?_
      refine wp_iald (pc' := 160) dL_areFines_159 hg rfl (by decide) (by decide) rfl ?_
      rw [g2]
      refine wp_icmpF (pc' := 163) 204 dL_areFines_160 rfl rfl (cgeF rfl (by omega) (by omega)) ?_
      refine wp_load (pc' := 164) (j := 0) dL_areFines_163 rfl rfl rfl ?_
      refine wp_load (pc' := 166) (j := 6) dL_areFines_164 rfl rfl rfl ?_
      refine wp_iconst (pc' := 167) (2) dL_areFines_166 rfl rfl ?_
      refine wp_s3 10 60 dL_areFines_167 ml_L_118 (Nat.le_of_ble_eq_true rfl) (by omega) (by omega) ?_
      refine w_fine hT (Nat.le_refl _) (Nat.le_refl _) (nI uu) (f_ans hN (hk5) (w := 2) (by decide) (fv2.trans e46)) ?_
      refine kt_v ?_
      refine wp_load (pc' := 171) (j := 1) dL_areFines_170 rfl rfl rfl ?_
      refine wp_iconst (pc' := 172) (0) dL_areFines_171 rfl rfl ?_
      refine wp_iald (pc' := 173) dL_areFines_172 hg rfl (by decide) (by decide) rfl ?_
      rw [g0, et0]
      refine wp_icmpF (pc' := 176) 204 dL_areFines_173 rfl rfl (nI_nlt (by omega) (by omega)) ?_
      refine wp_load (pc' := 178) (j := 6) dL_areFines_176 rfl rfl rfl ?_
      refine wp_if_eq (pc' := 181) 200 dL_areFines_178 rfl rfl (fun h178 => ?_) (fun h178 => ?_)
      · skip
        skip
        refine wp_iconst (pc' := 201) (1) dL_areFines_200 rfl rfl ?_
        refine wp_goto 205 dL_areFines_201 rfl ?_
        refine wp_store (pc' := 207) (j := 5) (ls' := [_, _, _, _, _, _, _, _, _, _]) dL_areFines_205 rfl (Nat.le_of_ble_eq_true rfl) rfl rfl ?_
        refine wp_iinc (pc' := 210) (j := 6) (ls' := [_, _, _, _, _, _, _, _, _, _]) (nI (k + 1)) dL_areFines_207 rfl (nI_1 k) rfl rfl ?_
        refine wp_goto 30 dL_areFines_210 rfl ?_
        rw [eo]
        exact ih _ _ _ _ _ (by omega) (by omega)
      · skip
        have hk1 : 0 < k := Nat.pos_of_ne_zero (fun z => h178 (by rw [z]; rfl))
        obtain ⟨vv, hvu, e46b⟩ := hvv hk1
        refine wp_load (pc' := 182) (j := 0) dL_areFines_181 rfl rfl rfl ?_
        refine wp_load (pc' := 184) (j := 6) dL_areFines_182 rfl rfl rfl ?_
        refine wp_iconst (pc' := 185) (2) dL_areFines_184 rfl rfl ?_
        refine wp_s3 10 60 dL_areFines_185 ml_L_118 (Nat.le_of_ble_eq_true rfl) (by omega) (by omega) ?_
        refine w_fine hT (Nat.le_refl _) (Nat.le_refl _) (nI uu) (f_ans hN (hk5) (w := 2) (by decide) (fv2.trans e46)) ?_
        refine kt_v ?_
        refine wp_load (pc' := 189) (j := 0) dL_areFines_188 rfl rfl rfl ?_
        refine wp_load (pc' := 191) (j := 6) dL_areFines_189 rfl rfl rfl ?_
        refine wp_iconst (pc' := 192) (1) dL_areFines_191 rfl rfl ?_
        refine wp_pure (pc' := 193) dL_areFines_192 rfl rfl ?_
        rw [show nI k - 1 = nI (k - 1) from pk_sub (show 1 ≤ k by omega)]
        refine wp_iconst (pc' := 194) (2) dL_areFines_193 rfl rfl ?_
        refine wp_s3 10 60 dL_areFines_194 ml_L_118 (Nat.le_of_ble_eq_true rfl) (by omega) (by omega) ?_
        refine w_fine hT (Nat.le_refl _) (Nat.le_refl _) (nI vv) (f_ans hN (show k - 1 < N 5 by omega) (w := 2) (by decide) (fv2.trans e46b)) ?_
        refine kt_v ?_
        refine wp_icmpF (pc' := 200) 204 dL_areFines_197 rfl rfl (nI_nlt hvu (by omega)) ?_
        refine wp_iconst (pc' := 201) (1) dL_areFines_200 rfl rfl ?_
        refine wp_goto 205 dL_areFines_201 rfl ?_
        refine wp_store (pc' := 207) (j := 5) (ls' := [_, _, _, _, _, _, _, _, _, _]) dL_areFines_205 rfl (Nat.le_of_ble_eq_true rfl) rfl rfl ?_
        refine wp_iinc (pc' := 210) (j := 6) (ls' := [_, _, _, _, _, _, _, _, _, _]) (nI (k + 1)) dL_areFines_207 rfl (nI_1 k) rfl rfl ?_
        refine wp_goto 30 dL_areFines_210 rfl ?_
        rw [eo]
        exact ih _ _ _ _ _ (by omega) (by omega)

set_option maxRecDepth 20000 in
set_option maxHeartbeats 2000000 in
theorem t_areFines {E : XE} {d mc ms : Nat} {P : Ps} {own : Nat → Nat} {x T B w : Nat} {σ : MS} {N : Nat → Nat} {G : HP} (hT : TK E own x σ N T G) (hX : XI σ N B w) (hw : w ≤ 60) {ag : Nat} {g : Nat → Int32} (hg : G ag = some (hI 6 g)) (g0 : g 0 = σ.1 0) (g2 : g 2 = nI (N 2)) (g5 : g 5 = nI (N 5)) (hP : P (.inl (some (.int 1))) G) (hB : B ≤ 49999) (hmc : 5000 ≤ mc) (hms : 30000 ≤ ms) : Sp E (d + 13) yL_areFines mc ms [.ref x, .ref ag] G P := by
  have hN := tk_N hT
  have n5 := hN.2.2.2.2.2.1
  refine sp_intro bd_L_areFines (v1_all rfl) (Nat.le_of_ble_eq_true rfl) ?_
  change WX _ _ _ _ _ _ 0 [some (.ref x), some (.ref ag), none, none, none, none, none, none, none, none] [] _ 0 0
  refine wp_iconst (pc' := 1) (0) dL_areFines_0 rfl rfl ?_
  refine wp_store (pc' := 2) (j := 2) (ls' := [_, _, _, _, _, _, _, _, _, _]) dL_areFines_1 rfl (Nat.le_of_ble_eq_true rfl) rfl rfl ?_
  refine wp_iconst (pc' := 3) (0) dL_areFines_2 rfl rfl ?_
  refine wp_store (pc' := 4) (j := 3) (ls' := [_, _, _, _, _, _, _, _, _, _]) dL_areFines_3 rfl (Nat.le_of_ble_eq_true rfl) rfl rfl ?_
  refine wp_iconst (pc' := 5) (0) dL_areFines_4 rfl rfl ?_
  refine wp_store (pc' := 7) (j := 4) (ls' := [_, _, _, _, _, _, _, _, _, _]) dL_areFines_5 rfl (Nat.le_of_ble_eq_true rfl) rfl rfl ?_
  refine wp_load (pc' := 8) (j := 0) dL_areFines_7 rfl rfl rfl ?_
  refine wp_load (pc' := 9) (j := 1) dL_areFines_8 rfl rfl rfl ?_
  refine wp_iconst (pc' := 10) (5) dL_areFines_9 rfl rfl ?_
  refine wp_iald (pc' := 11) dL_areFines_10 hg rfl (by decide) (by decide) rfl ?_
  rw [g5]
  refine wp_iconst (pc' := 12) (0) dL_areFines_11 rfl rfl ?_
  refine wp_s3 10 60 dL_areFines_12 ml_L_118 (Nat.le_of_ble_eq_true rfl) (by omega) (by omega) ?_
  refine w_fine hT (Nat.le_refl _) (Nat.le_refl _) (-1000001) ((rsO_1 (K_fi_1 hN)).symm) ?_
  refine kt_v ?_
  refine wp_ldc (pc' := 17) dL_areFines_15 kw_L_18 rfl ?_
  refine wp_icmpF (pc' := 20) 24 dL_areFines_17 rfl rfl (cmpF rfl) ?_
  refine wp_iconst (pc' := 21) (1) dL_areFines_20 rfl rfl ?_
  refine wp_goto 25 dL_areFines_21 rfl ?_
  refine wp_store (pc' := 27) (j := 5) (ls' := [_, _, _, _, _, _, _, _, _, _]) dL_areFines_25 rfl (Nat.le_of_ble_eq_true rfl) rfl rfl ?_
  refine wp_iconst (pc' := 28) (0) dL_areFines_27 rfl rfl ?_
  refine wp_store (pc' := 30) (j := 6) (ls' := [_, _, _, _, _, _, _, _, _, _]) dL_areFines_28 rfl (Nat.le_of_ble_eq_true rfl) rfl rfl ?_
  exact l_af1 rfl hT hX hw hg g0 g2 g5 hP hB (N 5) 0 (by omega) none none none _ _ (by omega) (by omega)

