set_option maxRecDepth 20000 in
set_option maxHeartbeats 2000000 in
theorem s_in {E : XE} {d mc ms : Nat} {G : HP} {P : Ps} (v lo hi : Int32) (hP : P (.inl (some (.int (b2i (inB v lo hi))))) G) : Sp E (d + 1) yX9_in mc ms [.int v, .int lo, .int hi] G P := by
  refine sp_intro bd_X9_in (v1_all rfl) (Nat.le_of_ble_eq_true rfl) ?_
  change WX _ _ _ _ _ _ 0 [some (.int v), some (.int lo), some (.int hi)] [] _ 0 0
  refine wp_load (pc' := 1) (j := 0) dX9_in_0 rfl rfl rfl ?_
  refine wp_load (pc' := 2) (j := 1) dX9_in_1 rfl rfl rfl ?_
  refine wp_icmp_lt (pc' := 5) 14 dX9_in_2 rfl rfl (fun h2 => ?_) (fun h2 => ?_)
  · skip
    refine wp_iconst (pc' := 15) (0) dX9_in_14 rfl rfl ?_
    refine wp_iret dX9_in_15 rfl rfl ?_
    simpa only [inB, b2i, hasB, h2, Bool.false_eq_true, decide_true, decide_false, Bool.not_true, Bool.not_false, Bool.and_true, Bool.true_and, Bool.and_false, Bool.false_and, Bool.or_true, Bool.true_or, Bool.or_false, Bool.false_or, if_true, if_false, ite_true, ite_false] using hP
  · skip
    refine wp_load (pc' := 6) (j := 0) dX9_in_5 rfl rfl rfl ?_
    refine wp_load (pc' := 7) (j := 2) dX9_in_6 rfl rfl rfl ?_
    refine wp_icmp_gt (pc' := 10) 14 dX9_in_7 rfl rfl (fun h7 => ?_) (fun h7 => ?_)
    · skip
      refine wp_iconst (pc' := 15) (0) dX9_in_14 rfl rfl ?_
      refine wp_iret dX9_in_15 rfl rfl ?_
      simpa only [inB, b2i, hasB, h2, h7, Bool.false_eq_true, decide_true, decide_false, Bool.not_true, Bool.not_false, Bool.and_true, Bool.true_and, Bool.and_false, Bool.false_and, Bool.or_true, Bool.true_or, Bool.or_false, Bool.false_or, if_true, if_false, ite_true, ite_false] using hP
    · skip
      refine wp_iconst (pc' := 11) (1) dX9_in_10 rfl rfl ?_
      refine wp_goto 15 dX9_in_11 rfl ?_
      refine wp_iret dX9_in_15 rfl rfl ?_
      simpa only [inB, b2i, hasB, h2, h7, Bool.false_eq_true, decide_true, decide_false, Bool.not_true, Bool.not_false, Bool.and_true, Bool.true_and, Bool.and_false, Bool.false_and, Bool.or_true, Bool.true_or, Bool.or_false, Bool.false_or, if_true, if_false, ite_true, ite_false] using hP

set_option maxRecDepth 20000 in
set_option maxHeartbeats 2000000 in
theorem s_has {E : XE} {d mc ms : Nat} {G : HP} {P : Ps} (w k : Int32) (hP : P (.inl (some (.int (b2i (hasB w k))))) G) : Sp E (d + 1) yX9_has mc ms [.int w, .int k] G P := by
  refine sp_intro bd_X9_has (v1_all rfl) (Nat.le_of_ble_eq_true rfl) ?_
  change WX _ _ _ _ _ _ 0 [some (.int w), some (.int k)] [] _ 0 0
  refine wp_load (pc' := 1) (j := 0) dX9_has_0 rfl rfl rfl ?_
  refine wp_load (pc' := 2) (j := 1) dX9_has_1 rfl rfl rfl ?_
  refine wp_pure (pc' := 3) dX9_has_2 rfl rfl ?_
  refine wp_iconst (pc' := 4) (1) dX9_has_3 rfl rfl ?_
  refine wp_pure (pc' := 5) dX9_has_4 rfl rfl ?_
  refine wp_iconst (pc' := 6) (1) dX9_has_5 rfl rfl ?_
  refine wp_icmp_ne (pc' := 9) 13 dX9_has_6 rfl rfl (fun h6 => ?_) (fun h6 => ?_)
  · skip
    refine wp_iconst (pc' := 14) (0) dX9_has_13 rfl rfl ?_
    refine wp_iret dX9_has_14 rfl rfl ?_
    simpa only [inB, b2i, hasB, h6, Bool.false_eq_true, decide_true, decide_false, Bool.not_true, Bool.not_false, Bool.and_true, Bool.true_and, Bool.and_false, Bool.false_and, Bool.or_true, Bool.true_or, Bool.or_false, Bool.false_or, if_true, if_false, ite_true, ite_false] using hP
  · skip
    refine wp_iconst (pc' := 10) (1) dX9_has_9 rfl rfl ?_
    refine wp_goto 14 dX9_has_10 rfl ?_
    refine wp_iret dX9_has_14 rfl rfl ?_
    simpa only [inB, b2i, hasB, h6, Bool.false_eq_true, decide_true, decide_false, Bool.not_true, Bool.not_false, Bool.and_true, Bool.true_and, Bool.and_false, Bool.false_and, Bool.or_true, Bool.true_or, Bool.or_false, Bool.false_or, if_true, if_false, ite_true, ite_false] using hP

set_option maxRecDepth 20000 in
set_option maxHeartbeats 2000000 in
theorem s_isStreet {E : XE} {d mc ms : Nat} {G : HP} {P : Ps} (k : Int32) (hP : P (.inl (some (.int (b2i (isStreetB k))))) G) : Sp E (d + 2) yX9_isStreet mc ms [.int k] G P := by
  refine sp_intro bd_X9_isStreet (v1_all rfl) (Nat.le_of_ble_eq_true rfl) ?_
  change WX _ _ _ _ _ _ 0 [some (.int k)] [] _ 0 0
  refine wp_load (pc' := 1) (j := 0) dX9_isStreet_0 rfl rfl rfl ?_
  refine wp_iconst (pc' := 2) (0) dX9_isStreet_1 rfl rfl ?_
  refine wp_iconst (pc' := 3) (3) dX9_isStreet_2 rfl rfl ?_
  refine wp_s3 0 0 dX9_isStreet_3 ml_X9_153 (by decide) (by omega) (by omega) ?_
  refine s_in _ _ _ ?_
  refine kt_v ?_
  refine wp_iret dX9_isStreet_6 rfl nar_b2i ?_
  exact hP

set_option maxRecDepth 20000 in
set_option maxHeartbeats 2000000 in
theorem s_isMetre {E : XE} {d mc ms : Nat} {G : HP} {P : Ps} (k : Int32) (hP : P (.inl (some (.int (b2i (isMetreB k))))) G) : Sp E (d + 2) yX9_isMetre mc ms [.int k] G P := by
  refine sp_intro bd_X9_isMetre (v1_all rfl) (Nat.le_of_ble_eq_true rfl) ?_
  change WX _ _ _ _ _ _ 0 [some (.int k)] [] _ 0 0
  refine wp_load (pc' := 1) (j := 0) dX9_isMetre_0 rfl rfl rfl ?_
  refine wp_iconst (pc' := 2) (0) dX9_isMetre_1 rfl rfl ?_
  refine wp_bipush (pc' := 4) (59) dX9_isMetre_2 rfl rfl ?_
  refine wp_s3 0 0 dX9_isMetre_4 ml_X9_153 (by decide) (by omega) (by omega) ?_
  refine s_in _ _ _ ?_
  refine kt_v ?_
  refine wp_iret dX9_isMetre_7 rfl nar_b2i ?_
  exact hP

set_option maxRecDepth 20000 in
set_option maxHeartbeats 2000000 in
theorem s_isCar {E : XE} {d mc ms : Nat} {G : HP} {P : Ps} {m : Nat} {aM own : Nat → Nat} {σ : MS} (hM : MH m aM own σ G) (k : Int32) (hP : P (.inl (some (.int (b2i (isCarB σ k))))) G) : Sp E (d + 2) yX9_isCar mc ms [.ref m, .int k] G P := by
  obtain ⟨hm, hA, -⟩ := id hM
  refine sp_intro bd_X9_isCar (v1_all rfl) (Nat.le_of_ble_eq_true rfl) ?_
  change WX _ _ _ _ _ _ 0 [some (.ref m), some (.int k)] [] _ 0 0
  refine wp_load (pc' := 1) (j := 1) dX9_isCar_0 rfl rfl rfl ?_
  refine wp_iconst (pc' := 2) (0) dX9_isCar_1 rfl rfl ?_
  refine wp_load (pc' := 3) (j := 0) dX9_isCar_2 rfl rfl rfl ?_
  refine wp_get (pc' := 6) dX9_isCar_3 fl_X9_157 hm rfl rfl ?_
  refine wp_iconst (pc' := 7) (1) dX9_isCar_6 rfl rfl ?_
  refine wp_pure (pc' := 8) dX9_isCar_7 rfl rfl ?_
  refine wp_s3 0 0 dX9_isCar_8 ml_X9_153 (by decide) (by omega) (by omega) ?_
  refine s_in _ _ _ ?_
  refine kt_v ?_
  refine wp_iret dX9_isCar_11 rfl nar_b2i ?_
  exact hP

set_option maxRecDepth 20000 in
set_option maxHeartbeats 2000000 in
theorem s_isFine {E : XE} {d mc ms : Nat} {G : HP} {P : Ps} {m : Nat} {aM own : Nat → Nat} {σ : MS} (hM : MH m aM own σ G) (k : Int32) (hP : P (.inl (some (.int (b2i (isFineB σ k))))) G) : Sp E (d + 2) yX9_isFine mc ms [.ref m, .int k] G P := by
  obtain ⟨hm, hA, -⟩ := id hM
  refine sp_intro bd_X9_isFine (v1_all rfl) (Nat.le_of_ble_eq_true rfl) ?_
  change WX _ _ _ _ _ _ 0 [some (.ref m), some (.int k)] [] _ 0 0
  refine wp_load (pc' := 1) (j := 1) dX9_isFine_0 rfl rfl rfl ?_
  refine wp_iconst (pc' := 2) (0) dX9_isFine_1 rfl rfl ?_
  refine wp_load (pc' := 3) (j := 0) dX9_isFine_2 rfl rfl rfl ?_
  refine wp_get (pc' := 6) dX9_isFine_3 fl_X9_251 hm rfl rfl ?_
  refine wp_iconst (pc' := 7) (1) dX9_isFine_6 rfl rfl ?_
  refine wp_pure (pc' := 8) dX9_isFine_7 rfl rfl ?_
  refine wp_s3 0 0 dX9_isFine_8 ml_X9_153 (by decide) (by omega) (by omega) ?_
  refine s_in _ _ _ ?_
  refine kt_v ?_
  refine wp_iret dX9_isFine_11 rfl nar_b2i ?_
  exact hP

