/-! the class: its small methods -/
theorem in_nI {i n : Nat} (h : i < n) (hn : n < 2 ^ 31) : inB (nI i) 0 (nI n - 1) = true := by
  unfold inB
  obtain ⟨k, rfl⟩ : ∃ k, n = k + 1 := ⟨n - 1, by omega⟩
  rw [nI_pred, decide_eq_false (nI_pos (by omega)), decide_eq_false (nI_nlt (by omega) (by omega))]
  rfl
set_option maxRecDepth 20000 in
set_option maxHeartbeats 2000000 in
theorem c_isIn {E : XE} {d mc ms : Nat} {P : Ps} {G : HP} (v lo hi : Int32) (hP : P (.inl (some (.int (b2i (inB v lo hi))))) G) : Sp E (d + 1) yX8_isIn mc ms [.int v, .int lo, .int hi] G P := by
  refine sp_intro bd_X8_isIn (v1_all rfl) (Nat.le_of_ble_eq_true rfl) ?_
  change WX _ _ _ _ _ _ 0 [some (.int v), some (.int lo), some (.int hi)] [] _ 0 0
  refine wp_load (pc' := 1) (j := 0) dX8_isIn_0 rfl rfl rfl ?_
  refine wp_load (pc' := 2) (j := 1) dX8_isIn_1 rfl rfl rfl ?_
  refine wp_icmp_lt (pc' := 5) 14 dX8_isIn_2 rfl rfl (fun h2 => ?_) (fun h2 => ?_)
  · skip
    refine wp_iconst (pc' := 15) (0) dX8_isIn_14 rfl rfl ?_
    refine wp_iret dX8_isIn_15 rfl rfl ?_
    simpa only [inB, b2i_t, b2i_f, h2, Bool.false_eq_true, decide_true, decide_false, Bool.not_true, Bool.not_false, Bool.and_true, Bool.true_and, Bool.and_false, Bool.false_and, Bool.or_true, Bool.true_or, Bool.or_false, Bool.false_or, if_true, if_false, ite_true, ite_false] using hP
  · skip
    refine wp_load (pc' := 6) (j := 0) dX8_isIn_5 rfl rfl rfl ?_
    refine wp_load (pc' := 7) (j := 2) dX8_isIn_6 rfl rfl rfl ?_
    refine wp_icmp_gt (pc' := 10) 14 dX8_isIn_7 rfl rfl (fun h7 => ?_) (fun h7 => ?_)
    · skip
      refine wp_iconst (pc' := 15) (0) dX8_isIn_14 rfl rfl ?_
      refine wp_iret dX8_isIn_15 rfl rfl ?_
      simpa only [inB, b2i_t, b2i_f, h2, h7, Bool.false_eq_true, decide_true, decide_false, Bool.not_true, Bool.not_false, Bool.and_true, Bool.true_and, Bool.and_false, Bool.false_and, Bool.or_true, Bool.true_or, Bool.or_false, Bool.false_or, if_true, if_false, ite_true, ite_false] using hP
    · skip
      refine wp_iconst (pc' := 11) (1) dX8_isIn_10 rfl rfl ?_
      refine wp_goto 15 dX8_isIn_11 rfl ?_
      refine wp_iret dX8_isIn_15 rfl rfl ?_
      simpa only [inB, b2i_t, b2i_f, h2, h7, Bool.false_eq_true, decide_true, decide_false, Bool.not_true, Bool.not_false, Bool.and_true, Bool.true_and, Bool.and_false, Bool.false_and, Bool.or_true, Bool.true_or, Bool.or_false, Bool.false_or, if_true, if_false, ite_true, ite_false] using hP

theorem inB_ix {x z : Int32} {n : Nat} (hz : z = nI n) (hn : n < 2 ^ 31) : inB x 0 (nI n - 1) = (!decide (x < 0) && !decide (z ≤ x)) := by
  subst hz
  unfold inB
  congr 2
  refine decide_eq_decide.2 ?_
  cases n with
  | zero =>
    show (nI 0 - 1 : Int32) < x ↔ nI 0 ≤ x
    rw [show (nI 0 - 1 : Int32) = -1 from by decide, show nI 0 = 0 from nI_0]
    rw [Int32.lt_iff_toInt_lt, Int32.le_iff_toInt_le]
    show (-1 : Int) < x.toInt ↔ (0 : Int) ≤ x.toInt
    omega
  | succ k =>
    rw [nI_pred, Int32.lt_iff_toInt_lt, Int32.le_iff_toInt_le, nI_toInt (by omega), nI_toInt hn]
    omega
set_option maxRecDepth 20000 in
set_option maxHeartbeats 2000000 in
theorem c_isIndex {E : XE} {d mc ms : Nat} {P : Ps} {G : HP} (v : Int32) {z : Int32} {n : Nat} (hz : z = nI n) (hn : n < 2 ^ 31) (hP : P (.inl (some (.int (b2i (inB v 0 (nI n - 1)))))) G) : Sp E (d + 1) yX8_isIndex mc ms [.int v, .int z] G P := by
  rw [inB_ix hz hn] at hP
  refine sp_intro bd_X8_isIndex (v1_all rfl) (Nat.le_of_ble_eq_true rfl) ?_
  change WX _ _ _ _ _ _ 0 [some (.int v), some (.int z)] [] _ 0 0
  refine wp_load (pc' := 1) (j := 0) dX8_isIndex_0 rfl rfl rfl ?_
  refine wp_if_lt (pc' := 4) 13 dX8_isIndex_1 rfl rfl (fun h1 => ?_) (fun h1 => ?_)
  · skip
    refine wp_iconst (pc' := 14) (0) dX8_isIndex_13 rfl rfl ?_
    refine wp_iret dX8_isIndex_14 rfl rfl ?_
    simpa only [b2i_t, b2i_f, h1, Bool.false_eq_true, decide_true, decide_false, Bool.not_true, Bool.not_false, Bool.and_true, Bool.true_and, Bool.and_false, Bool.false_and, Bool.or_true, Bool.true_or, Bool.or_false, Bool.false_or, if_true, if_false, ite_true, ite_false] using hP
  · skip
    refine wp_load (pc' := 5) (j := 0) dX8_isIndex_4 rfl rfl rfl ?_
    refine wp_load (pc' := 6) (j := 1) dX8_isIndex_5 rfl rfl rfl ?_
    refine wp_icmp_ge (pc' := 9) 13 dX8_isIndex_6 rfl rfl (fun h6 => ?_) (fun h6 => ?_)
    · skip
      refine wp_iconst (pc' := 14) (0) dX8_isIndex_13 rfl rfl ?_
      refine wp_iret dX8_isIndex_14 rfl rfl ?_
      simpa only [b2i_t, b2i_f, h1, h6, Bool.false_eq_true, decide_true, decide_false, Bool.not_true, Bool.not_false, Bool.and_true, Bool.true_and, Bool.and_false, Bool.false_and, Bool.or_true, Bool.true_or, Bool.or_false, Bool.false_or, if_true, if_false, ite_true, ite_false] using hP
    · skip
      refine wp_iconst (pc' := 10) (1) dX8_isIndex_9 rfl rfl ?_
      refine wp_goto 14 dX8_isIndex_10 rfl ?_
      refine wp_iret dX8_isIndex_14 rfl rfl ?_
      simpa only [b2i_t, b2i_f, h1, h6, Bool.false_eq_true, decide_true, decide_false, Bool.not_true, Bool.not_false, Bool.and_true, Bool.true_and, Bool.and_false, Bool.false_and, Bool.or_true, Bool.true_or, Bool.or_false, Bool.false_or, if_true, if_false, ite_true, ite_false] using hP

set_option maxRecDepth 20000 in
set_option maxHeartbeats 2000000 in
theorem c_need1 {E : XE} {d mc ms : Nat} {P : Ps} {G : HP} (hP : P (.inl none) G) : Sp E (d + 1) yX8_need mc ms [.int 1] G P := by
  refine sp_intro bd_X8_need (v1_all rfl) (Nat.le_of_ble_eq_true rfl) ?_
  change WX _ _ _ _ _ _ 0 [some (.int 1)] [] _ 0 0
  refine wp_load (pc' := 1) (j := 0) dX8_need_0 rfl rfl rfl ?_
  refine wp_ifT 15 dX8_need_1 rfl (cmpT rfl) ?_
  refine wp_vret dX8_need_15 rfl ?_
  exact hP

set_option maxRecDepth 20000 in
set_option maxHeartbeats 2000000 in
theorem c_need0 {E : XE} {d mc ms : Nat} {P : Ps} {G : HP} (hmc : 1 ≤ mc) (hms : 6 ≤ ms) (hP : P (.inr "java/lang/IllegalArgumentException") G) : Sp E (d + 6) yX8_need mc ms [.int 0] G P := by
  refine sp_intro bd_X8_need (v1_all rfl) (Nat.le_of_ble_eq_true rfl) ?_
  change WX _ _ _ _ _ _ 0 [some (.int 0)] [] _ 0 0
  refine wp_load (pc' := 1) (j := 0) dX8_need_0 rfl rfl rfl ?_
  refine wp_ifF (pc' := 4) 15 dX8_need_1 rfl rfl (cmpF rfl) ?_
  refine wp_thr dX8_need_4 dX8_need_7 (Or.inr ⟨dX8_need_8, dX8_need_11, dX8_need_14⟩) th_X8_285 rfl (by omega) (Nat.le_of_ble_eq_true rfl) (by omega) (by omega) ?_
  exact hP

set_option maxRecDepth 20000 in
set_option maxHeartbeats 2000000 in
theorem c_needState1 {E : XE} {d mc ms : Nat} {P : Ps} {G : HP} (hP : P (.inl none) G) : Sp E (d + 1) yX8_needState mc ms [.int 1] G P := by
  refine sp_intro bd_X8_needState (v1_all rfl) (Nat.le_of_ble_eq_true rfl) ?_
  change WX _ _ _ _ _ _ 0 [some (.int 1)] [] _ 0 0
  refine wp_load (pc' := 1) (j := 0) dX8_needState_0 rfl rfl rfl ?_
  refine wp_ifT 15 dX8_needState_1 rfl (cmpT rfl) ?_
  refine wp_vret dX8_needState_15 rfl ?_
  exact hP

set_option maxRecDepth 20000 in
set_option maxHeartbeats 2000000 in
theorem c_needState0 {E : XE} {d mc ms : Nat} {P : Ps} {G : HP} (hmc : 1 ≤ mc) (hms : 6 ≤ ms) (hP : P (.inr "java/lang/IllegalStateException") G) : Sp E (d + 6) yX8_needState mc ms [.int 0] G P := by
  refine sp_intro bd_X8_needState (v1_all rfl) (Nat.le_of_ble_eq_true rfl) ?_
  change WX _ _ _ _ _ _ 0 [some (.int 0)] [] _ 0 0
  refine wp_load (pc' := 1) (j := 0) dX8_needState_0 rfl rfl rfl ?_
  refine wp_ifF (pc' := 4) 15 dX8_needState_1 rfl rfl (cmpF rfl) ?_
  refine wp_thr dX8_needState_4 dX8_needState_7 (Or.inr ⟨dX8_needState_8, dX8_needState_11, dX8_needState_14⟩) th_X8_287 rfl (by omega) (Nat.le_of_ble_eq_true rfl) (by omega) (by omega) ?_
  exact hP

set_option maxRecDepth 20000 in
set_option maxHeartbeats 2000000 in
theorem c_needMetre {E : XE} {d mc ms : Nat} {P : Ps} {G : HP} {x : Int32} (hmc : 1 ≤ mc) (hms : 6 ≤ ms) (h0 : isMetreB x = false → P (.inr "java/lang/IndexOutOfBoundsException") G) (h1 : isMetreB x = true → P (.inl none) G) : Sp E (d + 6) yX8_needMetre mc ms [.int x] G P := by
  refine sp_intro bd_X8_needMetre (v1_all rfl) (Nat.le_of_ble_eq_true rfl) ?_
  change WX _ _ _ _ _ _ 0 [some (.int x)] [] _ 0 0
  refine wp_load (pc' := 1) (j := 0) dX8_needMetre_0 rfl rfl rfl ?_
  refine wp_bipush (pc' := 3) (60) dX8_needMetre_1 rfl rfl ?_
  refine wp_s2 0 0 dX8_needMetre_3 ml_X8_111 (Nat.le_of_ble_eq_true rfl) (by omega) (by omega) ?_
  refine c_isIndex x (z := 60) (n := 60) rfl (by decide) ?_
  refine kt_v ?_
  refine wp_ifneB (pc' := 9) 20 dX8_needMetre_6 rfl rfl (fun h6 => ?_) (fun h6 => ?_)
  · skip
    refine wp_vret dX8_needMetre_20 rfl ?_
    exact h1 h6
  · skip
    refine wp_thr dX8_needMetre_9 dX8_needMetre_12 (Or.inr ⟨dX8_needMetre_13, dX8_needMetre_16, dX8_needMetre_19⟩) th_X8_289 rfl (by omega) (Nat.le_of_ble_eq_true rfl) (by omega) (by omega) ?_
    exact h0 h6

set_option maxRecDepth 20000 in
set_option maxHeartbeats 2000000 in
theorem c_carI {E : XE} {d mc ms : Nat} {P : Ps} {G : HP} {a : Nat} {n l u : Int32} (ha : G a = some (hO 1 [.int 0, .int 0, .int 0, .null])) (hP : ∀ G', G' a = some (hO 1 [.int n, .int l, .int u, .null]) → (∀ q, q ≠ a → G' q = G q) → P (.inl none) G') : Sp E (d + 2) yX0_init mc ms [.ref a, .int n, .int l, .int u] G P := by
  refine sp_intro bd_X0_init (v1_all rfl) (Nat.le_of_ble_eq_true rfl) ?_
  change WX _ _ _ _ _ _ 0 [some (.ref a), some (.int n), some (.int l), some (.int u)] [] _ 0 0
  refine wp_load (pc' := 1) (j := 0) dX0_init_0 rfl rfl rfl ?_
  refine wp_obj (pc' := 4) dX0_init_1 ol_X0_1 (Nat.le_of_ble_eq_true rfl) rfl ?_
  refine wp_load (pc' := 5) (j := 0) dX0_init_4 rfl rfl rfl ?_
  refine wp_pure (pc' := 6) dX0_init_5 rfl rfl ?_
  refine wp_put (pc' := 9) (fs' := [_, _, _, _]) dX0_init_6 fl_X0_7 ha (Nat.le_of_ble_eq_true rfl) rfl rfl rfl rfl ?_
  refine wp_load (pc' := 10) (j := 0) dX0_init_9 rfl rfl rfl ?_
  refine wp_load (pc' := 11) (j := 1) dX0_init_10 rfl rfl rfl ?_
  refine wp_putF (pc' := 14) (fs' := [_, _, _, _]) dX0_init_11 fl_X0_13 rfl rfl hu_s (Nat.le_of_ble_eq_true rfl) rfl rfl rfl rfl ?_
  refine wp_load (pc' := 15) (j := 0) dX0_init_14 rfl rfl rfl ?_
  refine wp_load (pc' := 16) (j := 2) dX0_init_15 rfl rfl rfl ?_
  refine wp_putF (pc' := 19) (fs' := [_, _, _, _]) dX0_init_16 fl_X0_17 rfl rfl hu_s (Nat.le_of_ble_eq_true rfl) rfl rfl rfl rfl ?_
  refine wp_load (pc' := 20) (j := 0) dX0_init_19 rfl rfl rfl ?_
  refine wp_load (pc' := 21) (j := 3) dX0_init_20 rfl rfl rfl ?_
  refine wp_putF (pc' := 24) (fs' := [_, _, _, _]) dX0_init_21 fl_X0_20 rfl rfl hu_s (Nat.le_of_ble_eq_true rfl) rfl rfl rfl rfl ?_
  refine wp_vret dX0_init_24 rfl ?_
  exact hP _ hu_s (fun q hq => by simp only [hu_n hq])

set_option maxRecDepth 20000 in
set_option maxHeartbeats 2000000 in
theorem c_fineI {E : XE} {d mc ms : Nat} {P : Ps} {G : HP} {a : Nat} {s : Nat} {q w : Int32} (ha : G a = some (hO 2 [.null, .int 0, .int 0, .int 0, .int 0, .int 0])) (hP : ∀ G', G' a = some (hO 2 [.ref s, .int q, .int w, .int 0, .int 0, .int 0]) → (∀ q, q ≠ a → G' q = G q) → P (.inl none) G') : Sp E (d + 2) yX1_init mc ms [.ref a, .ref s, .int q, .int w] G P := by
  refine sp_intro bd_X1_init (v1_all rfl) (Nat.le_of_ble_eq_true rfl) ?_
  change WX _ _ _ _ _ _ 0 [some (.ref a), some (.ref s), some (.int q), some (.int w)] [] _ 0 0
  refine wp_load (pc' := 1) (j := 0) dX1_init_0 rfl rfl rfl ?_
  refine wp_obj (pc' := 4) dX1_init_1 ol_X1_3 (Nat.le_of_ble_eq_true rfl) rfl ?_
  refine wp_load (pc' := 5) (j := 0) dX1_init_4 rfl rfl rfl ?_
  refine wp_iconst (pc' := 6) (0) dX1_init_5 rfl rfl ?_
  refine wp_put (pc' := 9) (fs' := [_, _, _, _, _, _]) dX1_init_6 fl_X1_9 ha (Nat.le_of_ble_eq_true rfl) rfl rfl rfl rfl ?_
  refine wp_load (pc' := 10) (j := 0) dX1_init_9 rfl rfl rfl ?_
  refine wp_iconst (pc' := 11) (0) dX1_init_10 rfl rfl ?_
  refine wp_put (pc' := 14) (fs' := [_, _, _, _, _, _]) dX1_init_11 fl_X1_15 hu_s (Nat.le_of_ble_eq_true rfl) rfl rfl rfl rfl ?_
  refine wp_load (pc' := 15) (j := 0) dX1_init_14 rfl rfl rfl ?_
  refine wp_iconst (pc' := 16) (0) dX1_init_15 rfl rfl ?_
  refine wp_put (pc' := 19) (fs' := [_, _, _, _, _, _]) dX1_init_16 fl_X1_18 hu_s (Nat.le_of_ble_eq_true rfl) rfl rfl rfl rfl ?_
  refine wp_load (pc' := 20) (j := 0) dX1_init_19 rfl rfl rfl ?_
  refine wp_load (pc' := 21) (j := 1) dX1_init_20 rfl rfl rfl ?_
  refine wp_putF (pc' := 24) (fs' := [_, _, _, _, _, _]) dX1_init_21 fl_X1_21 rfl rfl hu_s (Nat.le_of_ble_eq_true rfl) rfl rfl rfl rfl ?_
  refine wp_load (pc' := 25) (j := 0) dX1_init_24 rfl rfl rfl ?_
  refine wp_load (pc' := 26) (j := 2) dX1_init_25 rfl rfl rfl ?_
  refine wp_putF (pc' := 29) (fs' := [_, _, _, _, _, _]) dX1_init_26 fl_X1_25 rfl rfl hu_s (Nat.le_of_ble_eq_true rfl) rfl rfl rfl rfl ?_
  refine wp_load (pc' := 30) (j := 0) dX1_init_29 rfl rfl rfl ?_
  refine wp_load (pc' := 31) (j := 3) dX1_init_30 rfl rfl rfl ?_
  refine wp_putF (pc' := 34) (fs' := [_, _, _, _, _, _]) dX1_init_31 fl_X1_29 rfl rfl hu_s (Nat.le_of_ble_eq_true rfl) rfl rfl rfl rfl ?_
  refine wp_vret dX1_init_34 rfl ?_
  exact hP _ hu_s (fun q hq => by simp only [hu_n hq])

set_option maxRecDepth 20000 in
set_option maxHeartbeats 2000000 in
theorem c_payI {E : XE} {d mc ms : Nat} {P : Ps} {G : HP} {a : Nat} {c s f q : Int32} (ha : G a = some (hO 3 [.int 0, .int 0, .int 0, .int 0])) (hP : ∀ G', G' a = some (hO 3 [.int c, .int s, .int f, .int q]) → (∀ q, q ≠ a → G' q = G q) → P (.inl none) G') : Sp E (d + 2) yX2_init mc ms [.ref a, .int c, .int s, .int f, .int q] G P := by
  refine sp_intro bd_X2_init (v1_all rfl) (Nat.le_of_ble_eq_true rfl) ?_
  change WX _ _ _ _ _ _ 0 [some (.ref a), some (.int c), some (.int s), some (.int f), some (.int q)] [] _ 0 0
  refine wp_load (pc' := 1) (j := 0) dX2_init_0 rfl rfl rfl ?_
  refine wp_obj (pc' := 4) dX2_init_1 ol_X2_1 (Nat.le_of_ble_eq_true rfl) rfl ?_
  refine wp_load (pc' := 5) (j := 0) dX2_init_4 rfl rfl rfl ?_
  refine wp_load (pc' := 6) (j := 1) dX2_init_5 rfl rfl rfl ?_
  refine wp_putF (pc' := 9) (fs' := [_, _, _, _]) dX2_init_6 fl_X2_7 rfl rfl ha (Nat.le_of_ble_eq_true rfl) rfl rfl rfl rfl ?_
  refine wp_load (pc' := 10) (j := 0) dX2_init_9 rfl rfl rfl ?_
  refine wp_load (pc' := 11) (j := 2) dX2_init_10 rfl rfl rfl ?_
  refine wp_putF (pc' := 14) (fs' := [_, _, _, _]) dX2_init_11 fl_X2_13 rfl rfl hu_s (Nat.le_of_ble_eq_true rfl) rfl rfl rfl rfl ?_
  refine wp_load (pc' := 15) (j := 0) dX2_init_14 rfl rfl rfl ?_
  refine wp_load (pc' := 16) (j := 3) dX2_init_15 rfl rfl rfl ?_
  refine wp_putF (pc' := 19) (fs' := [_, _, _, _]) dX2_init_16 fl_X2_16 rfl rfl hu_s (Nat.le_of_ble_eq_true rfl) rfl rfl rfl rfl ?_
  refine wp_load (pc' := 20) (j := 0) dX2_init_19 rfl rfl rfl ?_
  refine wp_load (pc' := 22) (j := 4) dX2_init_20 rfl rfl rfl ?_
  refine wp_putF (pc' := 25) (fs' := [_, _, _, _]) dX2_init_22 fl_X2_19 rfl rfl hu_s (Nat.le_of_ble_eq_true rfl) rfl rfl rfl rfl ?_
  refine wp_vret dX2_init_25 rfl ?_
  exact hP _ hu_s (fun q hq => by simp only [hu_n hq])

set_option maxRecDepth 20000 in
set_option maxHeartbeats 2000000 in
theorem c_perI {E : XE} {d mc ms : Nat} {P : Ps} {G : HP} {a : Nat} {c s h f t : Int32} (ha : G a = some (hO 4 [.int 0, .int 0, .int 0, .int 0, .int 0])) (hP : ∀ G', G' a = some (hO 4 [.int c, .int s, .int h, .int f, .int t]) → (∀ q, q ≠ a → G' q = G q) → P (.inl none) G') : Sp E (d + 2) yX3_init mc ms [.ref a, .int c, .int s, .int h, .int f, .int t] G P := by
  refine sp_intro bd_X3_init (v1_all rfl) (Nat.le_of_ble_eq_true rfl) ?_
  change WX _ _ _ _ _ _ 0 [some (.ref a), some (.int c), some (.int s), some (.int h), some (.int f), some (.int t)] [] _ 0 0
  refine wp_load (pc' := 1) (j := 0) dX3_init_0 rfl rfl rfl ?_
  refine wp_obj (pc' := 4) dX3_init_1 ol_X3_1 (Nat.le_of_ble_eq_true rfl) rfl ?_
  refine wp_load (pc' := 5) (j := 0) dX3_init_4 rfl rfl rfl ?_
  refine wp_load (pc' := 6) (j := 1) dX3_init_5 rfl rfl rfl ?_
  refine wp_put (pc' := 9) (fs' := [_, _, _, _, _]) dX3_init_6 fl_X3_7 ha (Nat.le_of_ble_eq_true rfl) rfl rfl rfl rfl ?_
  refine wp_load (pc' := 10) (j := 0) dX3_init_9 rfl rfl rfl ?_
  refine wp_load (pc' := 11) (j := 2) dX3_init_10 rfl rfl rfl ?_
  refine wp_putF (pc' := 14) (fs' := [_, _, _, _, _]) dX3_init_11 fl_X3_13 rfl rfl hu_s (Nat.le_of_ble_eq_true rfl) rfl rfl rfl rfl ?_
  refine wp_load (pc' := 15) (j := 0) dX3_init_14 rfl rfl rfl ?_
  refine wp_load (pc' := 16) (j := 3) dX3_init_15 rfl rfl rfl ?_
  refine wp_putF (pc' := 19) (fs' := [_, _, _, _, _]) dX3_init_16 fl_X3_16 rfl rfl hu_s (Nat.le_of_ble_eq_true rfl) rfl rfl rfl rfl ?_
  refine wp_load (pc' := 20) (j := 0) dX3_init_19 rfl rfl rfl ?_
  refine wp_load (pc' := 22) (j := 4) dX3_init_20 rfl rfl rfl ?_
  refine wp_putF (pc' := 25) (fs' := [_, _, _, _, _]) dX3_init_22 fl_X3_19 rfl rfl hu_s (Nat.le_of_ble_eq_true rfl) rfl rfl rfl rfl ?_
  refine wp_load (pc' := 26) (j := 0) dX3_init_25 rfl rfl rfl ?_
  refine wp_load (pc' := 28) (j := 5) dX3_init_26 rfl rfl rfl ?_
  refine wp_putF (pc' := 31) (fs' := [_, _, _, _, _]) dX3_init_28 fl_X3_22 rfl rfl hu_s (Nat.le_of_ble_eq_true rfl) rfl rfl rfl rfl ?_
  refine wp_vret dX3_init_31 rfl ?_
  exact hP _ hu_s (fun q hq => by simp only [hu_n hq])

set_option maxRecDepth 20000 in
set_option maxHeartbeats 2000000 in
theorem c_sgnI {E : XE} {d mc ms : Nat} {P : Ps} {G : HP} {a : Nat} {w : Nat} {n t : Int32} (ha : G a = some (hO 5 [.int 0, .int 0, .null, .int 0, .int 0, .int 0, .int 0, .int 0, .int 0, .int 0, .int 0])) (hP : ∀ G', G' a = some (hO 5 [.int n, .int t, .ref w, .int (-1), .int 0, .int 0, .int 0, .int 0, .int 0, .int 0, .int 0]) → (∀ q, q ≠ a → G' q = G q) → P (.inl none) G') : Sp E (d + 2) yX4_init mc ms [.ref a, .int n, .int t, .ref w] G P := by
  refine sp_intro bd_X4_init (v1_all rfl) (Nat.le_of_ble_eq_true rfl) ?_
  change WX _ _ _ _ _ _ 0 [some (.ref a), some (.int n), some (.int t), some (.ref w)] [] _ 0 0
  refine wp_load (pc' := 1) (j := 0) dX4_init_0 rfl rfl rfl ?_
  refine wp_obj (pc' := 4) dX4_init_1 ol_X4_3 (Nat.le_of_ble_eq_true rfl) rfl ?_
  refine wp_load (pc' := 5) (j := 0) dX4_init_4 rfl rfl rfl ?_
  refine wp_iconst (pc' := 6) (-1) dX4_init_5 rfl rfl ?_
  refine wp_put (pc' := 9) (fs' := [_, _, _, _, _, _, _, _, _, _, _]) dX4_init_6 fl_X4_9 ha (Nat.le_of_ble_eq_true rfl) rfl rfl rfl rfl ?_
  refine wp_load (pc' := 10) (j := 0) dX4_init_9 rfl rfl rfl ?_
  refine wp_load (pc' := 11) (j := 1) dX4_init_10 rfl rfl rfl ?_
  refine wp_putF (pc' := 14) (fs' := [_, _, _, _, _, _, _, _, _, _, _]) dX4_init_11 fl_X4_15 rfl rfl hu_s (Nat.le_of_ble_eq_true rfl) rfl rfl rfl rfl ?_
  refine wp_load (pc' := 15) (j := 0) dX4_init_14 rfl rfl rfl ?_
  refine wp_load (pc' := 16) (j := 2) dX4_init_15 rfl rfl rfl ?_
  refine wp_putF (pc' := 19) (fs' := [_, _, _, _, _, _, _, _, _, _, _]) dX4_init_16 fl_X4_18 rfl rfl hu_s (Nat.le_of_ble_eq_true rfl) rfl rfl rfl rfl ?_
  refine wp_load (pc' := 20) (j := 0) dX4_init_19 rfl rfl rfl ?_
  refine wp_load (pc' := 21) (j := 3) dX4_init_20 rfl rfl rfl ?_
  refine wp_putF (pc' := 24) (fs' := [_, _, _, _, _, _, _, _, _, _, _]) dX4_init_21 fl_X4_21 rfl rfl hu_s (Nat.le_of_ble_eq_true rfl) rfl rfl rfl rfl ?_
  refine wp_vret dX4_init_24 rfl ?_
  exact hP _ hu_s (fun q hq => by simp only [hu_n hq])

set_option maxRecDepth 20000 in
set_option maxHeartbeats 2000000 in
theorem c_stI {E : XE} {d mc ms : Nat} {P : Ps} {G : HP} {a : Nat} {c : Nat} {s mt f : Int32} (ha : G a = some (hO 6 [.null, .int 0, .int 0, .int 0, .int 0])) (hP : ∀ G', G' a = some (hO 6 [.ref c, .int s, .int mt, .int f, .int (-1)]) → (∀ q, q ≠ a → G' q = G q) → P (.inl none) G') : Sp E (d + 2) yX5_init mc ms [.ref a, .ref c, .int s, .int mt, .int f] G P := by
  refine sp_intro bd_X5_init (v1_all rfl) (Nat.le_of_ble_eq_true rfl) ?_
  change WX _ _ _ _ _ _ 0 [some (.ref a), some (.ref c), some (.int s), some (.int mt), some (.int f)] [] _ 0 0
  refine wp_load (pc' := 1) (j := 0) dX5_init_0 rfl rfl rfl ?_
  refine wp_obj (pc' := 4) dX5_init_1 ol_X5_3 (Nat.le_of_ble_eq_true rfl) rfl ?_
  refine wp_load (pc' := 5) (j := 0) dX5_init_4 rfl rfl rfl ?_
  refine wp_iconst (pc' := 6) (-1) dX5_init_5 rfl rfl ?_
  refine wp_put (pc' := 9) (fs' := [_, _, _, _, _]) dX5_init_6 fl_X5_9 ha (Nat.le_of_ble_eq_true rfl) rfl rfl rfl rfl ?_
  refine wp_load (pc' := 10) (j := 0) dX5_init_9 rfl rfl rfl ?_
  refine wp_load (pc' := 11) (j := 1) dX5_init_10 rfl rfl rfl ?_
  refine wp_putF (pc' := 14) (fs' := [_, _, _, _, _]) dX5_init_11 fl_X5_15 rfl rfl hu_s (Nat.le_of_ble_eq_true rfl) rfl rfl rfl rfl ?_
  refine wp_load (pc' := 15) (j := 0) dX5_init_14 rfl rfl rfl ?_
  refine wp_load (pc' := 16) (j := 2) dX5_init_15 rfl rfl rfl ?_
  refine wp_putF (pc' := 19) (fs' := [_, _, _, _, _]) dX5_init_16 fl_X5_19 rfl rfl hu_s (Nat.le_of_ble_eq_true rfl) rfl rfl rfl rfl ?_
  refine wp_load (pc' := 20) (j := 0) dX5_init_19 rfl rfl rfl ?_
  refine wp_load (pc' := 21) (j := 3) dX5_init_20 rfl rfl rfl ?_
  refine wp_putF (pc' := 24) (fs' := [_, _, _, _, _]) dX5_init_21 fl_X5_22 rfl rfl hu_s (Nat.le_of_ble_eq_true rfl) rfl rfl rfl rfl ?_
  refine wp_load (pc' := 25) (j := 0) dX5_init_24 rfl rfl rfl ?_
  refine wp_load (pc' := 27) (j := 4) dX5_init_25 rfl rfl rfl ?_
  refine wp_putF (pc' := 30) (fs' := [_, _, _, _, _]) dX5_init_27 fl_X5_25 rfl rfl hu_s (Nat.le_of_ble_eq_true rfl) rfl rfl rfl rfl ?_
  refine wp_vret dX5_init_30 rfl ?_
  exact hP _ hu_s (fun q hq => by simp only [hu_n hq])

set_option maxRecDepth 20000 in
set_option maxHeartbeats 2000000 in
theorem c_whI {E : XE} {d mc ms : Nat} {P : Ps} {G : HP} {a : Nat}  (ha : G a = some (hO 8 [.int 0, .int 0, .int 0, .int 0, .int 0])) (hP : ∀ G', G' a = some (hO 8 [.int 127, .int 0, .int 96, .int 0, .int 520]) → (∀ q, q ≠ a → G' q = G q) → P (.inl none) G') : Sp E (d + 2) yX7_init mc ms [.ref a] G P := by
  refine sp_intro bd_X7_init (v1_all rfl) (Nat.le_of_ble_eq_true rfl) ?_
  change WX _ _ _ _ _ _ 0 [some (.ref a)] [] _ 0 0
  refine wp_load (pc' := 1) (j := 0) dX7_init_0 rfl rfl rfl ?_
  refine wp_obj (pc' := 4) dX7_init_1 ol_X7_3 (Nat.le_of_ble_eq_true rfl) rfl ?_
  refine wp_load (pc' := 5) (j := 0) dX7_init_4 rfl rfl rfl ?_
  refine wp_bipush (pc' := 7) (127) dX7_init_5 rfl rfl ?_
  refine wp_put (pc' := 10) (fs' := [_, _, _, _, _]) dX7_init_7 fl_X7_9 ha (Nat.le_of_ble_eq_true rfl) rfl rfl rfl rfl ?_
  refine wp_load (pc' := 11) (j := 0) dX7_init_10 rfl rfl rfl ?_
  refine wp_iconst (pc' := 12) (0) dX7_init_11 rfl rfl ?_
  refine wp_put (pc' := 15) (fs' := [_, _, _, _, _]) dX7_init_12 fl_X7_15 hu_s (Nat.le_of_ble_eq_true rfl) rfl rfl rfl rfl ?_
  refine wp_load (pc' := 16) (j := 0) dX7_init_15 rfl rfl rfl ?_
  refine wp_bipush (pc' := 18) (96) dX7_init_16 rfl rfl ?_
  refine wp_put (pc' := 21) (fs' := [_, _, _, _, _]) dX7_init_18 fl_X7_18 hu_s (Nat.le_of_ble_eq_true rfl) rfl rfl rfl rfl ?_
  refine wp_load (pc' := 22) (j := 0) dX7_init_21 rfl rfl rfl ?_
  refine wp_iconst (pc' := 23) (0) dX7_init_22 rfl rfl ?_
  refine wp_put (pc' := 26) (fs' := [_, _, _, _, _]) dX7_init_23 fl_X7_21 hu_s (Nat.le_of_ble_eq_true rfl) rfl rfl rfl rfl ?_
  refine wp_load (pc' := 27) (j := 0) dX7_init_26 rfl rfl rfl ?_
  refine wp_sipush (pc' := 30) (520) dX7_init_27 rfl rfl ?_
  refine wp_put (pc' := 33) (fs' := [_, _, _, _, _]) dX7_init_30 fl_X7_24 hu_s (Nat.le_of_ble_eq_true rfl) rfl rfl rfl rfl ?_
  refine wp_vret dX7_init_33 rfl ?_
  exact hP _ hu_s (fun q hq => by simp only [hu_n hq])

set_option maxRecDepth 20000 in
set_option maxHeartbeats 2000000 in
theorem c_place {E : XE} {d mc ms : Nat} {P : Ps} {G : HP} {a : Nat} {w : Nat} {nu td dn st fr tt us sy fe tm x y z : Int32} (ha : G a = some (hO 5 [.int nu, .int td, .ref w, .int dn, .int st, .int fr, .int tt, .int us, .int sy, .int fe, .int tm])) (hP : ∀ G', G' a = some (hO 5 [.int nu, .int td, .ref w, .int dn, .int x, .int y, .int z, .int us, .int sy, .int fe, .int tm]) → (∀ q, q ≠ a → G' q = G q) → P (.inl none) G') : Sp E (d + 1) yX4_setPlace mc ms [.ref a, .int x, .int y, .int z] G P := by
  refine sp_intro bd_X4_setPlace (v1_all rfl) (Nat.le_of_ble_eq_true rfl) ?_
  change WX _ _ _ _ _ _ 0 [some (.ref a), some (.int x), some (.int y), some (.int z)] [] _ 0 0
  refine wp_load (pc' := 1) (j := 0) dX4_setPlace_0 rfl rfl rfl ?_
  refine wp_load (pc' := 2) (j := 1) dX4_setPlace_1 rfl rfl rfl ?_
  refine wp_put (pc' := 5) (fs' := [_, _, _, _, _, _, _, _, _, _, _]) dX4_setPlace_2 fl_X4_25 ha (Nat.le_of_ble_eq_true rfl) rfl rfl rfl rfl ?_
  refine wp_load (pc' := 6) (j := 0) dX4_setPlace_5 rfl rfl rfl ?_
  refine wp_load (pc' := 7) (j := 2) dX4_setPlace_6 rfl rfl rfl ?_
  refine wp_put (pc' := 10) (fs' := [_, _, _, _, _, _, _, _, _, _, _]) dX4_setPlace_7 fl_X4_28 hu_s (Nat.le_of_ble_eq_true rfl) rfl rfl rfl rfl ?_
  refine wp_load (pc' := 11) (j := 0) dX4_setPlace_10 rfl rfl rfl ?_
  refine wp_load (pc' := 12) (j := 3) dX4_setPlace_11 rfl rfl rfl ?_
  refine wp_put (pc' := 15) (fs' := [_, _, _, _, _, _, _, _, _, _, _]) dX4_setPlace_12 fl_X4_31 hu_s (Nat.le_of_ble_eq_true rfl) rfl rfl rfl rfl ?_
  refine wp_vret dX4_setPlace_15 rfl ?_
  exact hP _ hu_s (fun q hq => by simp only [hu_n hq])

set_option maxRecDepth 20000 in
set_option maxHeartbeats 2000000 in
theorem c_terms {E : XE} {d mc ms : Nat} {P : Ps} {G : HP} {a : Nat} {w : Nat} {f g : Bool} {nu td dn st fr tt us sy fe tm x y : Int32} (ha : G a = some (hO 5 [.int nu, .int td, .ref w, .int dn, .int st, .int fr, .int tt, .int us, .int sy, .int fe, .int tm])) (hP : ∀ G', G' a = some (hO 5 [.int nu, .int td, .ref w, .int dn, .int st, .int fr, .int tt, .int x, .int y, .int (b2i f), .int (b2i g)]) → (∀ q, q ≠ a → G' q = G q) → P (.inl none) G') : Sp E (d + 1) yX4_setTerms mc ms [.ref a, .int x, .int y, .int (b2i f), .int (b2i g)] G P := by
  refine sp_intro bd_X4_setTerms (v1_all rfl) (Nat.le_of_ble_eq_true rfl) ?_
  change WX _ _ _ _ _ _ 0 [some (.ref a), some (.int x), some (.int y), some (.int (b2i f)), some (.int (b2i g))] [] _ 0 0
  refine wp_load (pc' := 1) (j := 0) dX4_setTerms_0 rfl rfl rfl ?_
  refine wp_load (pc' := 2) (j := 1) dX4_setTerms_1 rfl rfl rfl ?_
  refine wp_put (pc' := 5) (fs' := [_, _, _, _, _, _, _, _, _, _, _]) dX4_setTerms_2 fl_X4_34 ha (Nat.le_of_ble_eq_true rfl) rfl rfl rfl rfl ?_
  refine wp_load (pc' := 6) (j := 0) dX4_setTerms_5 rfl rfl rfl ?_
  refine wp_load (pc' := 7) (j := 2) dX4_setTerms_6 rfl rfl rfl ?_
  refine wp_put (pc' := 10) (fs' := [_, _, _, _, _, _, _, _, _, _, _]) dX4_setTerms_7 fl_X4_37 hu_s (Nat.le_of_ble_eq_true rfl) rfl rfl rfl rfl ?_
  refine wp_load (pc' := 11) (j := 0) dX4_setTerms_10 rfl rfl rfl ?_
  refine wp_load (pc' := 12) (j := 3) dX4_setTerms_11 rfl rfl rfl ?_
  refine wp_put (pc' := 15) (fs' := [_, _, _, _, _, _, _, _, _, _, _]) dX4_setTerms_12 fl_X4_40 hu_s (Nat.le_of_ble_eq_true rfl) nar_b2i fit_b2i rfl rfl ?_
  refine wp_load (pc' := 16) (j := 0) dX4_setTerms_15 rfl rfl rfl ?_
  refine wp_load (pc' := 18) (j := 4) dX4_setTerms_16 rfl rfl rfl ?_
  refine wp_put (pc' := 21) (fs' := [_, _, _, _, _, _, _, _, _, _, _]) dX4_setTerms_18 fl_X4_44 hu_s (Nat.le_of_ble_eq_true rfl) nar_b2i fit_b2i rfl rfl ?_
  refine wp_vret dX4_setTerms_21 rfl ?_
  exact hP _ hu_s (fun q hq => by simp only [hu_n hq])

set_option maxRecDepth 20000 in
set_option maxHeartbeats 2000000 in
theorem c_strI {E : XE} {d mc ms : Nat} {P : Ps} {G : HP} {a : Nat} (ha : G a = some (hO 7 [.null, .int 0, .int 0, .int 0, .int 0, .int 0])) (hmc : 1 ≤ mc) (hms : 60 ≤ ms) (hP : ∀ b G', G b = none → G' b = some (hZ 60 (fun _ => 0)) → G' a = some (hO 7 [.ref b, .int 4, .int 0, .int 0, .int 0, .int 0]) → (∀ q, q ≠ a → q ≠ b → G' q = G q) → P (.inl none) G') : Sp E (d + 2) yX6_init mc ms [.ref a] G P := by
  refine sp_intro bd_X6_init (v1_all rfl) (Nat.le_of_ble_eq_true rfl) ?_
  change WX _ _ _ _ _ _ 0 [some (.ref a)] [] _ 0 0
  refine wp_load (pc' := 1) (j := 0) dX6_init_0 rfl rfl rfl ?_
  refine wp_obj (pc' := 4) dX6_init_1 ol_X6_3 (Nat.le_of_ble_eq_true rfl) rfl ?_
  refine wp_load (pc' := 5) (j := 0) dX6_init_4 rfl rfl rfl ?_
  refine wp_bipush (pc' := 7) (60) dX6_init_5 rfl rfl ?_
  refine wp_newA (pc' := 9) 60 dX6_init_7 aw_boolean rfl (by decide) rfl (by decide) (by omega) (by omega) rfl (fun b hb => ?_)
  have hba : b ≠ a := fun e => by rw [e, ha] at hb; exact nomatch hb
  refine wp_putF (pc' := 12) (fs' := [_, _, _, _, _, _]) dX6_init_9 fl_X6_9 rfl rfl ((hu_n hba.symm).trans ha) (Nat.le_of_ble_eq_true rfl) rfl rfl rfl rfl ?_
  refine wp_load (pc' := 13) (j := 0) dX6_init_12 rfl rfl rfl ?_
  refine wp_iconst (pc' := 14) (4) dX6_init_13 rfl rfl ?_
  refine wp_put (pc' := 17) (fs' := [_, _, _, _, _, _]) dX6_init_14 fl_X6_15 hu_s (Nat.le_of_ble_eq_true rfl) rfl rfl rfl rfl ?_
  refine wp_load (pc' := 18) (j := 0) dX6_init_17 rfl rfl rfl ?_
  refine wp_iconst (pc' := 19) (0) dX6_init_18 rfl rfl ?_
  refine wp_put (pc' := 22) (fs' := [_, _, _, _, _, _]) dX6_init_19 fl_X6_19 hu_s (Nat.le_of_ble_eq_true rfl) rfl rfl rfl rfl ?_
  refine wp_load (pc' := 23) (j := 0) dX6_init_22 rfl rfl rfl ?_
  refine wp_iconst (pc' := 24) (0) dX6_init_23 rfl rfl ?_
  refine wp_put (pc' := 27) (fs' := [_, _, _, _, _, _]) dX6_init_24 fl_X6_22 hu_s (Nat.le_of_ble_eq_true rfl) rfl rfl rfl rfl ?_
  refine wp_load (pc' := 28) (j := 0) dX6_init_27 rfl rfl rfl ?_
  refine wp_iconst (pc' := 29) (0) dX6_init_28 rfl rfl ?_
  refine wp_put (pc' := 32) (fs' := [_, _, _, _, _, _]) dX6_init_29 fl_X6_25 hu_s (Nat.le_of_ble_eq_true rfl) rfl rfl rfl rfl ?_
  refine wp_load (pc' := 33) (j := 0) dX6_init_32 rfl rfl rfl ?_
  refine wp_iconst (pc' := 34) (0) dX6_init_33 rfl rfl ?_
  refine wp_put (pc' := 37) (fs' := [_, _, _, _, _, _]) dX6_init_34 fl_X6_28 hu_s (Nat.le_of_ble_eq_true rfl) rfl rfl rfl rfl ?_
  refine wp_vret dX6_init_37 rfl ?_
  exact hP b _ hb (by simp only [hu_n hba]; exact hu_s) hu_s (fun q h1 h2 => by simp only [hu_n h1, hu_n h2])

set_option maxRecDepth 20000 in
set_option maxHeartbeats 2000000 in
theorem c_isBlocked {E : XE} {d mc ms : Nat} {P : Ps} {G : HP} {a b : Nat} {pr tk tt co fi : Int32} (ha : G a = some (hO 7 [.ref b, .int pr, .int tk, .int tt, .int co, .int fi])) {f : Nat → Int32} (hb : G b = some (hZ 60 f)) {i : Nat} {B : Bool} (hi : i < 60) (hf : f i = b2i B) (hP : P (.inl (some (.int (b2i B)))) G) : Sp E (d + 2) yX6_isBlocked mc ms [.ref a, .int (nI i)] G P := by
  refine sp_intro bd_X6_isBlocked (v1_all rfl) (Nat.le_of_ble_eq_true rfl) ?_
  change WX _ _ _ _ _ _ 0 [some (.ref a), some (.int (nI i))] [] _ 0 0
  refine wp_load (pc' := 1) (j := 1) dX6_isBlocked_0 rfl rfl rfl ?_
  refine wp_load (pc' := 2) (j := 0) dX6_isBlocked_1 rfl rfl rfl ?_
  refine wp_get (pc' := 5) dX6_isBlocked_2 fl_X6_9 ha rfl rfl ?_
  refine wp_alen (pc' := 6) dX6_isBlocked_5 hb rfl rfl ?_
  refine wp_s2 0 0 dX6_isBlocked_6 ml_X6_31 (Nat.le_of_ble_eq_true rfl) (by omega) (by omega) ?_
  refine c_isIndex _ (n := 60) rfl (by decide) ?_
  rw [show inB (nI i) 0 (nI 60 - 1) = true from in_nI hi (by decide), b2i_t]
  refine kt_v ?_
  refine wp_ifF (pc' := 12) 25 dX6_isBlocked_9 rfl rfl (cmpF rfl) ?_
  refine wp_load (pc' := 13) (j := 0) dX6_isBlocked_12 rfl rfl rfl ?_
  refine wp_get (pc' := 16) dX6_isBlocked_13 fl_X6_9 ha rfl rfl ?_
  refine wp_load (pc' := 17) (j := 1) dX6_isBlocked_16 rfl rfl rfl ?_
  refine wp_zald (pc' := 18) dX6_isBlocked_17 hb rfl hi (by decide) rfl ?_
  rw [hf]
  refine wp_ifeqB (pc' := 21) 25 dX6_isBlocked_18 rfl rfl (fun h18 => ?_) (fun h18 => ?_)
  · skip
    refine wp_iconst (pc' := 26) (0) dX6_isBlocked_25 rfl rfl ?_
    refine wp_iret dX6_isBlocked_26 rfl rfl ?_
    simpa only [b2i_t, b2i_f, h18, Bool.false_eq_true, decide_true, decide_false, Bool.not_true, Bool.not_false, Bool.and_true, Bool.true_and, Bool.and_false, Bool.false_and, Bool.or_true, Bool.true_or, Bool.or_false, Bool.false_or, if_true, if_false, ite_true, ite_false] using hP
  · skip
    refine wp_iconst (pc' := 22) (1) dX6_isBlocked_21 rfl rfl ?_
    refine wp_goto 26 dX6_isBlocked_22 rfl ?_
    refine wp_iret dX6_isBlocked_26 rfl rfl ?_
    simpa only [b2i_t, b2i_f, h18, Bool.false_eq_true, decide_true, decide_false, Bool.not_true, Bool.not_false, Bool.and_true, Bool.true_and, Bool.and_false, Bool.false_and, Bool.or_true, Bool.true_or, Bool.or_false, Bool.false_or, if_true, if_false, ite_true, ite_false] using hP

set_option maxRecDepth 20000 in
set_option maxHeartbeats 2000000 in
theorem c_setBlocked {E : XE} {d mc ms : Nat} {P : Ps} {G : HP} {a b : Nat} {pr tk tt co fi : Int32} (ha : G a = some (hO 7 [.ref b, .int pr, .int tk, .int tt, .int co, .int fi])) {f : Nat → Int32} (hb : G b = some (hZ 60 f)) {i : Nat} {B : Bool} (hi : i < 60) (hP : P (.inl none) (hu G b (hZ 60 (va_up f i (b2i B))))) : Sp E (d + 2) yX6_setBlocked mc ms [.ref a, .int (nI i), .int (b2i B)] G P := by
  refine sp_intro bd_X6_setBlocked (v1_all rfl) (Nat.le_of_ble_eq_true rfl) ?_
  change WX _ _ _ _ _ _ 0 [some (.ref a), some (.int (nI i)), some (.int (b2i B))] [] _ 0 0
  refine wp_load (pc' := 1) (j := 1) dX6_setBlocked_0 rfl rfl rfl ?_
  refine wp_load (pc' := 2) (j := 0) dX6_setBlocked_1 rfl rfl rfl ?_
  refine wp_get (pc' := 5) dX6_setBlocked_2 fl_X6_9 ha rfl rfl ?_
  refine wp_alen (pc' := 6) dX6_setBlocked_5 hb rfl rfl ?_
  refine wp_s2 0 0 dX6_setBlocked_6 ml_X6_31 (Nat.le_of_ble_eq_true rfl) (by omega) (by omega) ?_
  refine c_isIndex _ (n := 60) rfl (by decide) ?_
  rw [show inB (nI i) 0 (nI 60 - 1) = true from in_nI hi (by decide), b2i_t]
  refine kt_v ?_
  refine wp_ifF (pc' := 12) 19 dX6_setBlocked_9 rfl rfl (cmpF rfl) ?_
  refine wp_load (pc' := 13) (j := 0) dX6_setBlocked_12 rfl rfl rfl ?_
  refine wp_get (pc' := 16) dX6_setBlocked_13 fl_X6_9 ha rfl rfl ?_
  refine wp_load (pc' := 17) (j := 1) dX6_setBlocked_16 rfl rfl rfl ?_
  refine wp_load (pc' := 18) (j := 2) dX6_setBlocked_17 rfl rfl rfl ?_
  refine wp_zast (pc' := 19) dX6_setBlocked_18 hb rfl hi (by decide) (by cases B <;> rfl) rfl ?_
  refine wp_vret dX6_setBlocked_19 rfl ?_
  exact hP

set_option maxRecDepth 20000 in
set_option maxHeartbeats 2000000 in
theorem c_holdsOn {E : XE} {d mc ms : Nat} {P : Ps} {G : HP} {a : Nat} {c s h f t x : Int32} (ha : G a = some (hO 4 [.int c, .int s, .int h, .int f, .int t])) (hP : P (.inl (some (.int (b2i (inB x f t))))) G) : Sp E (d + 1) yX3_holdsOn mc ms [.ref a, .int x] G P := by
  refine sp_intro bd_X3_holdsOn (v1_all rfl) (Nat.le_of_ble_eq_true rfl) ?_
  change WX _ _ _ _ _ _ 0 [some (.ref a), some (.int x)] [] _ 0 0
  refine wp_load (pc' := 1) (j := 1) dX3_holdsOn_0 rfl rfl rfl ?_
  refine wp_load (pc' := 2) (j := 0) dX3_holdsOn_1 rfl rfl rfl ?_
  refine wp_get (pc' := 5) dX3_holdsOn_2 fl_X3_19 ha rfl rfl ?_
  refine wp_icmp_lt (pc' := 8) 20 dX3_holdsOn_5 rfl rfl (fun h5 => ?_) (fun h5 => ?_)
  · skip
    refine wp_iconst (pc' := 21) (0) dX3_holdsOn_20 rfl rfl ?_
    refine wp_iret dX3_holdsOn_21 rfl rfl ?_
    simpa only [inB, b2i_t, b2i_f, h5, Bool.false_eq_true, decide_true, decide_false, Bool.not_true, Bool.not_false, Bool.and_true, Bool.true_and, Bool.and_false, Bool.false_and, Bool.or_true, Bool.true_or, Bool.or_false, Bool.false_or, if_true, if_false, ite_true, ite_false] using hP
  · skip
    refine wp_load (pc' := 9) (j := 1) dX3_holdsOn_8 rfl rfl rfl ?_
    refine wp_load (pc' := 10) (j := 0) dX3_holdsOn_9 rfl rfl rfl ?_
    refine wp_get (pc' := 13) dX3_holdsOn_10 fl_X3_22 ha rfl rfl ?_
    refine wp_icmp_gt (pc' := 16) 20 dX3_holdsOn_13 rfl rfl (fun h13 => ?_) (fun h13 => ?_)
    · skip
      refine wp_iconst (pc' := 21) (0) dX3_holdsOn_20 rfl rfl ?_
      refine wp_iret dX3_holdsOn_21 rfl rfl ?_
      simpa only [inB, b2i_t, b2i_f, h5, h13, Bool.false_eq_true, decide_true, decide_false, Bool.not_true, Bool.not_false, Bool.and_true, Bool.true_and, Bool.and_false, Bool.false_and, Bool.or_true, Bool.true_or, Bool.or_false, Bool.false_or, if_true, if_false, ite_true, ite_false] using hP
    · skip
      refine wp_iconst (pc' := 17) (1) dX3_holdsOn_16 rfl rfl ?_
      refine wp_goto 21 dX3_holdsOn_17 rfl ?_
      refine wp_iret dX3_holdsOn_21 rfl rfl ?_
      simpa only [inB, b2i_t, b2i_f, h5, h13, Bool.false_eq_true, decide_true, decide_false, Bool.not_true, Bool.not_false, Bool.and_true, Bool.true_and, Bool.and_false, Bool.false_and, Bool.or_true, Bool.true_or, Bool.or_false, Bool.false_or, if_true, if_false, ite_true, ite_false] using hP

set_option maxRecDepth 20000 in
set_option maxHeartbeats 2000000 in
theorem c_covers {E : XE} {d mc ms : Nat} {P : Ps} {G : HP} {a : Nat} {c s f q x : Int32} (ha : G a = some (hO 3 [.int c, .int s, .int f, .int q])) (hP : P (.inl (some (.int (b2i (!decide (x < f) && !decide (f + q ≤ x)))))) G) : Sp E (d + 1) yX2_covers mc ms [.ref a, .int x] G P := by
  refine sp_intro bd_X2_covers (v1_all rfl) (Nat.le_of_ble_eq_true rfl) ?_
  change WX _ _ _ _ _ _ 0 [some (.ref a), some (.int x)] [] _ 0 0
  refine wp_load (pc' := 1) (j := 1) dX2_covers_0 rfl rfl rfl ?_
  refine wp_load (pc' := 2) (j := 0) dX2_covers_1 rfl rfl rfl ?_
  refine wp_get (pc' := 5) dX2_covers_2 fl_X2_16 ha rfl rfl ?_
  refine wp_icmp_lt (pc' := 8) 25 dX2_covers_5 rfl rfl (fun h5 => ?_) (fun h5 => ?_)
  · skip
    refine wp_iconst (pc' := 26) (0) dX2_covers_25 rfl rfl ?_
    refine wp_iret dX2_covers_26 rfl rfl ?_
    simpa only [inB, b2i_t, b2i_f, h5, Bool.false_eq_true, decide_true, decide_false, Bool.not_true, Bool.not_false, Bool.and_true, Bool.true_and, Bool.and_false, Bool.false_and, Bool.or_true, Bool.true_or, Bool.or_false, Bool.false_or, if_true, if_false, ite_true, ite_false] using hP
  · skip
    refine wp_load (pc' := 9) (j := 1) dX2_covers_8 rfl rfl rfl ?_
    refine wp_load (pc' := 10) (j := 0) dX2_covers_9 rfl rfl rfl ?_
    refine wp_get (pc' := 13) dX2_covers_10 fl_X2_16 ha rfl rfl ?_
    refine wp_load (pc' := 14) (j := 0) dX2_covers_13 rfl rfl rfl ?_
    refine wp_get (pc' := 17) dX2_covers_14 fl_X2_19 ha rfl rfl ?_
    refine wp_pure (pc' := 18) dX2_covers_17 rfl rfl ?_
    refine wp_icmp_ge (pc' := 21) 25 dX2_covers_18 rfl rfl (fun h18 => ?_) (fun h18 => ?_)
    · skip
      refine wp_iconst (pc' := 26) (0) dX2_covers_25 rfl rfl ?_
      refine wp_iret dX2_covers_26 rfl rfl ?_
      simpa only [inB, b2i_t, b2i_f, h5, h18, Bool.false_eq_true, decide_true, decide_false, Bool.not_true, Bool.not_false, Bool.and_true, Bool.true_and, Bool.and_false, Bool.false_and, Bool.or_true, Bool.true_or, Bool.or_false, Bool.false_or, if_true, if_false, ite_true, ite_false] using hP
    · skip
      refine wp_iconst (pc' := 22) (1) dX2_covers_21 rfl rfl ?_
      refine wp_goto 26 dX2_covers_22 rfl ?_
      refine wp_iret dX2_covers_26 rfl rfl ?_
      simpa only [inB, b2i_t, b2i_f, h5, h18, Bool.false_eq_true, decide_true, decide_false, Bool.not_true, Bool.not_false, Bool.and_true, Bool.true_and, Bool.and_false, Bool.false_and, Bool.or_true, Bool.true_or, Bool.or_false, Bool.false_or, if_true, if_false, ite_true, ite_false] using hP

set_option maxRecDepth 20000 in
set_option maxHeartbeats 2000000 in
theorem c_isOpen {E : XE} {d mc ms : Nat} {P : Ps} {G : HP} {a s : Nat} {q w : Int32} {ap tb pa : Bool} (ha : G a = some (hO 2 [.ref s, .int q, .int w, .int (b2i ap), .int (b2i tb), .int (b2i pa)])) (hP : P (.inl (some (.int (b2i (!pa && !tb))))) G) : Sp E (d + 1) yX1_isOpen mc ms [.ref a] G P := by
  refine sp_intro bd_X1_isOpen (v1_all rfl) (Nat.le_of_ble_eq_true rfl) ?_
  change WX _ _ _ _ _ _ 0 [some (.ref a)] [] _ 0 0
  refine wp_load (pc' := 1) (j := 0) dX1_isOpen_0 rfl rfl rfl ?_
  refine wp_get (pc' := 4) dX1_isOpen_1 fl_X1_18 ha rfl rfl ?_
  refine wp_ifneB (pc' := 7) 18 dX1_isOpen_4 rfl rfl (fun h4 => ?_) (fun h4 => ?_)
  · skip
    refine wp_iconst (pc' := 19) (0) dX1_isOpen_18 rfl rfl ?_
    refine wp_iret dX1_isOpen_19 rfl rfl ?_
    simpa only [inB, b2i_t, b2i_f, h4, Bool.false_eq_true, decide_true, decide_false, Bool.not_true, Bool.not_false, Bool.and_true, Bool.true_and, Bool.and_false, Bool.false_and, Bool.or_true, Bool.true_or, Bool.or_false, Bool.false_or, if_true, if_false, ite_true, ite_false] using hP
  · skip
    refine wp_load (pc' := 8) (j := 0) dX1_isOpen_7 rfl rfl rfl ?_
    refine wp_get (pc' := 11) dX1_isOpen_8 fl_X1_15 ha rfl rfl ?_
    refine wp_ifneB (pc' := 14) 18 dX1_isOpen_11 rfl rfl (fun h11 => ?_) (fun h11 => ?_)
    · skip
      refine wp_iconst (pc' := 19) (0) dX1_isOpen_18 rfl rfl ?_
      refine wp_iret dX1_isOpen_19 rfl rfl ?_
      simpa only [inB, b2i_t, b2i_f, h4, h11, Bool.false_eq_true, decide_true, decide_false, Bool.not_true, Bool.not_false, Bool.and_true, Bool.true_and, Bool.and_false, Bool.false_and, Bool.or_true, Bool.true_or, Bool.or_false, Bool.false_or, if_true, if_false, ite_true, ite_false] using hP
    · skip
      refine wp_iconst (pc' := 15) (1) dX1_isOpen_14 rfl rfl ?_
      refine wp_goto 19 dX1_isOpen_15 rfl ?_
      refine wp_iret dX1_isOpen_19 rfl rfl ?_
      simpa only [inB, b2i_t, b2i_f, h4, h11, Bool.false_eq_true, decide_true, decide_false, Bool.not_true, Bool.not_false, Bool.and_true, Bool.true_and, Bool.and_false, Bool.false_and, Bool.or_true, Bool.true_or, Bool.or_false, Bool.false_or, if_true, if_false, ite_true, ite_false] using hP

set_option maxRecDepth 20000 in
set_option maxHeartbeats 2000000 in
theorem c_amount {E : XE} {d mc ms : Nat} {P : Ps} {G : HP} {a s : Nat} {q w : Int32} (hw : w = 1 ∨ w = 2 ∨ w = 3 ∨ w = 4) {ap tb pa : Bool} (ha : G a = some (hO 2 [.ref s, .int q, .int w, .int (b2i ap), .int (b2i tb), .int (b2i pa)])) (hP : P (.inl (some (.int (if w = 1 then 100 else if w = 2 then 60 else if w = 3 then 30 else 40)))) G) : Sp E (d + 1) yX1_amount mc ms [.ref a] G P := by
  rcases hw with rfl | rfl | rfl | rfl
  · skip
    skip
    refine sp_intro bd_X1_amount (v1_all rfl) (Nat.le_of_ble_eq_true rfl) ?_
    change WX _ _ _ _ _ _ 0 [some (.ref a)] [] _ 0 0
    refine wp_load (pc' := 1) (j := 0) dX1_amount_0 rfl rfl rfl ?_
    refine wp_get (pc' := 4) dX1_amount_1 fl_X1_29 ha rfl rfl ?_
    refine wp_swIn 36 dX1_amount_4 (by decide) (by decide) rfl rfl ?_
    refine wp_bipush (pc' := 38) (100) dX1_amount_36 rfl rfl ?_
    refine wp_iret dX1_amount_38 rfl rfl ?_
    exact hP
  · skip
    skip
    refine sp_intro bd_X1_amount (v1_all rfl) (Nat.le_of_ble_eq_true rfl) ?_
    change WX _ _ _ _ _ _ 0 [some (.ref a)] [] _ 0 0
    refine wp_load (pc' := 1) (j := 0) dX1_amount_0 rfl rfl rfl ?_
    refine wp_get (pc' := 4) dX1_amount_1 fl_X1_29 ha rfl rfl ?_
    refine wp_swIn 39 dX1_amount_4 (by decide) (by decide) rfl rfl ?_
    refine wp_bipush (pc' := 41) (60) dX1_amount_39 rfl rfl ?_
    refine wp_iret dX1_amount_41 rfl rfl ?_
    exact hP
  · skip
    skip
    refine sp_intro bd_X1_amount (v1_all rfl) (Nat.le_of_ble_eq_true rfl) ?_
    change WX _ _ _ _ _ _ 0 [some (.ref a)] [] _ 0 0
    refine wp_load (pc' := 1) (j := 0) dX1_amount_0 rfl rfl rfl ?_
    refine wp_get (pc' := 4) dX1_amount_1 fl_X1_29 ha rfl rfl ?_
    refine wp_swIn 42 dX1_amount_4 (by decide) (by decide) rfl rfl ?_
    refine wp_bipush (pc' := 44) (30) dX1_amount_42 rfl rfl ?_
    refine wp_iret dX1_amount_44 rfl rfl ?_
    exact hP
  · skip
    skip
    refine sp_intro bd_X1_amount (v1_all rfl) (Nat.le_of_ble_eq_true rfl) ?_
    change WX _ _ _ _ _ _ 0 [some (.ref a)] [] _ 0 0
    refine wp_load (pc' := 1) (j := 0) dX1_amount_0 rfl rfl rfl ?_
    refine wp_get (pc' := 4) dX1_amount_1 fl_X1_29 ha rfl rfl ?_
    refine wp_swIn 45 dX1_amount_4 (by decide) (by decide) rfl rfl ?_
    refine wp_bipush (pc' := 47) (40) dX1_amount_45 rfl rfl ?_
    refine wp_iret dX1_amount_47 rfl rfl ?_
    exact hP
set_option maxRecDepth 20000 in
set_option maxHeartbeats 2000000 in
theorem c_isUp {E : XE} {d mc ms : Nat} {P : Ps} {G : HP} {a w : Nat} {nu td dn st fr tt us sy : Int32} {fe tm : Bool} (ha : G a = some (hO 5 [.int nu, .int td, .ref w, .int dn, .int st, .int fr, .int tt, .int us, .int sy, .int (b2i fe), .int (b2i tm)])) {q : Int32} (hP : P (.inl (some (.int (b2i (!decide (q < td) && (decide (dn = -1) || !decide (dn ≤ q))))))) G) : Sp E (d + 1) yX4_isUp mc ms [.ref a, .int q] G P := by
  refine sp_intro bd_X4_isUp (v1_all rfl) (Nat.le_of_ble_eq_true rfl) ?_
  change WX _ _ _ _ _ _ 0 [some (.ref a), some (.int q)] [] _ 0 0
  refine wp_load (pc' := 1) (j := 0) dX4_isUp_0 rfl rfl rfl ?_
  refine wp_get (pc' := 4) dX4_isUp_1 fl_X4_18 ha rfl rfl ?_
  refine wp_load (pc' := 5) (j := 1) dX4_isUp_4 rfl rfl rfl ?_
  refine wp_icmp_gt (pc' := 8) 28 dX4_isUp_5 rfl rfl (fun h5 => ?_) (fun h5 => ?_)
  · skip
    refine wp_iconst (pc' := 29) (0) dX4_isUp_28 rfl rfl ?_
    refine wp_iret dX4_isUp_29 rfl rfl ?_
    simpa only [inB, b2i_t, b2i_f, h5, Bool.false_eq_true, decide_true, decide_false, Bool.not_true, Bool.not_false, Bool.and_true, Bool.true_and, Bool.and_false, Bool.false_and, Bool.or_true, Bool.true_or, Bool.or_false, Bool.false_or, if_true, if_false, ite_true, ite_false] using hP
  · skip
    refine wp_load (pc' := 9) (j := 0) dX4_isUp_8 rfl rfl rfl ?_
    refine wp_get (pc' := 12) dX4_isUp_9 fl_X4_9 ha rfl rfl ?_
    refine wp_iconst (pc' := 13) (-1) dX4_isUp_12 rfl rfl ?_
    refine wp_icmp_eq (pc' := 16) 24 dX4_isUp_13 rfl rfl (fun h13 => ?_) (fun h13 => ?_)
    · skip
      refine wp_iconst (pc' := 25) (1) dX4_isUp_24 rfl rfl ?_
      refine wp_goto 29 dX4_isUp_25 rfl ?_
      refine wp_iret dX4_isUp_29 rfl rfl ?_
      simpa only [inB, b2i_t, b2i_f, h5, h13, Bool.false_eq_true, decide_true, decide_false, Bool.not_true, Bool.not_false, Bool.and_true, Bool.true_and, Bool.and_false, Bool.false_and, Bool.or_true, Bool.true_or, Bool.or_false, Bool.false_or, if_true, if_false, ite_true, ite_false] using hP
    · skip
      refine wp_load (pc' := 17) (j := 0) dX4_isUp_16 rfl rfl rfl ?_
      refine wp_get (pc' := 20) dX4_isUp_17 fl_X4_9 ha rfl rfl ?_
      refine wp_load (pc' := 21) (j := 1) dX4_isUp_20 rfl rfl rfl ?_
      refine wp_icmp_le (pc' := 24) 28 dX4_isUp_21 rfl rfl (fun h21 => ?_) (fun h21 => ?_)
      · skip
        refine wp_iconst (pc' := 29) (0) dX4_isUp_28 rfl rfl ?_
        refine wp_iret dX4_isUp_29 rfl rfl ?_
        simpa only [inB, b2i_t, b2i_f, h5, h13, h21, Bool.false_eq_true, decide_true, decide_false, Bool.not_true, Bool.not_false, Bool.and_true, Bool.true_and, Bool.and_false, Bool.false_and, Bool.or_true, Bool.true_or, Bool.or_false, Bool.false_or, if_true, if_false, ite_true, ite_false] using hP
      · skip
        refine wp_iconst (pc' := 25) (1) dX4_isUp_24 rfl rfl ?_
        refine wp_goto 29 dX4_isUp_25 rfl ?_
        refine wp_iret dX4_isUp_29 rfl rfl ?_
        simpa only [inB, b2i_t, b2i_f, h5, h13, h21, Bool.false_eq_true, decide_true, decide_false, Bool.not_true, Bool.not_false, Bool.and_true, Bool.true_and, Bool.and_false, Bool.false_and, Bool.or_true, Bool.true_or, Bool.or_false, Bool.false_or, if_true, if_false, ite_true, ite_false] using hP

set_option maxRecDepth 20000 in
set_option maxHeartbeats 2000000 in
theorem c_isNoticed {E : XE} {d mc ms : Nat} {P : Ps} {G : HP} {a w : Nat} {nu td dn st fr tt us sy : Int32} {fe tm : Bool} (ha : G a = some (hO 5 [.int nu, .int td, .ref w, .int dn, .int st, .int fr, .int tt, .int us, .int sy, .int (b2i fe), .int (b2i tm)])) {q : Int32} (hP : P (.inl (some (.int (b2i (!tm || !decide (q / 96 < td / 96 + 3)))))) G) : Sp E (d + 1) yX4_isNoticed mc ms [.ref a, .int q] G P := by
  refine sp_intro bd_X4_isNoticed (v1_all rfl) (Nat.le_of_ble_eq_true rfl) ?_
  change WX _ _ _ _ _ _ 0 [some (.ref a), some (.int q)] [] _ 0 0
  refine wp_load (pc' := 1) (j := 0) dX4_isNoticed_0 rfl rfl rfl ?_
  refine wp_get (pc' := 4) dX4_isNoticed_1 fl_X4_44 ha rfl rfl ?_
  refine wp_ifeqB (pc' := 7) 23 dX4_isNoticed_4 rfl rfl (fun h4 => ?_) (fun h4 => ?_)
  · skip
    refine wp_iconst (pc' := 24) (1) dX4_isNoticed_23 rfl rfl ?_
    refine wp_goto 28 dX4_isNoticed_24 rfl ?_
    refine wp_iret dX4_isNoticed_28 rfl rfl ?_
    simpa only [inB, b2i_t, b2i_f, h4, Bool.false_eq_true, decide_true, decide_false, Bool.not_true, Bool.not_false, Bool.and_true, Bool.true_and, Bool.and_false, Bool.false_and, Bool.or_true, Bool.true_or, Bool.or_false, Bool.false_or, if_true, if_false, ite_true, ite_false] using hP
  · skip
    refine wp_load (pc' := 8) (j := 1) dX4_isNoticed_7 rfl rfl rfl ?_
    refine wp_bipush (pc' := 10) (96) dX4_isNoticed_8 rfl rfl ?_
    refine wp_div (pc' := 11) dX4_isNoticed_10 (by decide) rfl ?_
    refine wp_load (pc' := 12) (j := 0) dX4_isNoticed_11 rfl rfl rfl ?_
    refine wp_get (pc' := 15) dX4_isNoticed_12 fl_X4_18 ha rfl rfl ?_
    refine wp_bipush (pc' := 17) (96) dX4_isNoticed_15 rfl rfl ?_
    refine wp_div (pc' := 18) dX4_isNoticed_17 (by decide) rfl ?_
    refine wp_iconst (pc' := 19) (3) dX4_isNoticed_18 rfl rfl ?_
    refine wp_pure (pc' := 20) dX4_isNoticed_19 rfl rfl ?_
    refine wp_icmp_lt (pc' := 23) 27 dX4_isNoticed_20 rfl rfl (fun h20 => ?_) (fun h20 => ?_)
    · skip
      refine wp_iconst (pc' := 28) (0) dX4_isNoticed_27 rfl rfl ?_
      refine wp_iret dX4_isNoticed_28 rfl rfl ?_
      simpa only [inB, b2i_t, b2i_f, h4, h20, Bool.false_eq_true, decide_true, decide_false, Bool.not_true, Bool.not_false, Bool.and_true, Bool.true_and, Bool.and_false, Bool.false_and, Bool.or_true, Bool.true_or, Bool.or_false, Bool.false_or, if_true, if_false, ite_true, ite_false] using hP
    · skip
      refine wp_iconst (pc' := 24) (1) dX4_isNoticed_23 rfl rfl ?_
      refine wp_goto 28 dX4_isNoticed_24 rfl ?_
      refine wp_iret dX4_isNoticed_28 rfl rfl ?_
      simpa only [inB, b2i_t, b2i_f, h4, h20, Bool.false_eq_true, decide_true, decide_false, Bool.not_true, Bool.not_false, Bool.and_true, Bool.true_and, Bool.and_false, Bool.false_and, Bool.or_true, Bool.true_or, Bool.or_false, Bool.false_or, if_true, if_false, ite_true, ite_false] using hP

set_option maxRecDepth 20000 in
set_option maxHeartbeats 2000000 in
theorem c_lets {E : XE} {d mc ms : Nat} {P : Ps} {G : HP} {a w : Nat} {nu td dn st fr tt us sy : Int32} {fe tm : Bool} (ha : G a = some (hO 5 [.int nu, .int td, .ref w, .int dn, .int st, .int fr, .int tt, .int us, .int sy, .int (b2i fe), .int (b2i tm)])) {u : Int32} (hP : P (.inl (some (.int (b2i (hasB us u))))) G) : Sp E (d + 1) yX4_letsStand mc ms [.ref a, .int u] G P := by
  refine sp_intro bd_X4_letsStand (v1_all rfl) (Nat.le_of_ble_eq_true rfl) ?_
  change WX _ _ _ _ _ _ 0 [some (.ref a), some (.int u)] [] _ 0 0
  refine wp_load (pc' := 1) (j := 0) dX4_letsStand_0 rfl rfl rfl ?_
  refine wp_get (pc' := 4) dX4_letsStand_1 fl_X4_34 ha rfl rfl ?_
  refine wp_load (pc' := 5) (j := 1) dX4_letsStand_4 rfl rfl rfl ?_
  refine wp_pure (pc' := 6) dX4_letsStand_5 rfl rfl ?_
  refine wp_iconst (pc' := 7) (1) dX4_letsStand_6 rfl rfl ?_
  refine wp_pure (pc' := 8) dX4_letsStand_7 rfl rfl ?_
  refine wp_iconst (pc' := 9) (1) dX4_letsStand_8 rfl rfl ?_
  refine wp_icmp_ne (pc' := 12) 16 dX4_letsStand_9 rfl rfl (fun h9 => ?_) (fun h9 => ?_)
  · skip
    refine wp_iconst (pc' := 17) (0) dX4_letsStand_16 rfl rfl ?_
    refine wp_iret dX4_letsStand_17 rfl rfl ?_
    simpa only [hasB, b2i_t, b2i_f, h9, Bool.false_eq_true, decide_true, decide_false, Bool.not_true, Bool.not_false, Bool.and_true, Bool.true_and, Bool.and_false, Bool.false_and, Bool.or_true, Bool.true_or, Bool.or_false, Bool.false_or, if_true, if_false, ite_true, ite_false] using hP
  · skip
    refine wp_iconst (pc' := 13) (1) dX4_letsStand_12 rfl rfl ?_
    refine wp_goto 17 dX4_letsStand_13 rfl ?_
    refine wp_iret dX4_letsStand_17 rfl rfl ?_
    simpa only [hasB, b2i_t, b2i_f, h9, Bool.false_eq_true, decide_true, decide_false, Bool.not_true, Bool.not_false, Bool.and_true, Bool.true_and, Bool.and_false, Bool.false_and, Bool.or_true, Bool.true_or, Bool.or_false, Bool.false_or, if_true, if_false, ite_true, ite_false] using hP

set_option maxRecDepth 20000 in
set_option maxHeartbeats 2000000 in
theorem c_has {E : XE} {d mc ms : Nat} {P : Ps} {G : HP} {a : Nat} {wd fq tq fd td q : Int32} (ha : G a = some (hO 8 [.int wd, .int fq, .int tq, .int fd, .int td])) (hP : P (.inl (some (.int (b2i (hasB wd (rem (q / 96) 7) && !decide (rem q 96 < fq) && !decide (tq ≤ rem q 96) && inB (q / 96) fd td))))) G) : Sp E (d + 1) yX7_has mc ms [.ref a, .int q] G P := by
  refine sp_intro bd_X7_has (v1_all rfl) (Nat.le_of_ble_eq_true rfl) ?_
  change WX _ _ _ _ _ _ 0 [some (.ref a), some (.int q), none, none] [] _ 0 0
  refine wp_load (pc' := 1) (j := 1) dX7_has_0 rfl rfl rfl ?_
  refine wp_bipush (pc' := 3) (96) dX7_has_1 rfl rfl ?_
  refine wp_div (pc' := 4) dX7_has_3 (by decide) rfl ?_
  refine wp_store (pc' := 5) (j := 2) (ls' := [_, _, _, _]) dX7_has_4 rfl (Nat.le_of_ble_eq_true rfl) rfl rfl ?_
  refine wp_load (pc' := 6) (j := 1) dX7_has_5 rfl rfl rfl ?_
  refine wp_bipush (pc' := 8) (96) dX7_has_6 rfl rfl ?_
  refine wp_rem (pc' := 9) dX7_has_8 (by decide) rfl ?_
  refine wp_store (pc' := 10) (j := 3) (ls' := [_, _, _, _]) dX7_has_9 rfl (Nat.le_of_ble_eq_true rfl) rfl rfl ?_
  refine wp_load (pc' := 11) (j := 0) dX7_has_10 rfl rfl rfl ?_
  refine wp_get (pc' := 14) dX7_has_11 fl_X7_9 ha rfl rfl ?_
  refine wp_load (pc' := 15) (j := 2) dX7_has_14 rfl rfl rfl ?_
  refine wp_bipush (pc' := 17) (7) dX7_has_15 rfl rfl ?_
  refine wp_rem (pc' := 18) dX7_has_17 (by decide) rfl ?_
  refine wp_pure (pc' := 19) dX7_has_18 rfl rfl ?_
  refine wp_iconst (pc' := 20) (1) dX7_has_19 rfl rfl ?_
  refine wp_pure (pc' := 21) dX7_has_20 rfl rfl ?_
  refine wp_iconst (pc' := 22) (1) dX7_has_21 rfl rfl ?_
  refine wp_icmp_ne (pc' := 25) 61 dX7_has_22 rfl rfl (fun h22 => ?_) (fun h22 => ?_)
  · skip
    refine wp_iconst (pc' := 62) (0) dX7_has_61 rfl rfl ?_
    refine wp_iret dX7_has_62 rfl rfl ?_
    simpa only [hasB, rem, inB, b2i_t, b2i_f, h22, Bool.false_eq_true, decide_true, decide_false, Bool.not_true, Bool.not_false, Bool.and_true, Bool.true_and, Bool.and_false, Bool.false_and, Bool.or_true, Bool.true_or, Bool.or_false, Bool.false_or, if_true, if_false, ite_true, ite_false] using hP
  · skip
    refine wp_load (pc' := 26) (j := 3) dX7_has_25 rfl rfl rfl ?_
    refine wp_load (pc' := 27) (j := 0) dX7_has_26 rfl rfl rfl ?_
    refine wp_get (pc' := 30) dX7_has_27 fl_X7_15 ha rfl rfl ?_
    refine wp_icmp_lt (pc' := 33) 61 dX7_has_30 rfl rfl (fun h30 => ?_) (fun h30 => ?_)
    · skip
      refine wp_iconst (pc' := 62) (0) dX7_has_61 rfl rfl ?_
      refine wp_iret dX7_has_62 rfl rfl ?_
      simpa only [hasB, rem, inB, b2i_t, b2i_f, h22, h30, Bool.false_eq_true, decide_true, decide_false, Bool.not_true, Bool.not_false, Bool.and_true, Bool.true_and, Bool.and_false, Bool.false_and, Bool.or_true, Bool.true_or, Bool.or_false, Bool.false_or, if_true, if_false, ite_true, ite_false] using hP
    · skip
      refine wp_load (pc' := 34) (j := 3) dX7_has_33 rfl rfl rfl ?_
      refine wp_load (pc' := 35) (j := 0) dX7_has_34 rfl rfl rfl ?_
      refine wp_get (pc' := 38) dX7_has_35 fl_X7_18 ha rfl rfl ?_
      refine wp_icmp_ge (pc' := 41) 61 dX7_has_38 rfl rfl (fun h38 => ?_) (fun h38 => ?_)
      · skip
        refine wp_iconst (pc' := 62) (0) dX7_has_61 rfl rfl ?_
        refine wp_iret dX7_has_62 rfl rfl ?_
        simpa only [hasB, rem, inB, b2i_t, b2i_f, h22, h30, h38, Bool.false_eq_true, decide_true, decide_false, Bool.not_true, Bool.not_false, Bool.and_true, Bool.true_and, Bool.and_false, Bool.false_and, Bool.or_true, Bool.true_or, Bool.or_false, Bool.false_or, if_true, if_false, ite_true, ite_false] using hP
      · skip
        refine wp_load (pc' := 42) (j := 2) dX7_has_41 rfl rfl rfl ?_
        refine wp_load (pc' := 43) (j := 0) dX7_has_42 rfl rfl rfl ?_
        refine wp_get (pc' := 46) dX7_has_43 fl_X7_21 ha rfl rfl ?_
        refine wp_icmp_lt (pc' := 49) 61 dX7_has_46 rfl rfl (fun h46 => ?_) (fun h46 => ?_)
        · skip
          refine wp_iconst (pc' := 62) (0) dX7_has_61 rfl rfl ?_
          refine wp_iret dX7_has_62 rfl rfl ?_
          simpa only [hasB, rem, inB, b2i_t, b2i_f, h22, h30, h38, h46, Bool.false_eq_true, decide_true, decide_false, Bool.not_true, Bool.not_false, Bool.and_true, Bool.true_and, Bool.and_false, Bool.false_and, Bool.or_true, Bool.true_or, Bool.or_false, Bool.false_or, if_true, if_false, ite_true, ite_false] using hP
        · skip
          refine wp_load (pc' := 50) (j := 2) dX7_has_49 rfl rfl rfl ?_
          refine wp_load (pc' := 51) (j := 0) dX7_has_50 rfl rfl rfl ?_
          refine wp_get (pc' := 54) dX7_has_51 fl_X7_24 ha rfl rfl ?_
          refine wp_icmp_gt (pc' := 57) 61 dX7_has_54 rfl rfl (fun h54 => ?_) (fun h54 => ?_)
          · skip
            refine wp_iconst (pc' := 62) (0) dX7_has_61 rfl rfl ?_
            refine wp_iret dX7_has_62 rfl rfl ?_
            simpa only [hasB, rem, inB, b2i_t, b2i_f, h22, h30, h38, h46, h54, Bool.false_eq_true, decide_true, decide_false, Bool.not_true, Bool.not_false, Bool.and_true, Bool.true_and, Bool.and_false, Bool.false_and, Bool.or_true, Bool.true_or, Bool.or_false, Bool.false_or, if_true, if_false, ite_true, ite_false] using hP
          · skip
            refine wp_iconst (pc' := 58) (1) dX7_has_57 rfl rfl ?_
            refine wp_goto 62 dX7_has_58 rfl ?_
            refine wp_iret dX7_has_62 rfl rfl ?_
            simpa only [hasB, rem, inB, b2i_t, b2i_f, h22, h30, h38, h46, h54, Bool.false_eq_true, decide_true, decide_false, Bool.not_true, Bool.not_false, Bool.and_true, Bool.true_and, Bool.and_false, Bool.false_and, Bool.or_true, Bool.true_or, Bool.or_false, Bool.false_or, if_true, if_false, ite_true, ite_false] using hP

set_option maxRecDepth 20000 in
set_option maxHeartbeats 2000000 in
theorem c_ahead {E : XE} {d mc ms : Nat} {P : Ps} {G : HP} {a w : Nat} {nu td dn st fr tt us sy : Int32} {fe tm : Bool} (ha : G a = some (hO 5 [.int nu, .int td, .ref w, .int dn, .int st, .int fr, .int tt, .int us, .int sy, .int (b2i fe), .int (b2i tm)])) {a2 w2 : Nat} {nu2 td2 dn2 st2 fr2 tt2 us2 sy2 : Int32} {fe2 tm2 : Bool} (ha2 : G a2 = some (hO 5 [.int nu2, .int td2, .ref w2, .int dn2, .int st2, .int fr2, .int tt2, .int us2, .int sy2, .int (b2i fe2), .int (b2i tm2)])) (hP : P (.inl (some (.int (b2i (if b2i tm = b2i tm2 then (if tt - fr = tt2 - fr2 then !decide (nu ≤ nu2) else !decide (tt2 - fr2 ≤ tt - fr)) else tm))))) G) : Sp E (d + 1) yX4_goesAheadOf mc ms [.ref a, .ref a2] G P := by
  refine sp_intro bd_X4_goesAheadOf (v1_all rfl) (Nat.le_of_ble_eq_true rfl) ?_
  change WX _ _ _ _ _ _ 0 [some (.ref a), some (.ref a2)] [] _ 0 0
  refine wp_load (pc' := 1) (j := 0) dX4_goesAheadOf_0 rfl rfl rfl ?_
  refine wp_get (pc' := 4) dX4_goesAheadOf_1 fl_X4_44 ha rfl rfl ?_
  refine wp_load (pc' := 5) (j := 1) dX4_goesAheadOf_4 rfl rfl rfl ?_
  refine wp_get (pc' := 8) dX4_goesAheadOf_5 fl_X4_44 ha2 rfl rfl ?_
  refine wp_icmp_eq (pc' := 11) 16 dX4_goesAheadOf_8 rfl rfl (fun h8 => ?_) (fun h8 => ?_)
  · skip
    refine wp_load (pc' := 17) (j := 0) dX4_goesAheadOf_16 rfl rfl rfl ?_
    refine wp_get (pc' := 20) dX4_goesAheadOf_17 fl_X4_31 ha rfl rfl ?_
    refine wp_load (pc' := 21) (j := 0) dX4_goesAheadOf_20 rfl rfl rfl ?_
    refine wp_get (pc' := 24) dX4_goesAheadOf_21 fl_X4_28 ha rfl rfl ?_
    refine wp_pure (pc' := 25) dX4_goesAheadOf_24 rfl rfl ?_
    refine wp_load (pc' := 26) (j := 1) dX4_goesAheadOf_25 rfl rfl rfl ?_
    refine wp_get (pc' := 29) dX4_goesAheadOf_26 fl_X4_31 ha2 rfl rfl ?_
    refine wp_load (pc' := 30) (j := 1) dX4_goesAheadOf_29 rfl rfl rfl ?_
    refine wp_get (pc' := 33) dX4_goesAheadOf_30 fl_X4_28 ha2 rfl rfl ?_
    refine wp_pure (pc' := 34) dX4_goesAheadOf_33 rfl rfl ?_
    refine wp_icmp_eq (pc' := 37) 64 dX4_goesAheadOf_34 rfl rfl (fun h34 => ?_) (fun h34 => ?_)
    · skip
      refine wp_load (pc' := 65) (j := 0) dX4_goesAheadOf_64 rfl rfl rfl ?_
      refine wp_get (pc' := 68) dX4_goesAheadOf_65 fl_X4_15 ha rfl rfl ?_
      refine wp_load (pc' := 69) (j := 1) dX4_goesAheadOf_68 rfl rfl rfl ?_
      refine wp_get (pc' := 72) dX4_goesAheadOf_69 fl_X4_15 ha2 rfl rfl ?_
      refine wp_icmp_le (pc' := 75) 79 dX4_goesAheadOf_72 rfl rfl (fun h72 => ?_) (fun h72 => ?_)
      · skip
        refine wp_iconst (pc' := 80) (0) dX4_goesAheadOf_79 rfl rfl ?_
        refine wp_iret dX4_goesAheadOf_80 rfl rfl ?_
        simpa only [inB, b2i_t, b2i_f, h8, h34, h72, Bool.false_eq_true, decide_true, decide_false, Bool.not_true, Bool.not_false, Bool.and_true, Bool.true_and, Bool.and_false, Bool.false_and, Bool.or_true, Bool.true_or, Bool.or_false, Bool.false_or, if_true, if_false, ite_true, ite_false] using hP
      · skip
        refine wp_iconst (pc' := 76) (1) dX4_goesAheadOf_75 rfl rfl ?_
        refine wp_goto 80 dX4_goesAheadOf_76 rfl ?_
        refine wp_iret dX4_goesAheadOf_80 rfl rfl ?_
        simpa only [inB, b2i_t, b2i_f, h8, h34, h72, Bool.false_eq_true, decide_true, decide_false, Bool.not_true, Bool.not_false, Bool.and_true, Bool.true_and, Bool.and_false, Bool.false_and, Bool.or_true, Bool.true_or, Bool.or_false, Bool.false_or, if_true, if_false, ite_true, ite_false] using hP
    · skip
      refine wp_load (pc' := 38) (j := 0) dX4_goesAheadOf_37 rfl rfl rfl ?_
      refine wp_get (pc' := 41) dX4_goesAheadOf_38 fl_X4_31 ha rfl rfl ?_
      refine wp_load (pc' := 42) (j := 0) dX4_goesAheadOf_41 rfl rfl rfl ?_
      refine wp_get (pc' := 45) dX4_goesAheadOf_42 fl_X4_28 ha rfl rfl ?_
      refine wp_pure (pc' := 46) dX4_goesAheadOf_45 rfl rfl ?_
      refine wp_load (pc' := 47) (j := 1) dX4_goesAheadOf_46 rfl rfl rfl ?_
      refine wp_get (pc' := 50) dX4_goesAheadOf_47 fl_X4_31 ha2 rfl rfl ?_
      refine wp_load (pc' := 51) (j := 1) dX4_goesAheadOf_50 rfl rfl rfl ?_
      refine wp_get (pc' := 54) dX4_goesAheadOf_51 fl_X4_28 ha2 rfl rfl ?_
      refine wp_pure (pc' := 55) dX4_goesAheadOf_54 rfl rfl ?_
      refine wp_icmp_ge (pc' := 58) 62 dX4_goesAheadOf_55 rfl rfl (fun h55 => ?_) (fun h55 => ?_)
      · skip
        refine wp_iconst (pc' := 63) (0) dX4_goesAheadOf_62 rfl rfl ?_
        refine wp_iret dX4_goesAheadOf_63 rfl rfl ?_
        simpa only [inB, b2i_t, b2i_f, h8, h34, h55, Bool.false_eq_true, decide_true, decide_false, Bool.not_true, Bool.not_false, Bool.and_true, Bool.true_and, Bool.and_false, Bool.false_and, Bool.or_true, Bool.true_or, Bool.or_false, Bool.false_or, if_true, if_false, ite_true, ite_false] using hP
      · skip
        refine wp_iconst (pc' := 59) (1) dX4_goesAheadOf_58 rfl rfl ?_
        refine wp_goto 63 dX4_goesAheadOf_59 rfl ?_
        refine wp_iret dX4_goesAheadOf_63 rfl rfl ?_
        simpa only [inB, b2i_t, b2i_f, h8, h34, h55, Bool.false_eq_true, decide_true, decide_false, Bool.not_true, Bool.not_false, Bool.and_true, Bool.true_and, Bool.and_false, Bool.false_and, Bool.or_true, Bool.true_or, Bool.or_false, Bool.false_or, if_true, if_false, ite_true, ite_false] using hP
  · skip
    refine wp_load (pc' := 12) (j := 0) dX4_goesAheadOf_11 rfl rfl rfl ?_
    refine wp_get (pc' := 15) dX4_goesAheadOf_12 fl_X4_44 ha rfl rfl ?_
    refine wp_iret dX4_goesAheadOf_15 rfl nar_b2i ?_
    simpa only [inB, b2i_t, b2i_f, h8, Bool.false_eq_true, decide_true, decide_false, Bool.not_true, Bool.not_false, Bool.and_true, Bool.true_and, Bool.and_false, Bool.false_and, Bool.or_true, Bool.true_or, Bool.or_false, Bool.false_or, if_true, if_false, ite_true, ite_false] using hP

set_option maxRecDepth 20000 in
set_option maxHeartbeats 2000000 in
theorem c_holdsAt {E : XE} {d mc ms : Nat} {P : Ps} {G : HP} {a w : Nat} {nu td dn st fr tt us sy : Int32} {fe tm : Bool} (ha : G a = some (hO 5 [.int nu, .int td, .ref w, .int dn, .int st, .int fr, .int tt, .int us, .int sy, .int (b2i fe), .int (b2i tm)])) {s mt q wd fq tq fd tdd : Int32} (hw : G w = some (hO 8 [.int wd, .int fq, .int tq, .int fd, .int tdd])) (hP : P (.inl (some (.int (b2i (decide (st = s) && (!decide (mt < fr) && !decide (tt < mt)) && (!decide (q < td) && (decide (dn = -1) || !decide (dn ≤ q))) && (!tm || !decide (q / 96 < td / 96 + 3)) && (hasB wd (rem (q / 96) 7) && !decide (rem q 96 < fq) && !decide (tq ≤ rem q 96) && inB (q / 96) fd tdd)))))) G) : Sp E (d + 2) yX4_holdsAt mc ms [.ref a, .int s, .int mt, .int q] G P := by
  refine sp_intro bd_X4_holdsAt (v1_all rfl) (Nat.le_of_ble_eq_true rfl) ?_
  change WX _ _ _ _ _ _ 0 [some (.ref a), some (.int s), some (.int mt), some (.int q)] [] _ 0 0
  refine wp_load (pc' := 1) (j := 0) dX4_holdsAt_0 rfl rfl rfl ?_
  refine wp_get (pc' := 4) dX4_holdsAt_1 fl_X4_25 ha rfl rfl ?_
  refine wp_load (pc' := 5) (j := 1) dX4_holdsAt_4 rfl rfl rfl ?_
  refine wp_icmp_ne (pc' := 8) 55 dX4_holdsAt_5 rfl rfl (fun h5 => ?_) (fun h5 => ?_)
  · skip
    refine wp_iconst (pc' := 56) (0) dX4_holdsAt_55 rfl rfl ?_
    refine wp_iret dX4_holdsAt_56 rfl rfl ?_
    simpa only [b2i_t, b2i_f, h5, Bool.false_eq_true, decide_true, decide_false, Bool.not_true, Bool.not_false, Bool.and_true, Bool.true_and, Bool.and_false, Bool.false_and, Bool.or_true, Bool.true_or, Bool.or_false, Bool.false_or, if_true, if_false, ite_true, ite_false] using hP
  · skip
    refine wp_load (pc' := 9) (j := 2) dX4_holdsAt_8 rfl rfl rfl ?_
    refine wp_load (pc' := 10) (j := 0) dX4_holdsAt_9 rfl rfl rfl ?_
    refine wp_get (pc' := 13) dX4_holdsAt_10 fl_X4_28 ha rfl rfl ?_
    refine wp_icmp_lt (pc' := 16) 55 dX4_holdsAt_13 rfl rfl (fun h13 => ?_) (fun h13 => ?_)
    · skip
      refine wp_iconst (pc' := 56) (0) dX4_holdsAt_55 rfl rfl ?_
      refine wp_iret dX4_holdsAt_56 rfl rfl ?_
      simpa only [b2i_t, b2i_f, h5, h13, Bool.false_eq_true, decide_true, decide_false, Bool.not_true, Bool.not_false, Bool.and_true, Bool.true_and, Bool.and_false, Bool.false_and, Bool.or_true, Bool.true_or, Bool.or_false, Bool.false_or, if_true, if_false, ite_true, ite_false] using hP
    · skip
      refine wp_load (pc' := 17) (j := 2) dX4_holdsAt_16 rfl rfl rfl ?_
      refine wp_load (pc' := 18) (j := 0) dX4_holdsAt_17 rfl rfl rfl ?_
      refine wp_get (pc' := 21) dX4_holdsAt_18 fl_X4_31 ha rfl rfl ?_
      refine wp_icmp_gt (pc' := 24) 55 dX4_holdsAt_21 rfl rfl (fun h21 => ?_) (fun h21 => ?_)
      · skip
        refine wp_iconst (pc' := 56) (0) dX4_holdsAt_55 rfl rfl ?_
        refine wp_iret dX4_holdsAt_56 rfl rfl ?_
        simpa only [b2i_t, b2i_f, h5, h13, h21, Bool.false_eq_true, decide_true, decide_false, Bool.not_true, Bool.not_false, Bool.and_true, Bool.true_and, Bool.and_false, Bool.false_and, Bool.or_true, Bool.true_or, Bool.or_false, Bool.false_or, if_true, if_false, ite_true, ite_false] using hP
      · skip
        refine wp_load (pc' := 25) (j := 0) dX4_holdsAt_24 rfl rfl rfl ?_
        refine wp_load (pc' := 26) (j := 3) dX4_holdsAt_25 rfl rfl rfl ?_
        refine wp_v1 0 0 dX4_holdsAt_26 ml_X4_47 ha (Nat.le_of_ble_eq_true rfl) (by omega) (by omega) ?_
        refine c_isUp ha ?_
        refine kt_v ?_
        refine wp_ifeqB (pc' := 32) 55 dX4_holdsAt_29 rfl rfl (fun h29 => ?_) (fun h29 => ?_)
        · skip
          refine wp_iconst (pc' := 56) (0) dX4_holdsAt_55 rfl rfl ?_
          refine wp_iret dX4_holdsAt_56 rfl rfl ?_
          simpa only [b2i_t, b2i_f, h5, h13, h21, h29, Bool.false_eq_true, decide_true, decide_false, Bool.not_true, Bool.not_false, Bool.and_true, Bool.true_and, Bool.and_false, Bool.false_and, Bool.or_true, Bool.true_or, Bool.or_false, Bool.false_or, if_true, if_false, ite_true, ite_false] using hP
        · skip
          refine wp_load (pc' := 33) (j := 0) dX4_holdsAt_32 rfl rfl rfl ?_
          refine wp_load (pc' := 34) (j := 3) dX4_holdsAt_33 rfl rfl rfl ?_
          refine wp_v1 0 0 dX4_holdsAt_34 ml_X4_51 ha (Nat.le_of_ble_eq_true rfl) (by omega) (by omega) ?_
          refine c_isNoticed ha ?_
          refine kt_v ?_
          refine wp_ifeqB (pc' := 40) 55 dX4_holdsAt_37 rfl rfl (fun h37 => ?_) (fun h37 => ?_)
          · skip
            refine wp_iconst (pc' := 56) (0) dX4_holdsAt_55 rfl rfl ?_
            refine wp_iret dX4_holdsAt_56 rfl rfl ?_
            simpa only [b2i_t, b2i_f, h5, h13, h21, h29, h37, Bool.false_eq_true, decide_true, decide_false, Bool.not_true, Bool.not_false, Bool.and_true, Bool.true_and, Bool.and_false, Bool.false_and, Bool.or_true, Bool.true_or, Bool.or_false, Bool.false_or, if_true, if_false, ite_true, ite_false] using hP
          · skip
            refine wp_load (pc' := 41) (j := 0) dX4_holdsAt_40 rfl rfl rfl ?_
            refine wp_get (pc' := 44) dX4_holdsAt_41 fl_X4_21 ha rfl rfl ?_
            refine wp_load (pc' := 45) (j := 3) dX4_holdsAt_44 rfl rfl rfl ?_
            refine wp_v1 0 0 dX4_holdsAt_45 ml_X4_54 hw (Nat.le_of_ble_eq_true rfl) (by omega) (by omega) ?_
            refine c_has hw ?_
            refine kt_v ?_
            refine wp_ifeqB (pc' := 51) 55 dX4_holdsAt_48 rfl rfl (fun h48 => ?_) (fun h48 => ?_)
            · skip
              refine wp_iconst (pc' := 56) (0) dX4_holdsAt_55 rfl rfl ?_
              refine wp_iret dX4_holdsAt_56 rfl rfl ?_
              simpa only [b2i_t, b2i_f, h5, h13, h21, h29, h37, h48, Bool.false_eq_true, decide_true, decide_false, Bool.not_true, Bool.not_false, Bool.and_true, Bool.true_and, Bool.and_false, Bool.false_and, Bool.or_true, Bool.true_or, Bool.or_false, Bool.false_or, if_true, if_false, ite_true, ite_false] using hP
            · skip
              refine wp_iconst (pc' := 52) (1) dX4_holdsAt_51 rfl rfl ?_
              refine wp_goto 56 dX4_holdsAt_52 rfl ?_
              refine wp_iret dX4_holdsAt_56 rfl rfl ?_
              simpa only [b2i_t, b2i_f, h5, h13, h21, h29, h37, h48, Bool.false_eq_true, decide_true, decide_false, Bool.not_true, Bool.not_false, Bool.and_true, Bool.true_and, Bool.and_false, Bool.false_and, Bool.or_true, Bool.true_or, Bool.or_false, Bool.false_or, if_true, if_false, ite_true, ite_false] using hP

set_option maxRecDepth 20000 in
set_option maxHeartbeats 2000000 in
theorem c_near {E : XE} {d mc ms : Nat} {P : Ps} {G : HP} {a c : Nat} {s mt f fo nu l u x y : Int32} {v : Value} (ha : G a = some (hO 6 [.ref c, .int s, .int mt, .int f, .int fo])) (hc : G c = some (hO 1 [.int nu, .int l, .int u, v])) (hP : P (.inl (some (.int (b2i (!decide (mt + l < x) && !decide (x + y < mt)))))) G) : Sp E (d + 1) yX5_isTooNear mc ms [.ref a, .int x, .int y] G P := by
  refine sp_intro bd_X5_isTooNear (v1_all rfl) (Nat.le_of_ble_eq_true rfl) ?_
  change WX _ _ _ _ _ _ 0 [some (.ref a), some (.int x), some (.int y)] [] _ 0 0
  refine wp_load (pc' := 1) (j := 1) dX5_isTooNear_0 rfl rfl rfl ?_
  refine wp_load (pc' := 2) (j := 0) dX5_isTooNear_1 rfl rfl rfl ?_
  refine wp_get (pc' := 5) dX5_isTooNear_2 fl_X5_22 ha rfl rfl ?_
  refine wp_load (pc' := 6) (j := 0) dX5_isTooNear_5 rfl rfl rfl ?_
  refine wp_get (pc' := 9) dX5_isTooNear_6 fl_X5_15 ha rfl rfl ?_
  refine wp_get (pc' := 12) dX5_isTooNear_9 fl_X5_28 hc rfl rfl ?_
  refine wp_pure (pc' := 13) dX5_isTooNear_12 rfl rfl ?_
  refine wp_icmp_gt (pc' := 16) 30 dX5_isTooNear_13 rfl rfl (fun h13 => ?_) (fun h13 => ?_)
  · skip
    refine wp_iconst (pc' := 31) (0) dX5_isTooNear_30 rfl rfl ?_
    refine wp_iret dX5_isTooNear_31 rfl rfl ?_
    simpa only [inB, b2i_t, b2i_f, h13, Bool.false_eq_true, decide_true, decide_false, Bool.not_true, Bool.not_false, Bool.and_true, Bool.true_and, Bool.and_false, Bool.false_and, Bool.or_true, Bool.true_or, Bool.or_false, Bool.false_or, if_true, if_false, ite_true, ite_false] using hP
  · skip
    refine wp_load (pc' := 17) (j := 0) dX5_isTooNear_16 rfl rfl rfl ?_
    refine wp_get (pc' := 20) dX5_isTooNear_17 fl_X5_22 ha rfl rfl ?_
    refine wp_load (pc' := 21) (j := 1) dX5_isTooNear_20 rfl rfl rfl ?_
    refine wp_load (pc' := 22) (j := 2) dX5_isTooNear_21 rfl rfl rfl ?_
    refine wp_pure (pc' := 23) dX5_isTooNear_22 rfl rfl ?_
    refine wp_icmp_gt (pc' := 26) 30 dX5_isTooNear_23 rfl rfl (fun h23 => ?_) (fun h23 => ?_)
    · skip
      refine wp_iconst (pc' := 31) (0) dX5_isTooNear_30 rfl rfl ?_
      refine wp_iret dX5_isTooNear_31 rfl rfl ?_
      simpa only [inB, b2i_t, b2i_f, h13, h23, Bool.false_eq_true, decide_true, decide_false, Bool.not_true, Bool.not_false, Bool.and_true, Bool.true_and, Bool.and_false, Bool.false_and, Bool.or_true, Bool.true_or, Bool.or_false, Bool.false_or, if_true, if_false, ite_true, ite_false] using hP
    · skip
      refine wp_iconst (pc' := 27) (1) dX5_isTooNear_26 rfl rfl ?_
      refine wp_goto 31 dX5_isTooNear_27 rfl ?_
      refine wp_iret dX5_isTooNear_31 rfl rfl ?_
      simpa only [inB, b2i_t, b2i_f, h13, h23, Bool.false_eq_true, decide_true, decide_false, Bool.not_true, Bool.not_false, Bool.and_true, Bool.true_and, Bool.and_false, Bool.false_and, Bool.or_true, Bool.true_or, Bool.or_false, Bool.false_or, if_true, if_false, ite_true, ite_false] using hP

def dayP (pr tt : Int32) : Int32 := if tt * 100 ≤ 460800 then (if 230400 ≤ tt * 100 then pr else if pr - 1 < 0 then 0 else pr - 1) else (if 20 < pr + 1 then 20 else pr + 1)
set_option maxRecDepth 20000 in
set_option maxHeartbeats 2000000 in
theorem c_beginDay {E : XE} {d mc ms : Nat} {P : Ps} {G : HP} {a b : Nat} {pr tk tt co fi : Int32} (ha : G a = some (hO 7 [.ref b, .int pr, .int tk, .int tt, .int co, .int fi])) (hP : ∀ G', G' a = some (hO 7 [.ref b, .int (dayP pr tt), .int tk, .int 0, .int co, .int fi]) → (∀ q, q ≠ a → G' q = G q) → P (.inl none) G') : Sp E (d + 2) yX6_beginDay mc ms [.ref a] G P := by
  refine sp_intro bd_X6_beginDay (v1_all rfl) (Nat.le_of_ble_eq_true rfl) ?_
  change WX _ _ _ _ _ _ 0 [some (.ref a), none] [] _ 0 0
  refine wp_load (pc' := 1) (j := 0) dX6_beginDay_0 rfl rfl rfl ?_
  refine wp_get (pc' := 4) dX6_beginDay_1 fl_X6_22 ha rfl rfl ?_
  refine wp_bipush (pc' := 6) (100) dX6_beginDay_4 rfl rfl ?_
  refine wp_pure (pc' := 7) dX6_beginDay_6 rfl rfl ?_
  refine wp_store (pc' := 8) (j := 1) (ls' := [_, _]) dX6_beginDay_7 rfl (Nat.le_of_ble_eq_true rfl) rfl rfl ?_
  refine wp_load (pc' := 9) (j := 1) dX6_beginDay_8 rfl rfl rfl ?_
  refine wp_ldc (pc' := 11) dX6_beginDay_9 kw_X6_35 rfl ?_
  refine wp_icmp_le (pc' := 14) 32 dX6_beginDay_11 rfl rfl (fun h11 => ?_) (fun h11 => ?_)
  · skip
    refine wp_load (pc' := 33) (j := 1) dX6_beginDay_32 rfl rfl rfl ?_
    refine wp_ldc (pc' := 35) dX6_beginDay_33 kw_X6_42 rfl ?_
    refine wp_icmp_ge (pc' := 38) 52 dX6_beginDay_35 rfl rfl (fun h35 => ?_) (fun h35 => ?_)
    · skip
      refine wp_load (pc' := 53) (j := 0) dX6_beginDay_52 rfl rfl rfl ?_
      refine wp_iconst (pc' := 54) (0) dX6_beginDay_53 rfl rfl ?_
      refine wp_put (pc' := 57) (fs' := [_, _, _, _, _, _]) dX6_beginDay_54 fl_X6_22 (by first | exact hu_s | exact ha) (Nat.le_of_ble_eq_true rfl) rfl rfl rfl rfl ?_
      refine wp_vret dX6_beginDay_57 rfl ?_
      refine hP _ (hu_s.trans ?_) (fun q hq => by simp only [hu_n hq])
      simp only [dayP, h11, h35, Bool.false_eq_true, decide_true, decide_false, Bool.not_true, Bool.not_false, Bool.and_true, Bool.true_and, Bool.and_false, Bool.false_and, Bool.or_true, Bool.true_or, Bool.or_false, Bool.false_or, if_true, if_false, ite_true, ite_false]
    · skip
      refine wp_load (pc' := 39) (j := 0) dX6_beginDay_38 rfl rfl rfl ?_
      refine wp_load (pc' := 40) (j := 0) dX6_beginDay_39 rfl rfl rfl ?_
      refine wp_get (pc' := 43) dX6_beginDay_40 fl_X6_15 ha rfl rfl ?_
      refine wp_iconst (pc' := 44) (1) dX6_beginDay_43 rfl rfl ?_
      refine wp_pure (pc' := 45) dX6_beginDay_44 rfl rfl ?_
      refine wp_iconst (pc' := 46) (0) dX6_beginDay_45 rfl rfl ?_
      refine wp_max (pc' := 49) dX6_beginDay_46 mxl_X6_43 (by omega) (Nat.le_of_ble_eq_true rfl) rfl ?_
      refine wp_put (pc' := 52) (fs' := [_, _, _, _, _, _]) dX6_beginDay_49 fl_X6_15 ha (Nat.le_of_ble_eq_true rfl) rfl rfl rfl rfl ?_
      refine wp_load (pc' := 53) (j := 0) dX6_beginDay_52 rfl rfl rfl ?_
      refine wp_iconst (pc' := 54) (0) dX6_beginDay_53 rfl rfl ?_
      refine wp_put (pc' := 57) (fs' := [_, _, _, _, _, _]) dX6_beginDay_54 fl_X6_22 (by first | exact hu_s | exact ha) (Nat.le_of_ble_eq_true rfl) rfl rfl rfl rfl ?_
      refine wp_vret dX6_beginDay_57 rfl ?_
      refine hP _ (hu_s.trans ?_) (fun q hq => by simp only [hu_n hq])
      simp only [dayP, h11, h35, Bool.false_eq_true, decide_true, decide_false, Bool.not_true, Bool.not_false, Bool.and_true, Bool.true_and, Bool.and_false, Bool.false_and, Bool.or_true, Bool.true_or, Bool.or_false, Bool.false_or, if_true, if_false, ite_true, ite_false]
  · skip
    refine wp_load (pc' := 15) (j := 0) dX6_beginDay_14 rfl rfl rfl ?_
    refine wp_load (pc' := 16) (j := 0) dX6_beginDay_15 rfl rfl rfl ?_
    refine wp_get (pc' := 19) dX6_beginDay_16 fl_X6_15 ha rfl rfl ?_
    refine wp_iconst (pc' := 20) (1) dX6_beginDay_19 rfl rfl ?_
    refine wp_pure (pc' := 21) dX6_beginDay_20 rfl rfl ?_
    refine wp_bipush (pc' := 23) (20) dX6_beginDay_21 rfl rfl ?_
    refine wp_min (pc' := 26) dX6_beginDay_23 mxl_X6_36 (by omega) (Nat.le_of_ble_eq_true rfl) rfl ?_
    refine wp_put (pc' := 29) (fs' := [_, _, _, _, _, _]) dX6_beginDay_26 fl_X6_15 ha (Nat.le_of_ble_eq_true rfl) rfl rfl rfl rfl ?_
    refine wp_goto 52 dX6_beginDay_29 rfl ?_
    refine wp_load (pc' := 53) (j := 0) dX6_beginDay_52 rfl rfl rfl ?_
    refine wp_iconst (pc' := 54) (0) dX6_beginDay_53 rfl rfl ?_
    refine wp_put (pc' := 57) (fs' := [_, _, _, _, _, _]) dX6_beginDay_54 fl_X6_22 (by first | exact hu_s | exact ha) (Nat.le_of_ble_eq_true rfl) rfl rfl rfl rfl ?_
    refine wp_vret dX6_beginDay_57 rfl ?_
    refine hP _ (hu_s.trans ?_) (fun q hq => by simp only [hu_n hq])
    simp only [dayP, h11, Bool.false_eq_true, decide_true, decide_false, Bool.not_true, Bool.not_false, Bool.and_true, Bool.true_and, Bool.and_false, Bool.false_and, Bool.or_true, Bool.true_or, Bool.or_false, Bool.false_or, if_true, if_false, ite_true, ite_false]

