/-! the class: car, permit, pay -/
theorem wp_newL {E : XE} {d mc ms : Nat} {M : ME} {P : Ps} {ls : List (Option Value)} {st : List Value} {G : HP} {k n pc pc' : Nat} {i ci : Nat} {fs : List Value} (L : Nat) (hd : decode M.2.1 pc = .ok (.new i, 3)) (hf : NWc M.1.cls i ci fs) (hl : fs.length = L) (hk : k + 1 ≤ mc) (hn : n + L ≤ ms) (hq : pc + 3 = pc') (h : ∀ a, G a = none → WX E d M mc ms P pc' ls (.ref a :: st) (hu G a (hO ci fs)) (k + 1) (n + L)) : WX E d M mc ms P pc ls st G k n := by
  subst hl
  exact wp_new hd hf hk hn hq h
theorem aAdd_3 {A : Nat → Nat → Nat} {k ar b n : Nat} : ∀ i, i < 6 → aAdd A k ar b n (3 + i) = if i = k then va_up (A (3 + k)) n b else A (3 + i) := fun i _ => by
  unfold aAdd
  rw [if_neg (show ¬ 3 + i = 2 by omega)]
  by_cases e : i = k
  · rw [if_pos (by rw [e]), if_pos e]
  · rw [if_neg (show ¬ 3 + i = 3 + k by omega), if_neg e]
theorem taken_ext {σ τ : MS} {s : Int32} : ∀ n, (∀ j, j < n → τ.2.1 25 j = σ.2.1 25 j ∧ τ.2.1 23 j = σ.2.1 23 j) → takenF τ s n = takenF σ s n
  | 0, _ => rfl
  | n + 1, h => by
    rw [takenF, takenF, taken_ext n (fun j hj => h j (by omega)), (h n (by omega)).1, (h n (by omega)).2]
set_option maxRecDepth 20000 in
set_option maxHeartbeats 2000000 in
theorem q_car {E : XE} {d mc ms : Nat} {P : Ps} {G : HP} {own : Nat → Nat} {A : Nat → Nat → Nat} {F : Nat → Int32} {σ : MS} {N : Nat → Nat} (hH : CH E own A F σ N G) {T : Nat} (hI : PI σ N T) {l u : Int32} (hmc : 10 ≤ mc) (hms : 1000 ≤ ms) (hX : ∀ X, exP (K_car σ l u) X → P (.inr X) G) (hT2 : K_car σ l u = 0 → N 2 < 30 → ∀ A' G', A' 0 0 = A 0 0 → CW E own A' F (carF σ (N 2) l u) (va_up N 2 (N 2 + 1)) G G' → P (.inl (some (.int (nI (N 2))))) G') : Sp E (d + 11) yX8_car mc ms [.ref (A 0 0), .int l, .int u] G P := by
  obtain ⟨hON, hN, hK, hL, hD, hT, hS, hW, hC, hPm, hY, hF⟩ := id hH
  obtain ⟨n0, n1, n2, n3, n4, n5, e7, e22, e29, e35, e40⟩ := id hN
  obtain ⟨mo2, hl2⟩ := (hL 2 (by decide)).1.1
  refine sp_intro bd_X8_car (v1_all rfl) (Nat.le_of_ble_eq_true rfl) ?_
  change WX _ _ _ _ _ _ 0 [some (.ref (A 0 0)), some (.int l), some (.int u), none] [] _ 0 0
  refine wp_load (pc' := 1) (j := 1) dX8_car_0 rfl rfl rfl ?_
  refine wp_iconst (pc' := 2) (3) dX8_car_1 rfl rfl ?_
  refine wp_bipush (pc' := 4) (12) dX8_car_2 rfl rfl ?_
  refine wp_s3 0 0 dX8_car_4 ml_X8_65 (Nat.le_of_ble_eq_true rfl) (by omega) (by omega) ?_
  refine c_isIn _ _ _ ?_
  refine kt_v ?_
  refine wp_ifeqB (pc' := 10) 23 dX8_car_7 rfl rfl (fun h7 => ?_) (fun h7 => ?_)
  · skip
    refine wp_iconst (pc' := 24) (0) dX8_car_23 rfl rfl ?_
    refine wp_s1 1 6 dX8_car_24 ml_X8_69 (Nat.le_of_ble_eq_true rfl) (by omega) (by omega) ?_
    refine c_need0 (by omega) (by omega) (kt_x rfl ?_)
    exact hX _ (exP2 (by simp only [mcode, K_car, e7, e22, e29, e35, e40, h7, Bool.false_eq_true, decide_true, decide_false, Bool.not_true, Bool.not_false, Bool.and_true, Bool.true_and, Bool.and_false, Bool.false_and, Bool.or_true, Bool.true_or, Bool.or_false, Bool.false_or, if_true, if_false, ite_true, ite_false]))
  · skip
    refine wp_load (pc' := 11) (j := 2) dX8_car_10 rfl rfl rfl ?_
    refine wp_iconst (pc' := 12) (0) dX8_car_11 rfl rfl ?_
    refine wp_iconst (pc' := 13) (4) dX8_car_12 rfl rfl ?_
    refine wp_s3 0 0 dX8_car_13 ml_X8_65 (Nat.le_of_ble_eq_true rfl) (by omega) (by omega) ?_
    refine c_isIn _ _ _ ?_
    refine kt_v ?_
    refine wp_ifeqB (pc' := 19) 23 dX8_car_16 rfl rfl (fun h16 => ?_) (fun h16 => ?_)
    · skip
      refine wp_iconst (pc' := 24) (0) dX8_car_23 rfl rfl ?_
      refine wp_s1 1 6 dX8_car_24 ml_X8_69 (Nat.le_of_ble_eq_true rfl) (by omega) (by omega) ?_
      refine c_need0 (by omega) (by omega) (kt_x rfl ?_)
      exact hX _ (exP2 (by simp only [mcode, K_car, e7, e22, e29, e35, e40, h7, h16, Bool.false_eq_true, decide_true, decide_false, Bool.not_true, Bool.not_false, Bool.and_true, Bool.true_and, Bool.and_false, Bool.false_and, Bool.or_true, Bool.true_or, Bool.or_false, Bool.false_or, if_true, if_false, ite_true, ite_false]))
    · skip
      refine wp_iconst (pc' := 20) (1) dX8_car_19 rfl rfl ?_
      refine wp_goto 24 dX8_car_20 rfl ?_
      refine wp_s1 1 6 dX8_car_24 ml_X8_69 (Nat.le_of_ble_eq_true rfl) (by omega) (by omega) ?_
      refine c_need1 ?_
      refine kt_u ?_
      refine wp_load (pc' := 28) (j := 0) dX8_car_27 rfl rfl rfl ?_
      refine wp_get (pc' := 31) dX8_car_28 fl_X8_19 hK.1 rfl rfl ?_
      refine wp_v0 0 0 dX8_car_31 ml_X8_88 hl2 (Nat.le_of_ble_eq_true rfl) (by omega) (by omega) ?_
      refine k_size (hL 2 (by decide)).1 ?_
      refine kt_v ?_
      refine wp_bipush (pc' := 36) (30) dX8_car_34 rfl rfl ?_
      refine wp_icmp_ge (pc' := 39) 43 dX8_car_36 rfl rfl (fun h36 => ?_) (fun h36 => ?_)
      · skip
        refine wp_iconst (pc' := 44) (0) dX8_car_43 rfl rfl ?_
        refine wp_s1 1 6 dX8_car_44 ml_X8_92 (Nat.le_of_ble_eq_true rfl) (by omega) (by omega) ?_
        refine c_needState0 (by omega) (by omega) (kt_x rfl ?_)
        exact hX _ (exP3 (by simp only [mcode, K_car, e7, e22, e29, e35, e40, h7, h16, h36, Bool.false_eq_true, decide_true, decide_false, Bool.not_true, Bool.not_false, Bool.and_true, Bool.true_and, Bool.and_false, Bool.false_and, Bool.or_true, Bool.true_or, Bool.or_false, Bool.false_or, if_true, if_false, ite_true, ite_false]))
      · skip
        refine wp_iconst (pc' := 40) (1) dX8_car_39 rfl rfl ?_
        refine wp_goto 44 dX8_car_40 rfl ?_
        refine wp_s1 1 6 dX8_car_44 ml_X8_92 (Nat.le_of_ble_eq_true rfl) (by omega) (by omega) ?_
        refine c_needState1 ?_
        refine kt_u ?_
        refine wp_newL (pc' := 50) 4 dX8_car_47 nw_X8_141 rfl (by omega) (by omega) rfl (fun b hb => ?_)
        have kp0 : Kp (fun _ => false) G (hu G b (hO 1 [.int 0, .int 0, .int 0, .null])) := kp_new hb
        refine wp_dup (pc' := 51) dX8_car_50 rfl rfl ?_
        refine wp_load (pc' := 52) (j := 0) dX8_car_51 rfl rfl rfl ?_
        refine wp_get (pc' := 55) dX8_car_52 fl_X8_19 (kp0 _ _ hK.1 rfl) rfl rfl ?_
        refine wp_v0 0 0 dX8_car_55 ml_X8_88 (kp0 _ _ hl2 rfl) (Nat.le_of_ble_eq_true rfl) (by omega) (by omega) ?_
        refine k_size (al_kp (hL 2 (by decide)).1 kp0 rfl rfl) ?_
        refine kt_v ?_
        refine wp_load (pc' := 59) (j := 1) dX8_car_58 rfl rfl rfl ?_
        refine wp_load (pc' := 60) (j := 2) dX8_car_59 rfl rfl rfl ?_
        refine wp_i3 0 0 dX8_car_60 ml_X8_143 (Nat.le_of_ble_eq_true rfl) (by omega) (by omega) ?_
        refine c_carI hu_s (fun G2 hb2 hk2 => ?_)
        refine kt_u ?_
        have kp2 : Kp (fun _ => false) G G2 := kp_newF hb (fun q hq => (hk2 q hq).trans (hu_n hq))
        have fr2 : Fr0 own G G2 := fr0_putF (own_new hON hb) (fun q hq => (hk2 q hq).trans (hu_n hq))
        refine wp_store (pc' := 64) (j := 3) (ls' := [_, _, _, _]) dX8_car_63 rfl (Nat.le_of_ble_eq_true rfl) rfl rfl ?_
        refine wp_load (pc' := 65) (j := 0) dX8_car_64 rfl rfl rfl ?_
        refine wp_get (pc' := 68) dX8_car_65 fl_X8_19 (kp2 _ _ hK.1 rfl) rfl rfl ?_
        refine wp_load (pc' := 69) (j := 3) dX8_car_68 rfl rfl rfl ?_
        refine wp_v1 1 400 dX8_car_69 ml_X8_45 (kp2 _ _ hl2 rfl) (Nat.le_of_ble_eq_true rfl) (by omega) (by omega) ?_
        have hnb : b ≠ A 1 2 := fun e => by rw [e, hl2] at hb; exact nomatch hb
        refine k_add (al_kp (hL 2 (by decide)).1 kp2 rfl rfl) (fun i hi => ⟨_, kp2 _ _ (hC i hi).1.1 rfl⟩) rfl co_X0 (by omega) hb2 hnb (fun i hi => ne_kd (hC i hi).1.1 hl2 (Nat.ne_of_beq_eq_false rfl)) (by omega) (by omega) (fun ar G3 ka1 ka2 ka3 => ?_)
        refine kt_v ?_
        obtain ⟨hL3, hD3, kpA, frA⟩ := add_L (A' := (aAdd A 2 ar b (N 2))) (kL hL kp2 rfl rfl) hD (on_fr hON fr2) (show 2 < 6 by decide) (fun i hi e => by have := (hC i hi).1.1; rw [show A (3 + 2) i = b from e] at this; rw [hb] at this; exact nomatch this) ka1 ka2 ka3 rfl rfl aAdd_3 rfl
        have kp := kp_tr kp2 kpA
        have fr := fr0_tr fr2 frA
        refine wp_pop (pc' := 73) dX8_car_72 rfl rfl ?_
        refine wp_load (pc' := 74) (j := 3) dX8_car_73 rfl rfl rfl ?_
        refine wp_get (pc' := 77) dX8_car_74 fl_X8_145 (kpA _ _ hb2 rfl) rfl rfl ?_
        refine wp_iret dX8_car_77 rfl rfl ?_
        have hlt : N 2 < 30 := by
          rcases Nat.lt_or_ge (N 2) 30 with q | q
          · exact q
          · exact absurd (show (30 : Int32) ≤ nI (N 2) from nI_le q (by omega)) h36
        refine hT2 (by simp only [mcode, K_car, e7, e22, e29, e35, e40, h7, h16, h36, Bool.false_eq_true, decide_true, decide_false, Bool.not_true, Bool.not_false, Bool.and_true, Bool.true_and, Bool.and_false, Bool.false_and, Bool.or_true, Bool.true_or, Bool.or_false, Bool.false_or, if_true, if_false, ite_true, ite_false]) hlt (aAdd A 2 ar b (N 2)) _ rfl ⟨⟨on_fr hON fr, ⟨n0, n1, hlt, n3, n4, n5, e7, (show σ.1 22 + 1 = nI (N 2 + 1) by rw [e22, nI_1]), e29, e35, e40⟩, kK hK kp rfl, hL3, hD3, ?_, kS hS kp rfl rfl, kWn hW kp rfl, ?_, kPm hPm kp rfl, kY hY kp rfl, ?_⟩, fr⟩
        · intro a ha
          have et := taken_ext (σ := σ) (τ := carF σ (N 2) l u) (s := nI a) (N 2) (fun i hi => ⟨up_n (Nat.ne_of_lt hi), up_n (Nat.ne_of_lt hi)⟩)
          have et2 : takenF (carF σ (N 2) l u) (nI a) (N 2 + 1) = takenF σ (nI a) (N 2) := by
            rw [takenF, et, if_neg (show ¬ (carF σ (N 2) l u).2.1 25 (N 2) = nI a from fun z => nI_nm1 (show a < 2 ^ 31 by omega) (z.symm.trans up_s)), Int32.add_zero]
          have z := kT hT kp rfl rfl rfl rfl rfl rfl rfl rfl rfl a ha
          refine ⟨?_, z.2⟩
          show Cl own G3 (A 3 a) (hO 7 [_, _, .int (takenF (carF σ (N 2) l u) (nI a) (N 2 + 1)), _, _, _])
          rw [et2]
          exact z.1
        · intro i hi
          have hi2 : i < N 2 + 1 := hi
          show Cl own G3 (va_up (A 5) (N 2) b i) (hO 1 [.int (nI i), .int (va_up (σ.2.1 23) (N 2) l i), .int (va_up (σ.2.1 24) (N 2) u i), if va_up (σ.2.1 25) (N 2) (-1) i = -1 then .null else .ref (A 12 i)]) ∧ (¬ va_up (σ.2.1 25) (N 2) (-1) i = -1 → Cl own G3 (A 12 i) (hO 6 [.ref (va_up (A 5) (N 2) b i), .int (va_up (σ.2.1 25) (N 2) (-1) i), .int (σ.2.1 26 i), .int (σ.2.1 27 i), .int (F i)]))
          by_cases e : i = N 2
          · simp only [e, up_s, if_true]
            exact ⟨⟨kpA _ _ hb2 rfl, own_new hON hb⟩, fun z => absurd trivial z⟩
          · simp only [up_n e]
            have hi3 : i < N 2 := by omega
            exact ⟨cl_kp (hC i hi3).1 kp rfl, fun z => cl_kp ((hC i hi3).2 z) kp rfl⟩
        · intro i hi
          obtain ⟨-, -, -, -, hI5, -⟩ := id hI
          obtain ⟨c, _, _, _, hc, e41, -⟩ := hI5 i hi
          have hne : ix (σ.2.1 41 i) ≠ N 2 := by rw [e41, ix_nI (by omega)]; omega
          have z := kF hF kp rfl rfl i hi
          refine ⟨z.1, ?_⟩
          show ∃ x, Cl own G3 (A 13 i) (hO 6 [.ref (va_up (A 5) (N 2) b (ix (σ.2.1 41 i))), _, _, _, .int x])
          rw [up_n hne]
          exact z.2

