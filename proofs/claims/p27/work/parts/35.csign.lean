/-! the class: sign -/
def aSg (A : Nat → Nat → Nat) (n ar b w : Nat) : Nat → Nat → Nat := fun r => if r = 9 then va_up (A 9) n (A 10 0) else if r = 10 then (fun _ => w) else aAdd A 1 ar b n r
theorem aSg_r {A : Nat → Nat → Nat} {n ar b w r : Nat} (h : r < 9) : aSg A n ar b w r = aAdd A 1 ar b n r := by
  unfold aSg
  rw [if_neg (by omega), if_neg (by omega)]
set_option maxRecDepth 20000 in
set_option maxHeartbeats 2000000 in
theorem q_sign {E : XE} {d mc ms : Nat} {P : Ps} {G : HP} {own : Nat → Nat} {A : Nat → Nat → Nat} {F : Nat → Int32} {σ : MS} {N : Nat → Nat} (hH : CH E own A F σ N G) {T : Nat} (hI : PI σ N T) {st f t u sy : Int32} {fee tmp : Bool} (hmc : 10 ≤ mc) (hms : 1000 ≤ ms) (hX : ∀ X, exO (K_sign σ st f t u sy) X → P (.inr X) G) (hT2 : K_sign σ st f t u sy = 0 → N 1 < 30 → ∀ A' G', A' 0 0 = A 0 0 → CW E own A' F (sgnF σ (N 1) st f t u sy fee tmp) (va_up N 1 (N 1 + 1)) G G' → P (.inl (some (.int (nI (N 1))))) G') : Sp E (d + 11) yX8_sign mc ms [.ref (A 0 0), .int st, .int f, .int t, .int u, .int sy, .int (b2i fee), .int (b2i tmp)] G P := by
  obtain ⟨hON, hN, hK, hL, hD, hT, hS, hW, hC, hPm, hY, hF⟩ := id hH
  obtain ⟨n0, n1, n2, n3, n4, n5, e7, e22, e29, e35, e40⟩ := id hN
  obtain ⟨mo1, hl1⟩ := (hL 1 (by decide)).1.1
  refine sp_intro bd_X8_sign (v1_all rfl) (Nat.le_of_ble_eq_true rfl) ?_
  change WX _ _ _ _ _ _ 0 [some (.ref (A 0 0)), some (.int st), some (.int f), some (.int t), some (.int u), some (.int sy), some (.int (b2i fee)), some (.int (b2i tmp)), none] [] _ 0 0
  refine wp_load (pc' := 1) (j := 0) dX8_sign_0 rfl rfl rfl ?_
  refine wp_load (pc' := 2) (j := 1) dX8_sign_1 rfl rfl rfl ?_
  refine wp_v1 1 6 dX8_sign_2 ml_X8_49 hK.1 (Nat.le_of_ble_eq_true rfl) (by omega) (by omega) ?_
  refine c_streetOf hH (by omega) (by omega) (fun h2 => kt_x rfl (hX _ (ex1 (by simp only [mcode, K_sign, e7, e7, e22, e29, e35, e40, if_true, h2, Bool.false_eq_true, decide_true, decide_false, Bool.not_true, Bool.not_false, Bool.and_true, Bool.true_and, Bool.and_false, Bool.false_and, Bool.or_true, Bool.true_or, Bool.or_false, Bool.false_or, if_true, if_false, ite_true, ite_false])))) (fun s2 hs2 es2 h2 => ?_)
  obtain rfl := es2
  have ix2 : ix (nI s2) = s2 := ix_nI (by omega)
  refine kt_v ?_
  refine wp_pop (pc' := 6) dX8_sign_5 rfl rfl ?_
  refine wp_load (pc' := 7) (j := 2) dX8_sign_6 rfl rfl rfl ?_
  refine wp_s1 1 6 dX8_sign_7 ml_X8_53 (Nat.le_of_ble_eq_true rfl) (by omega) (by omega) ?_
  refine c_needMetre (by omega) (by omega) (fun h7 => kt_x rfl (hX _ (ex1 (by simp only [mcode, K_sign, e7, e7, e22, e29, e35, e40, h2, ix2, h7, Bool.false_eq_true, decide_true, decide_false, Bool.not_true, Bool.not_false, Bool.and_true, Bool.true_and, Bool.and_false, Bool.false_and, Bool.or_true, Bool.true_or, Bool.or_false, Bool.false_or, if_true, if_false, ite_true, ite_false])))) (fun h7 => ?_)
  refine kt_u ?_
  refine wp_load (pc' := 11) (j := 3) dX8_sign_10 rfl rfl rfl ?_
  refine wp_s1 1 6 dX8_sign_11 ml_X8_53 (Nat.le_of_ble_eq_true rfl) (by omega) (by omega) ?_
  refine c_needMetre (by omega) (by omega) (fun h11 => kt_x rfl (hX _ (ex1 (by simp only [mcode, K_sign, e7, e7, e22, e29, e35, e40, h2, ix2, h7, h11, Bool.false_eq_true, decide_true, decide_false, Bool.not_true, Bool.not_false, Bool.and_true, Bool.true_and, Bool.and_false, Bool.false_and, Bool.or_true, Bool.true_or, Bool.or_false, Bool.false_or, if_true, if_false, ite_true, ite_false])))) (fun h11 => ?_)
  refine kt_u ?_
  refine wp_load (pc' := 15) (j := 3) dX8_sign_14 rfl rfl rfl ?_
  refine wp_load (pc' := 16) (j := 2) dX8_sign_15 rfl rfl rfl ?_
  refine wp_icmp_lt (pc' := 19) 45 dX8_sign_16 rfl rfl (fun h16 => ?_) (fun h16 => ?_)
  · skip
    refine wp_iconst (pc' := 46) (0) dX8_sign_45 rfl rfl ?_
    refine wp_s1 1 6 dX8_sign_46 ml_X8_69 (Nat.le_of_ble_eq_true rfl) (by omega) (by omega) ?_
    refine c_need0 (by omega) (by omega) (kt_x rfl ?_)
    exact hX _ (ex2 (by simp only [mcode, K_sign, e7, e7, e22, e29, e35, e40, h2, ix2, h7, h11, h16, Bool.false_eq_true, decide_true, decide_false, Bool.not_true, Bool.not_false, Bool.and_true, Bool.true_and, Bool.and_false, Bool.false_and, Bool.or_true, Bool.true_or, Bool.or_false, Bool.false_or, if_true, if_false, ite_true, ite_false]))
  · skip
    refine wp_load (pc' := 21) (j := 4) dX8_sign_19 rfl rfl rfl ?_
    refine wp_iconst (pc' := 22) (0) dX8_sign_21 rfl rfl ?_
    refine wp_bipush (pc' := 24) (31) dX8_sign_22 rfl rfl ?_
    refine wp_s3 0 0 dX8_sign_24 ml_X8_65 (Nat.le_of_ble_eq_true rfl) (by omega) (by omega) ?_
    refine c_isIn _ _ _ ?_
    refine kt_v ?_
    refine wp_ifeqB (pc' := 30) 45 dX8_sign_27 rfl rfl (fun h27 => ?_) (fun h27 => ?_)
    · skip
      refine wp_iconst (pc' := 46) (0) dX8_sign_45 rfl rfl ?_
      refine wp_s1 1 6 dX8_sign_46 ml_X8_69 (Nat.le_of_ble_eq_true rfl) (by omega) (by omega) ?_
      refine c_need0 (by omega) (by omega) (kt_x rfl ?_)
      exact hX _ (ex2 (by simp only [mcode, K_sign, e7, e7, e22, e29, e35, e40, h2, ix2, h7, h11, h16, h27, Bool.false_eq_true, decide_true, decide_false, Bool.not_true, Bool.not_false, Bool.and_true, Bool.true_and, Bool.and_false, Bool.false_and, Bool.or_true, Bool.true_or, Bool.or_false, Bool.false_or, if_true, if_false, ite_true, ite_false]))
    · skip
      refine wp_load (pc' := 32) (j := 5) dX8_sign_30 rfl rfl rfl ?_
      refine wp_iconst (pc' := 33) (0) dX8_sign_32 rfl rfl ?_
      refine wp_bipush (pc' := 35) (96) dX8_sign_33 rfl rfl ?_
      refine wp_s3 0 0 dX8_sign_35 ml_X8_65 (Nat.le_of_ble_eq_true rfl) (by omega) (by omega) ?_
      refine c_isIn _ _ _ ?_
      refine kt_v ?_
      refine wp_ifeqB (pc' := 41) 45 dX8_sign_38 rfl rfl (fun h38 => ?_) (fun h38 => ?_)
      · skip
        refine wp_iconst (pc' := 46) (0) dX8_sign_45 rfl rfl ?_
        refine wp_s1 1 6 dX8_sign_46 ml_X8_69 (Nat.le_of_ble_eq_true rfl) (by omega) (by omega) ?_
        refine c_need0 (by omega) (by omega) (kt_x rfl ?_)
        exact hX _ (ex2 (by simp only [mcode, K_sign, e7, e7, e22, e29, e35, e40, h2, ix2, h7, h11, h16, h27, h38, Bool.false_eq_true, decide_true, decide_false, Bool.not_true, Bool.not_false, Bool.and_true, Bool.true_and, Bool.and_false, Bool.false_and, Bool.or_true, Bool.true_or, Bool.or_false, Bool.false_or, if_true, if_false, ite_true, ite_false]))
      · skip
        refine wp_iconst (pc' := 42) (1) dX8_sign_41 rfl rfl ?_
        refine wp_goto 46 dX8_sign_42 rfl ?_
        refine wp_s1 1 6 dX8_sign_46 ml_X8_69 (Nat.le_of_ble_eq_true rfl) (by omega) (by omega) ?_
        refine c_need1 ?_
        refine kt_u ?_
        refine wp_load (pc' := 50) (j := 0) dX8_sign_49 rfl rfl rfl ?_
        refine wp_get (pc' := 53) dX8_sign_50 fl_X8_16 hK.1 rfl rfl ?_
        refine wp_v0 0 0 dX8_sign_53 ml_X8_88 hl1 (Nat.le_of_ble_eq_true rfl) (by omega) (by omega) ?_
        refine k_size (hL 1 (by decide)).1 ?_
        refine kt_v ?_
        refine wp_bipush (pc' := 58) (30) dX8_sign_56 rfl rfl ?_
        refine wp_icmp_ge (pc' := 61) 65 dX8_sign_58 rfl rfl (fun h58 => ?_) (fun h58 => ?_)
        · skip
          refine wp_iconst (pc' := 66) (0) dX8_sign_65 rfl rfl ?_
          refine wp_s1 1 6 dX8_sign_66 ml_X8_92 (Nat.le_of_ble_eq_true rfl) (by omega) (by omega) ?_
          refine c_needState0 (by omega) (by omega) (kt_x rfl ?_)
          exact hX _ (ex3 (by simp only [mcode, K_sign, e7, e7, e22, e29, e35, e40, h2, ix2, h7, h11, h16, h27, h38, h58, Bool.false_eq_true, decide_true, decide_false, Bool.not_true, Bool.not_false, Bool.and_true, Bool.true_and, Bool.and_false, Bool.false_and, Bool.or_true, Bool.true_or, Bool.or_false, Bool.false_or, if_true, if_false, ite_true, ite_false]))
        · skip
          refine wp_iconst (pc' := 62) (1) dX8_sign_61 rfl rfl ?_
          refine wp_goto 66 dX8_sign_62 rfl ?_
          refine wp_s1 1 6 dX8_sign_66 ml_X8_92 (Nat.le_of_ble_eq_true rfl) (by omega) (by omega) ?_
          refine c_needState1 ?_
          refine kt_u ?_
          refine wp_newL (pc' := 72) 11 dX8_sign_69 nw_X8_95 rfl (by omega) (by omega) rfl (fun b hb => ?_)
          have kp0 : Kp (fun _ => false) G (hu G b (hO 5 [.int 0, .int 0, .null, .int 0, .int 0, .int 0, .int 0, .int 0, .int 0, .int 0, .int 0])) := kp_new hb
          refine wp_dup (pc' := 73) dX8_sign_72 rfl rfl ?_
          refine wp_load (pc' := 74) (j := 0) dX8_sign_73 rfl rfl rfl ?_
          refine wp_get (pc' := 77) dX8_sign_74 fl_X8_16 (kp0 _ _ hK.1 rfl) rfl rfl ?_
          refine wp_v0 0 0 dX8_sign_77 ml_X8_88 (kp0 _ _ hl1 rfl) (Nat.le_of_ble_eq_true rfl) (by omega) (by omega) ?_
          refine k_size (al_kp (hL 1 (by decide)).1 kp0 rfl rfl) ?_
          refine kt_v ?_
          refine wp_load (pc' := 81) (j := 0) dX8_sign_80 rfl rfl rfl ?_
          refine wp_get (pc' := 84) dX8_sign_81 fl_X8_38 (kp0 _ _ hK.1 rfl) rfl rfl ?_
          refine wp_load (pc' := 85) (j := 0) dX8_sign_84 rfl rfl rfl ?_
          refine wp_get (pc' := 88) dX8_sign_85 fl_X8_34 (kp0 _ _ hK.1 rfl) rfl rfl ?_
          refine wp_i3 0 0 dX8_sign_88 ml_X8_97 (Nat.le_of_ble_eq_true rfl) (by omega) (by omega) ?_
          refine c_sgnI hu_s (fun Ga hba hka => ?_)
          refine kt_u ?_
          refine wp_store (pc' := 93) (j := 8) (ls' := [_, _, _, _, _, _, _, _, _]) dX8_sign_91 rfl (Nat.le_of_ble_eq_true rfl) rfl rfl ?_
          refine wp_load (pc' := 95) (j := 8) dX8_sign_93 rfl rfl rfl ?_
          refine wp_load (pc' := 96) (j := 1) dX8_sign_95 rfl rfl rfl ?_
          refine wp_load (pc' := 97) (j := 2) dX8_sign_96 rfl rfl rfl ?_
          refine wp_load (pc' := 98) (j := 3) dX8_sign_97 rfl rfl rfl ?_
          refine wp_v3 0 0 dX8_sign_98 ml_X8_100 hba (Nat.le_of_ble_eq_true rfl) (by omega) (by omega) ?_
          refine c_place hba (fun Gb hbb hkb => ?_)
          refine kt_u ?_
          refine wp_load (pc' := 103) (j := 8) dX8_sign_101 rfl rfl rfl ?_
          refine wp_load (pc' := 105) (j := 4) dX8_sign_103 rfl rfl rfl ?_
          refine wp_load (pc' := 107) (j := 5) dX8_sign_105 rfl rfl rfl ?_
          refine wp_load (pc' := 109) (j := 6) dX8_sign_107 rfl rfl rfl ?_
          refine wp_load (pc' := 111) (j := 7) dX8_sign_109 rfl rfl rfl ?_
          refine wp_v4 0 0 dX8_sign_111 ml_X8_104 hbb (Nat.le_of_ble_eq_true rfl) (by omega) (by omega) ?_
          refine c_terms hbb (fun G2 hb2 hk2 => ?_)
          refine kt_u ?_
          have kp2 : Kp (fun _ => false) G G2 := kp_newF hb (fun q hq => (hk2 q hq).trans ((hkb q hq).trans ((hka q hq).trans (hu_n hq))))
          have fr2 : Fr0 own G G2 := fr0_putF (own_new hON hb) (fun q hq => (hk2 q hq).trans ((hkb q hq).trans ((hka q hq).trans (hu_n hq))))
          refine wp_load (pc' := 115) (j := 0) dX8_sign_114 rfl rfl rfl ?_
          refine wp_get (pc' := 118) dX8_sign_115 fl_X8_16 (kp2 _ _ hK.1 rfl) rfl rfl ?_
          refine wp_load (pc' := 120) (j := 8) dX8_sign_118 rfl rfl rfl ?_
          refine wp_v1 1 400 dX8_sign_120 ml_X8_45 (kp2 _ _ hl1 rfl) (Nat.le_of_ble_eq_true rfl) (by omega) (by omega) ?_
          have hnb : b ≠ A 1 1 := fun e => by rw [e, hl1] at hb; exact nomatch hb
          refine k_add (al_kp (hL 1 (by decide)).1 kp2 rfl rfl) (fun i hi => ⟨_, kp2 _ _ (hS i hi).1.1 rfl⟩) rfl co_X4 (by omega) hb2 hnb (fun i hi => ne_kd (hS i hi).1.1 hl1 (Nat.ne_of_beq_eq_false rfl)) (by omega) (by omega) (fun ar G3 ka1 ka2 ka3 => ?_)
          refine kt_v ?_
          have kpA : Kp (fun t => t == 0 || t == 20) G2 G3 := (add_L (A' := aAdd A 1 ar b (N 1)) (kL hL kp2 rfl rfl) hD (on_fr hON fr2) (show 1 < 6 by decide) (fun i hi e => by have := (hS i hi).1.1; rw [show A (3 + 1) i = b from e] at this; rw [hb] at this; exact nomatch this) ka1 ka2 ka3 rfl rfl aAdd_3 rfl).2.2.1
          refine wp_pop (pc' := 124) dX8_sign_123 rfl rfl ?_
          refine wp_load (pc' := 125) (j := 0) dX8_sign_124 rfl rfl rfl ?_
          refine wp_newL (pc' := 128) 5 dX8_sign_125 nw_X8_31 rfl (by omega) (by omega) rfl (fun w hw => ?_)
          have kpw0 : Kp (fun _ => false) G3 (hu G3 w (hO 8 [.int 0, .int 0, .int 0, .int 0, .int 0])) := kp_new hw
          refine wp_dup (pc' := 129) dX8_sign_128 rfl rfl ?_
          refine wp_i0 0 0 dX8_sign_129 ml_X8_33 (Nat.le_of_ble_eq_true rfl) (by omega) (by omega) ?_
          refine c_whI hu_s (fun G5 hw5 hkw => ?_)
          refine kt_u ?_
          have kpw : Kp (fun _ => false) G3 G5 := kp_newF hw (fun q hq => (hkw q hq).trans (hu_n hq))
          refine wp_put (pc' := 135) (fs' := [_, _, _, _, _, _, _, _]) dX8_sign_132 fl_X8_34 (kpw _ _ (kpA _ _ (kp2 _ _ hK.1 rfl) rfl) rfl) (Nat.le_of_ble_eq_true rfl) rfl rfl rfl rfl ?_
          refine wp_load (pc' := 137) (j := 8) dX8_sign_135 rfl rfl rfl ?_
          refine wp_get (pc' := 140) dX8_sign_137 fl_X8_108 ((hu_n (fun e => by rw [e] at hb; rw [hK.1] at hb; exact nomatch hb)).trans (kpw _ _ (kpA _ _ hb2 rfl) rfl)) rfl rfl ?_
          refine wp_iret dX8_sign_140 rfl rfl ?_
          have hlt : N 1 < 30 := by
            rcases Nat.lt_or_ge (N 1) 30 with q | q
            · exact q
            · exact absurd (show (30 : Int32) ≤ nI (N 1) from nI_le q (by omega)) h58
          obtain ⟨hL3, hD3, kpA, frA⟩ := add_L (A' := aAdd A 1 ar b (N 1)) (kL hL kp2 rfl rfl) hD (on_fr hON fr2) (show 1 < 6 by decide) (fun i hi e => by have := (hS i hi).1.1; rw [show A (3 + 1) i = b from e] at this; rw [hb] at this; exact nomatch this) ka1 ka2 ka3 rfl rfl aAdd_3 rfl
          have kp3 := kp_tr kp2 kpA
          have fr3 := fr0_tr fr2 frA
          have kp5 := kp_tr kp3 kpw
          have kp6 := kp_put (e1 := hO 9 [.ref (A 1 0), .ref (A 1 1), .ref (A 1 2), .ref (A 1 3), .ref (A 1 4), .ref (A 1 5), .ref w, .int (σ.1 0)]) (kp5 _ _ hK.1 rfl) rfl
          have kp := kp_tr kp5 kp6
          have hbo := own_new hON hb
          have hwo := own_new (on_fr hON fr3) hw
          have fr := fr0_tr fr3 (fr0_tr (fr0_putF hwo (fun q hq => (hkw q hq).trans (hu_n hq))) (fr0_put (e := hO 9 [.ref (A 1 0), .ref (A 1 1), .ref (A 1 2), .ref (A 1 3), .ref (A 1 4), .ref (A 1 5), .ref w, .int (σ.1 0)]) hK.2))
          have hnw : A 10 0 ≠ w := fun e => by have := kp3 _ _ hW.1 rfl; rw [e, hw] at this; exact nomatch this
          refine hT2 (by simp only [mcode, K_sign, e7, h2, ix2, h7, h11, h16, h27, h38, h58, Bool.false_eq_true, decide_true, decide_false, Bool.not_true, Bool.not_false, Bool.and_true, Bool.true_and, Bool.and_false, Bool.false_and, Bool.or_true, Bool.true_or, Bool.or_false, Bool.false_or, if_true, if_false, ite_true, ite_false]) hlt (aSg A (N 1) ar b w) _ rfl ⟨⟨on_fr hON fr, ⟨n0, hlt, n2, n3, n4, n5, (show σ.1 7 + 1 = nI (N 1 + 1) by rw [e7, nI_1]), e22, e29, e35, e40⟩, ⟨hu_s, hK.2⟩, cL_row (fun r hr => aSg_r hr) (kL (kL hL3 kpw rfl rfl) kp6 rfl rfl), cD_row (fun r hr => aSg_r hr) rfl hD3, kT hT kp rfl rfl rfl rfl rfl rfl rfl rfl rfl, ?_, ⟨kp6 _ _ hw5 rfl, hwo⟩, kC hC kp rfl rfl, kPm hPm kp rfl, kY hY kp rfl, kF hF kp rfl rfl⟩, fr⟩
          intro i hi
          have hi2 : i < N 1 + 1 := hi
          show Cl own _ (va_up (A 4) (N 1) b i) (hO 5 [.int (nI i), .int (va_up (σ.2.1 20) (N 1) (σ.1 0) i), .ref (va_up (A 9) (N 1) (A 10 0) i), .int (dnF (va_up (σ.2.1 21) (N 1) 50000 i)), .int (va_up (σ.2.1 8) (N 1) (nI s2) i), .int (va_up (σ.2.1 9) (N 1) f i), .int (va_up (σ.2.1 10) (N 1) t i), .int (va_up (σ.2.1 11) (N 1) u i), .int (va_up (σ.2.1 12) (N 1) sy i), .int (b2i (va_up (σ.2.2 13) (N 1) fee i)), .int (b2i (va_up (σ.2.2 14) (N 1) tmp i))]) ∧ Cl own _ (va_up (A 9) (N 1) (A 10 0) i) (hO 8 [.int (va_up (σ.2.1 15) (N 1) (σ.1 2) i), .int (va_up (σ.2.1 16) (N 1) (σ.1 3) i), .int (va_up (σ.2.1 17) (N 1) (σ.1 4) i), .int (va_up (σ.2.1 18) (N 1) (σ.1 5) i), .int (va_up (σ.2.1 19) (N 1) (σ.1 6) i)]) ∧ va_up (A 9) (N 1) (A 10 0) i ≠ w
          by_cases e : i = N 1
          · simp only [e, up_s]
            exact ⟨⟨kp6 _ _ (kpw _ _ (kpA _ _ hb2 rfl) rfl) rfl, hbo⟩, cl_kp hW kp rfl, hnw⟩
          · simp only [up_n e]
            have hi3 : i < N 1 := by omega
            exact ⟨cl_kp (hS i hi3).1 kp rfl, cl_kp (hS i hi3).2.1 kp rfl, fun z => by have := kp3 _ _ (hS i hi3).2.1.1 rfl; rw [z, hw] at this; exact nomatch this⟩

