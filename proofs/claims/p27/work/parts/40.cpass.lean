/-! the class: a quarter passes -/
theorem kp_w {T S : Nat → Bool} {G G' : HP} (h : Kp T G G') (hs : ∀ t, S t = false → T t = false) : Kp S G G' := fun a e ha ht => h a e ha (hs _ ht)
def QS (own : Nat → Nat) (A : Nat → Nat → Nat) (σ : MS) (N : Nat → Nat) (G0 : HP) (k : Nat) (G : HP) : Prop := G (A 0 0) = some (hO 9 [.ref (A 1 0), .ref (A 1 1), .ref (A 1 2), .ref (A 1 3), .ref (A 1 4), .ref (A 1 5), .ref (A 10 0), .int (σ.1 0 + 1)]) ∧ Kp (fun t => t == 9 || t == 7) G0 G ∧ Fr0 own G0 G ∧ ∀ a, a < 4 → G (A 3 a) = some (hO 7 [.ref (A 11 a), .int (if a < k then (quarF σ (N 2)).2.1 52 a else σ.2.1 52 a), .int (takenF σ (nI a) (N 2)), .int (if a < k then (quarF σ (N 2)).2.1 55 a else σ.2.1 55 a), .int (σ.2.1 53 a), .int (σ.2.1 54 a)])
theorem qs_step {own : Nat → Nat} {A : Nat → Nat → Nat} {σ : MS} {N : Nat → Nat} {G0 G G' : HP} {k : Nat} (hQ : QS own A σ N G0 k G) (hk : k < 4) (ho : own (A 3 k) = 0) (hinj : ∀ a, a < 4 → a ≠ k → A 3 a ≠ A 3 k) (hc : G' (A 3 k) = some (hO 7 [.ref (A 11 k), .int ((quarF σ (N 2)).2.1 52 k), .int (takenF σ (nI k) (N 2)), .int ((quarF σ (N 2)).2.1 55 k), .int (σ.2.1 53 k), .int (σ.2.1 54 k)])) (hf : ∀ q, q ≠ A 3 k → G' q = G q) : QS own A σ N G0 (k + 1) G' := by
  obtain ⟨h0, h1, h2, h3⟩ := hQ
  refine ⟨(hf _ (ne_kd h0 (h3 k hk) (Nat.ne_of_beq_eq_false rfl))).trans h0, kp_w (kp_tr h1 (kp_putF (h3 k hk) rfl hf)) (fun t ht => ?_), fr0_tr h2 (fr0_putF ho hf), fun a ha => ?_⟩
  · have ht2 : (t == 9 || t == 7) = false := ht
    show ((t == 9 || t == 7) || (t == 7)) = false
    rw [ht2]
    rw [Bool.or_eq_false_iff] at ht2
    rw [ht2.2]; rfl
  · by_cases e : a = k
    · subst e
      rw [if_pos (Nat.lt_succ_self _), if_pos (Nat.lt_succ_self _)]
      exact hc
    · have hh := (hf _ (hinj a ha e)).trans (h3 a ha)
      by_cases c : a < k
      · rw [if_pos c, if_pos c] at hh
        rw [if_pos (by omega), if_pos (by omega)]
        exact hh
      · rw [if_neg c, if_neg c] at hh
        rw [if_neg (by omega), if_neg (by omega)]
        exact hh
set_option maxRecDepth 20000 in
set_option maxHeartbeats 2000000 in
theorem l_pq {E : XE} {d0 d mc ms : Nat} {P : Ps} {G0 : HP} {own : Nat → Nat} {A : Nat → Nat → Nat} {F : Nat → Int32} {σ : MS} {N : Nat → Nat} {T : Nat} {nd : Bool} (hd : d = d0 + 4) (hH : CH E own A F σ N G0) (hI : PI σ N T) (hnd : nd = decide (rem (σ.1 0 + 1) 96 = 0)) (hP : ∀ G', CW E own A F (quarF σ (N 2)) N G0 G' → P (.inl none) G') : ∀ j k, k + j = 4 → ∀ z3 : Option Value, ∀ (G : HP), ∀ (hQ : QS own A σ N G0 k G), WX E d (yX8_passQuarter, cX8_passQuarter, none, []) mc ms P 28 [some (.ref (A 0 0)), some (.int (b2i nd)), some (.int (nI k)), z3] [] G 0 0
  | 0, k, hk, z3, G, hQ => by
    subst hd
    obtain ⟨hON, hN, hK, hL, hD, hT, hS, hW, hC, hPm, hY, hF⟩ := id hH
    obtain ⟨n0, n1, n2, n3, n4, n5, e7, e22, e29, e35, e40⟩ := id hN
    obtain ⟨mo0, hl0⟩ := (hL 0 (by decide)).1.1
    obtain ⟨hq0, kp, fr, hq3⟩ := id hQ
    
    refine wp_load (pc' := 29) (j := 2) dX8_passQuarter_28 rfl rfl rfl ?_
    refine wp_load (pc' := 30) (j := 0) dX8_passQuarter_29 rfl rfl rfl ?_
    refine wp_get (pc' := 33) dX8_passQuarter_30 fl_X8_12 hq0 rfl rfl ?_
    refine wp_v0 0 0 dX8_passQuarter_33 ml_X8_88 (kp _ _ hl0 rfl) (Nat.le_of_ble_eq_true rfl) (by omega) (by omega) ?_
    refine k_size (al_kp (hL 0 (by decide)).1 kp rfl rfl) ?_
    refine kt_v ?_
    refine wp_icmpT 78 dX8_passQuarter_36 rfl (cgeT (n := 4) (by rw [n0]) (by omega) (by omega)) ?_
    refine wp_vret dX8_passQuarter_78 rfl ?_
    obtain rfl : k = 4 := by omega
    refine hP G ⟨⟨on_fr hON fr, ?_, ⟨?_, hK.2⟩, kL hL kp rfl rfl, hD, ?_, ?_, ?_, ?_, ?_, ?_, ?_⟩, fr⟩
    · refine ⟨n0, n1, n2, n3, n4, n5, ?_, ?_, ?_, ?_, ?_⟩
      · rw [quar_1 7 (by decide)]; exact e7
      · rw [quar_1 22 (by decide)]; exact e22
      · rw [quar_1 29 (by decide)]; exact e29
      · rw [quar_1 35 (by decide)]; exact e35
      · rw [quar_1 40 (by decide)]; exact e40
    · rw [quar_0]; exact hq0
    · intro a ha
      rw [taken_c (σ := σ) (quar_o (by decide) (by decide)) (quar_o (by decide) (by decide)), quar_o (j := 53) (by decide) (by decide), quar_o (j := 54) (by decide) (by decide), quar_b]
      have z := hq3 a ha
      rw [if_pos ha, if_pos ha] at z
      exact ⟨⟨z, (hT a ha).1.2⟩, (hT a ha).2.imp (fun _ z => ⟨cl_kp z.1 kp rfl, z.2⟩)⟩
    · have z := kS hS kp rfl rfl
      unfold cS at z ⊢
      simp only [quar_b, quar_o (σ := σ) (nc := N 2) (show (20 : Nat) ≠ 55 by decide) (by decide), quar_o (σ := σ) (nc := N 2) (show (21 : Nat) ≠ 55 by decide) (by decide), quar_o (σ := σ) (nc := N 2) (show (8 : Nat) ≠ 55 by decide) (by decide), quar_o (σ := σ) (nc := N 2) (show (9 : Nat) ≠ 55 by decide) (by decide), quar_o (σ := σ) (nc := N 2) (show (10 : Nat) ≠ 55 by decide) (by decide), quar_o (σ := σ) (nc := N 2) (show (11 : Nat) ≠ 55 by decide) (by decide), quar_o (σ := σ) (nc := N 2) (show (12 : Nat) ≠ 55 by decide) (by decide), quar_o (σ := σ) (nc := N 2) (show (15 : Nat) ≠ 55 by decide) (by decide), quar_o (σ := σ) (nc := N 2) (show (16 : Nat) ≠ 55 by decide) (by decide), quar_o (σ := σ) (nc := N 2) (show (17 : Nat) ≠ 55 by decide) (by decide), quar_o (σ := σ) (nc := N 2) (show (18 : Nat) ≠ 55 by decide) (by decide), quar_o (σ := σ) (nc := N 2) (show (19 : Nat) ≠ 55 by decide) (by decide)]
      exact z
    · have z := kWn hW kp rfl
      unfold cW at z ⊢
      rw [quar_1 2 (by decide), quar_1 3 (by decide), quar_1 4 (by decide), quar_1 5 (by decide), quar_1 6 (by decide)]
      exact z
    · have z := kC hC kp rfl rfl
      unfold cC stV at z ⊢
      simp only [quar_o (σ := σ) (nc := N 2) (show (23 : Nat) ≠ 55 by decide) (by decide), quar_o (σ := σ) (nc := N 2) (show (24 : Nat) ≠ 55 by decide) (by decide), quar_o (σ := σ) (nc := N 2) (show (25 : Nat) ≠ 55 by decide) (by decide), quar_o (σ := σ) (nc := N 2) (show (26 : Nat) ≠ 55 by decide) (by decide), quar_o (σ := σ) (nc := N 2) (show (27 : Nat) ≠ 55 by decide) (by decide)]
      exact z
    · have z := kPm hPm kp rfl
      unfold cP at z ⊢
      simp only [quar_o (σ := σ) (nc := N 2) (show (30 : Nat) ≠ 55 by decide) (by decide), quar_o (σ := σ) (nc := N 2) (show (31 : Nat) ≠ 55 by decide) (by decide), quar_o (σ := σ) (nc := N 2) (show (32 : Nat) ≠ 55 by decide) (by decide), quar_o (σ := σ) (nc := N 2) (show (33 : Nat) ≠ 55 by decide) (by decide), quar_o (σ := σ) (nc := N 2) (show (34 : Nat) ≠ 55 by decide) (by decide)]
      exact z
    · have z := kY hY kp rfl
      unfold cY at z ⊢
      simp only [quar_o (σ := σ) (nc := N 2) (show (36 : Nat) ≠ 55 by decide) (by decide), quar_o (σ := σ) (nc := N 2) (show (37 : Nat) ≠ 55 by decide) (by decide), quar_o (σ := σ) (nc := N 2) (show (38 : Nat) ≠ 55 by decide) (by decide), quar_o (σ := σ) (nc := N 2) (show (39 : Nat) ≠ 55 by decide) (by decide)]
      exact z
    · have z := kF hF kp rfl rfl
      unfold cF at z ⊢
      simp only [quar_b, quar_o (σ := σ) (nc := N 2) (show (41 : Nat) ≠ 55 by decide) (by decide), quar_o (σ := σ) (nc := N 2) (show (42 : Nat) ≠ 55 by decide) (by decide), quar_o (σ := σ) (nc := N 2) (show (43 : Nat) ≠ 55 by decide) (by decide), quar_o (σ := σ) (nc := N 2) (show (44 : Nat) ≠ 55 by decide) (by decide), quar_o (σ := σ) (nc := N 2) (show (46 : Nat) ≠ 55 by decide) (by decide), quar_o (σ := σ) (nc := N 2) (show (47 : Nat) ≠ 55 by decide) (by decide)]
      exact z
  | j + 1, k, hk, z3, G, hQ => by
    have ih := l_pq (E := E) (d := d) (mc := mc) (ms := ms) hd hH hI hnd hP j (k + 1) (by omega)
    subst hd
    obtain ⟨hON, hN, hK, hL, hD, hT, hS, hW, hC, hPm, hY, hF⟩ := id hH
    obtain ⟨n0, n1, n2, n3, n4, n5, e7, e22, e29, e35, e40⟩ := id hN
    obtain ⟨mo0, hl0⟩ := (hL 0 (by decide)).1.1
    obtain ⟨hq0, kp, fr, hq3⟩ := id hQ
    
    have hs := hq3 k (by omega)
    rw [if_neg (Nat.lt_irrefl k), if_neg (Nat.lt_irrefl k)] at hs
    obtain ⟨pp, hpp, epp⟩ := (show ∃ p, p ≤ 20 ∧ σ.2.1 52 k = nI p from by obtain ⟨-, -, -, -, -, h⟩ := hI; exact h k (by omega))
    have ho := (hT k (by omega)).1.2
    have hin : ∀ a, a < 4 → a ≠ k → A 3 a ≠ A 3 k := fun a ha e z => e (hD.2.1 0 (by decide) a k (by omega) (by omega) z)
    refine wp_load (pc' := 29) (j := 2) dX8_passQuarter_28 rfl rfl rfl ?_
    refine wp_load (pc' := 30) (j := 0) dX8_passQuarter_29 rfl rfl rfl ?_
    refine wp_get (pc' := 33) dX8_passQuarter_30 fl_X8_12 hq0 rfl rfl ?_
    refine wp_v0 0 0 dX8_passQuarter_33 ml_X8_88 (kp _ _ hl0 rfl) (Nat.le_of_ble_eq_true rfl) (by omega) (by omega) ?_
    refine k_size (al_kp (hL 0 (by decide)).1 kp rfl rfl) ?_
    refine kt_v ?_
    refine wp_icmpF (pc' := 39) 78 dX8_passQuarter_36 rfl rfl (cgeF (n := 4) (by rw [n0]) (by omega) (by decide)) ?_
    refine wp_load (pc' := 40) (j := 0) dX8_passQuarter_39 rfl rfl rfl ?_
    refine wp_get (pc' := 43) dX8_passQuarter_40 fl_X8_12 hq0 rfl rfl ?_
    refine wp_load (pc' := 44) (j := 2) dX8_passQuarter_43 rfl rfl rfl ?_
    refine wp_v1 0 0 dX8_passQuarter_44 ml_X8_122 (kp _ _ hl0 rfl) (Nat.le_of_ble_eq_true rfl) (by omega) (by omega) ?_
    refine k_get (al_kp (hL 0 (by decide)).1 kp rfl rfl) (show k < N 0 from by omega) (by omega) ?_
    refine kt_v ?_
    refine wp_cast (pc' := 50) dX8_passQuarter_47 cw_X8_42 hs rfl rfl rfl ?_
    refine wp_store (pc' := 51) (j := 3) (ls' := [_, _, _, _]) dX8_passQuarter_50 rfl (Nat.le_of_ble_eq_true rfl) rfl rfl ?_
    refine wp_load (pc' := 52) (j := 3) dX8_passQuarter_51 rfl rfl rfl ?_
    refine wp_dup (pc' := 53) dX8_passQuarter_52 rfl rfl ?_
    refine wp_get (pc' := 56) dX8_passQuarter_53 fl_X8_277 hs rfl rfl ?_
    refine wp_load (pc' := 57) (j := 3) dX8_passQuarter_56 rfl rfl rfl ?_
    refine wp_get (pc' := 60) dX8_passQuarter_57 fl_X8_184 hs rfl rfl ?_
    refine wp_pure (pc' := 61) dX8_passQuarter_60 rfl rfl ?_
    refine wp_put (pc' := 64) (fs' := [_, _, _, _, _, _]) dX8_passQuarter_61 fl_X8_277 hs (Nat.le_of_ble_eq_true rfl) rfl rfl rfl rfl ?_
    refine wp_load (pc' := 65) (j := 1) dX8_passQuarter_64 rfl rfl rfl ?_
    refine wp_ifeqB (pc' := 68) 72 dX8_passQuarter_65 rfl rfl (fun h65 => ?_) (fun h65 => ?_)
    · skip
      refine wp_iinc (pc' := 75) (j := 2) (ls' := [_, _, _, _]) (nI (k + 1)) dX8_passQuarter_72 rfl (nI_1 k) rfl rfl ?_
      refine wp_goto 28 dX8_passQuarter_75 rfl ?_
      first
      | (have hr : rem (σ.1 0 + 1) 96 = 0 := of_decide_eq_true (hnd.symm.trans h65)
         refine ih _ _ (qs_step hQ (by omega) ho hin ?_ (fun q hq => (hk2 q hq).trans (hu_n hq)))
         rw [quar_52 (by omega), quar_55 (by omega), if_pos hr, if_pos hr, epp, ← day_pr hpp, ← epp]
         exact hb2)
      | (have hr : ¬ rem (σ.1 0 + 1) 96 = 0 := of_decide_eq_false (hnd.symm.trans h65)
         refine ih _ _ (qs_step hQ (by omega) ho hin ?_ (fun q hq => hu_n hq))
         rw [quar_52 (by omega), quar_55 (by omega), if_neg hr, if_neg hr]
         exact hu_s)
    · skip
      refine wp_load (pc' := 69) (j := 3) dX8_passQuarter_68 rfl rfl rfl ?_
      refine wp_v0 0 0 dX8_passQuarter_69 ml_X8_355 hu_s (Nat.le_of_ble_eq_true rfl) (by omega) (by omega) ?_
      refine c_beginDay hu_s (fun G2 hb2 hk2 => ?_)
      refine kt_u ?_
      refine wp_iinc (pc' := 75) (j := 2) (ls' := [_, _, _, _]) (nI (k + 1)) dX8_passQuarter_72 rfl (nI_1 k) rfl rfl ?_
      refine wp_goto 28 dX8_passQuarter_75 rfl ?_
      first
      | (have hr : rem (σ.1 0 + 1) 96 = 0 := of_decide_eq_true (hnd.symm.trans h65)
         refine ih _ _ (qs_step hQ (by omega) ho hin ?_ (fun q hq => (hk2 q hq).trans (hu_n hq)))
         rw [quar_52 (by omega), quar_55 (by omega), if_pos hr, if_pos hr, epp, ← day_pr hpp, ← epp]
         exact hb2)
      | (have hr : ¬ rem (σ.1 0 + 1) 96 = 0 := of_decide_eq_false (hnd.symm.trans h65)
         refine ih _ _ (qs_step hQ (by omega) ho hin ?_ (fun q hq => hu_n hq))
         rw [quar_52 (by omega), quar_55 (by omega), if_neg hr, if_neg hr]
         exact hu_s)

