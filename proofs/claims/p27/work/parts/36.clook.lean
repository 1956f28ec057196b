/-! the class: a look at a car -/
def FRs (σ : MS) (N : Nat → Nat) : Prop := ∀ i, N 5 ≤ i → σ.2.2 49 i = false ∧ σ.2.2 50 i = false ∧ σ.2.2 51 i = false
def aLk (A : Nat → Nat → Nat) (n ar b s : Nat) : Nat → Nat → Nat := fun r => if r = 13 then va_up (A 13) n s else aAdd A 5 ar b n r
theorem aLk_r {A : Nat → Nat → Nat} {n ar b s r : Nat} (h : r < 13) : aLk A n ar b s r = aAdd A 5 ar b n r := if_neg (by omega)
def givG (σ : MS) (n a i : Nat) (w : Int32) : MS := msc (mar (mbr (mar (mar (mar (mar (mar (mar (mar σ 41 n (nI i)) 42 n (σ.2.1 25 i)) 43 n (σ.2.1 26 i)) 44 n (σ.2.1 27 i)) 45 n (σ.2.1 28 i)) 46 n (σ.1 0)) 47 n w) 48 n (decide (w = 1))) 54 a (σ.2.1 54 a + 1)) 40 (σ.1 40 + 1)
theorem giv_G {σ : MS} {n a i : Nat} {w : Int32} (hn : ix (σ.1 40) = n) (ha : ix (σ.2.1 25 i) = a) : givF σ i w = givG σ n a i w := by
  subst hn
  subst ha
  rfl
theorem st_inj {a b : Nat} {x1 x2 x3 x4 y1 y2 y3 y4 : Value} (h : hO 6 [.ref a, x1, x2, x3, x4] = hO 6 [.ref b, y1, y2, y3, y4]) : a = b ∧ x1 = y1 ∧ x2 = y2 ∧ x3 = y3 := by
  have h2 := congrArg Prod.snd (Sum.inl.inj h)
  simp only [List.cons.injEq, Value.ref.injEq] at h2
  exact ⟨h2.1, h2.2.1, h2.2.2.1, h2.2.2.2.1⟩
set_option maxRecDepth 20000 in
set_option maxHeartbeats 2000000 in
theorem c_lookAt {E : XE} {d mc ms : Nat} {P : Ps} {G : HP} {own : Nat → Nat} {A : Nat → Nat → Nat} {F : Nat → Int32} {σ : MS} {N : Nat → Nat} (hH : CH E own A F σ N G) {T : Nat} (hI : PI σ N T) (hfr : FRs σ N) {i a : Nat} (hi : i < N 2) (hs : ¬ σ.2.1 25 i = -1) (ha : a < 4) (ea : σ.2.1 25 i = nI a) (hfo : hfF σ i (N 5) = decide (F i = σ.1 0 / 96)) (hmc : 2 ≤ mc) (hms : 110 ≤ ms) (h0 : look1 σ (nI a) i = σ → P (.inl none) G) (h1 : look1 σ (nI a) i = givF σ i (judNow σ i) → N 5 < 60 → ¬ judNow σ i = 0 → ∀ A' G', CW E own A' (va_up F i (σ.1 0 / 96)) (givF σ i (judNow σ i)) (va_up N 5 (N 5 + 1)) G G' → (∀ r, r = 0 ∨ r = 3 → A' r = A r) → P (.inl none) G') : Sp E (d + 8) yX8_lookAt mc ms [.ref (A 0 0), .ref (A 12 i), .ref (A 3 a)] G P := by
  obtain ⟨hON, hN, hK, hL, hD, hT, hS, hW, hC, hPm, hY, hF⟩ := id hH
  obtain ⟨n0, n1, n2, n3, n4, n5, e7, e22, e29, e35, e40⟩ := id hN
  obtain ⟨mo5, hl5⟩ := (hL 5 (by decide)).1.1
  obtain ⟨⟨t, ht, et, -, -⟩, -, hI3, -⟩ := id hI
  obtain ⟨⟨L, hL3x, hL12, el⟩, h25⟩ := hI3 i hi
  obtain ⟨ax, m, hax, eax, em, hmL⟩ := h25 hs
  have eaa : ax = a := (nI_eq (show ax < 2 ^ 31 by omega) (show a < 2 ^ 31 by omega)).1 (eax.symm.trans ea)
  rw [el, ix_nI (by omega)] at hmL
  have hst : G (A 12 i) = some (hO 6 [.ref (A 5 i), .int (nI a), .int (nI m), .int (σ.2.1 27 i), .int (F i)]) := by
    rw [← ea, ← em]; exact ((hC i hi).2 hs).1
  have hix : ix (σ.1 40) = N 5 := by rw [e40, ix_nI (by omega)]
  refine sp_intro bd_X8_lookAt (v1_all rfl) (Nat.le_of_ble_eq_true rfl) ?_
  change WX _ _ _ _ _ _ 0 [some (.ref (A 0 0)), some (.ref (A 12 i)), some (.ref (A 3 a)), none, none] [] _ 0 0
  refine wp_load (pc' := 1) (j := 0) dX8_lookAt_0 rfl rfl rfl ?_
  refine wp_load (pc' := 2) (j := 1) dX8_lookAt_1 rfl rfl rfl ?_
  refine wp_load (pc' := 3) (j := 0) dX8_lookAt_2 rfl rfl rfl ?_
  refine wp_get (pc' := 6) dX8_lookAt_3 fl_X8_38 hK.1 rfl rfl ?_
  refine wp_load (pc' := 7) (j := 0) dX8_lookAt_6 rfl rfl rfl ?_
  refine wp_load (pc' := 8) (j := 1) dX8_lookAt_7 rfl rfl rfl ?_
  refine wp_v1 0 0 dX8_lookAt_8 ml_X8_216 hK.1 (Nat.le_of_ble_eq_true rfl) (by omega) (by omega) ?_
  refine c_onBlk hH hst hi ha el hmL ?_
  refine kt_v ?_
  refine wp_v3 0 0 dX8_lookAt_11 ml_X8_220 hK.1 (Nat.le_of_ble_eq_true rfl) (by omega) (by omega) ?_
  refine c_judgeE hH hI ht hst hi el (by omega) et ?_
  rw [← jn_eq hN ea em el et ha hmL]
  refine kt_v ?_
  refine wp_store (pc' := 15) (j := 3) (ls' := [_, _, _, _, _]) dX8_lookAt_14 rfl (Nat.le_of_ble_eq_true rfl) rfl rfl ?_
  refine wp_load (pc' := 16) (j := 0) dX8_lookAt_15 rfl rfl rfl ?_
  refine wp_get (pc' := 19) dX8_lookAt_16 fl_X8_38 hK.1 rfl rfl ?_
  refine wp_bipush (pc' := 21) (96) dX8_lookAt_19 rfl rfl ?_
  refine wp_div (pc' := 22) dX8_lookAt_21 (by decide) rfl ?_
  refine wp_store (pc' := 24) (j := 4) (ls' := [_, _, _, _, _]) dX8_lookAt_22 rfl (Nat.le_of_ble_eq_true rfl) rfl rfl ?_
  refine wp_load (pc' := 25) (j := 3) dX8_lookAt_24 rfl rfl rfl ?_
  refine wp_if_eq (pc' := 28) 49 dX8_lookAt_25 rfl rfl (fun h25 => ?_) (fun h25 => ?_)
  · skip
    refine wp_vret dX8_lookAt_49 rfl ?_
    refine h0 ?_
    unfold look1
    rw [if_neg]
    rw [hix, hfo, e40]
    simp only [ea, h25, Bool.false_eq_true, decide_true, decide_false, Bool.not_true, Bool.not_false, Bool.and_true, Bool.true_and, Bool.and_false, Bool.false_and, Bool.or_true, Bool.true_or, Bool.or_false, Bool.false_or, if_true, if_false, ite_true, ite_false, not_false_eq_true]
  · skip
    refine wp_load (pc' := 29) (j := 1) dX8_lookAt_28 rfl rfl rfl ?_
    refine wp_get (pc' := 32) dX8_lookAt_29 fl_X8_349 ((hC i hi).2 hs).1 rfl rfl ?_
    refine wp_load (pc' := 34) (j := 4) dX8_lookAt_32 rfl rfl rfl ?_
    refine wp_icmp_eq (pc' := 37) 49 dX8_lookAt_34 rfl rfl (fun h34 => ?_) (fun h34 => ?_)
    · skip
      refine wp_vret dX8_lookAt_49 rfl ?_
      refine h0 ?_
      unfold look1
      rw [if_neg]
      rw [hix, hfo, e40]
      simp only [ea, h25, h34, Bool.false_eq_true, decide_true, decide_false, Bool.not_true, Bool.not_false, Bool.and_true, Bool.true_and, Bool.and_false, Bool.false_and, Bool.or_true, Bool.true_or, Bool.or_false, Bool.false_or, if_true, if_false, ite_true, ite_false, not_false_eq_true]
    · skip
      refine wp_load (pc' := 38) (j := 0) dX8_lookAt_37 rfl rfl rfl ?_
      refine wp_get (pc' := 41) dX8_lookAt_38 fl_X8_28 hK.1 rfl rfl ?_
      refine wp_v0 0 0 dX8_lookAt_41 ml_X8_88 hl5 (Nat.le_of_ble_eq_true rfl) (by omega) (by omega) ?_
      refine k_size (hL 5 (by decide)).1 ?_
      refine kt_v ?_
      refine wp_bipush (pc' := 46) (60) dX8_lookAt_44 rfl rfl ?_
      refine wp_icmp_lt (pc' := 49) 50 dX8_lookAt_46 rfl rfl (fun h46 => ?_) (fun h46 => ?_)
      · skip
        have hlt : N 5 < 60 := by
          rcases Nat.lt_or_ge (N 5) 60 with q | q
          · exact q
          · exact absurd h46 (show ¬ nI (N 5) < 60 from nI_nlt (b := 60) q (by omega))
        have hn60 : ¬ (60 : Int32) ≤ nI (N 5) := nI_ge (b := 60) hlt (by decide)
        refine wp_load (pc' := 51) (j := 0) dX8_lookAt_50 rfl rfl rfl ?_
        refine wp_get (pc' := 54) dX8_lookAt_51 fl_X8_28 hK.1 rfl rfl ?_
        refine wp_newL (pc' := 57) 6 dX8_lookAt_54 nw_X8_238 rfl (by omega) (by omega) rfl (fun b hb => ?_)
        have kp0 : Kp (fun _ => false) G (hu G b (hO 2 [.null, .int 0, .int 0, .int 0, .int 0, .int 0])) := kp_new hb
        refine wp_dup (pc' := 58) dX8_lookAt_57 rfl rfl ?_
        refine wp_load (pc' := 59) (j := 1) dX8_lookAt_58 rfl rfl rfl ?_
        refine wp_load (pc' := 60) (j := 0) dX8_lookAt_59 rfl rfl rfl ?_
        refine wp_get (pc' := 63) dX8_lookAt_60 fl_X8_38 (kp0 _ _ hK.1 rfl) rfl rfl ?_
        refine wp_load (pc' := 64) (j := 3) dX8_lookAt_63 rfl rfl rfl ?_
        refine wp_i3 0 0 dX8_lookAt_64 ml_X8_352 (Nat.le_of_ble_eq_true rfl) (by omega) (by omega) ?_
        refine c_fineI hu_s (fun G2 hb2 hk2 => ?_)
        refine kt_u ?_
        have kp2 : Kp (fun _ => false) G G2 := kp_newF hb (fun q hq => (hk2 q hq).trans (hu_n hq))
        have fr2 : Fr0 own G G2 := fr0_putF (own_new hON hb) (fun q hq => (hk2 q hq).trans (hu_n hq))
        refine wp_v1 1 100 dX8_lookAt_67 ml_X8_45 (kp2 _ _ hl5 rfl) (Nat.le_of_ble_eq_true rfl) (by omega) (by omega) ?_
        have hnb : b ≠ A 1 5 := fun e => by rw [e, hl5] at hb; exact nomatch hb
        refine k_add (al_kp (hL 5 (by decide)).1 kp2 rfl rfl) (fun j hj => ⟨_, kp2 _ _ (hF j hj).1.1 rfl⟩) rfl co_X1 (by omega) hb2 hnb (fun j hj => ne_kd (hF j hj).1.1 hl5 (Nat.ne_of_beq_eq_false rfl)) (by omega) (by omega) (fun ar G3 ka1 ka2 ka3 => ?_)
        refine kt_v ?_
        obtain ⟨hL3, hD3, kpA, frA⟩ := add_L (A' := aAdd A 5 ar b (N 5)) (kL hL kp2 rfl rfl) hD (on_fr hON fr2) (show 5 < 6 by decide) (fun j hj e => by have := (hF j hj).1.1; rw [show A (3 + 5) j = b from e] at this; rw [hb] at this; exact nomatch this) ka1 ka2 ka3 rfl rfl aAdd_3 rfl
        have kp := kp_tr kp2 kpA
        have fr := fr0_tr fr2 frA
        refine wp_pop (pc' := 71) dX8_lookAt_70 rfl rfl ?_
        refine wp_load (pc' := 72) (j := 1) dX8_lookAt_71 rfl rfl rfl ?_
        refine wp_load (pc' := 74) (j := 4) dX8_lookAt_72 rfl rfl rfl ?_
        refine wp_put (pc' := 77) (fs' := [_, _, _, _, _]) dX8_lookAt_74 fl_X8_349 (kp _ _ ((hC i hi).2 hs).1 rfl) (Nat.le_of_ble_eq_true rfl) rfl rfl rfl rfl ?_
        refine wp_load (pc' := 78) (j := 2) dX8_lookAt_77 rfl rfl rfl ?_
        refine wp_dup (pc' := 79) dX8_lookAt_78 rfl rfl ?_
        refine wp_get (pc' := 82) dX8_lookAt_79 fl_X8_224 ((hu_n (ne_kd (kp _ _ (hT a ha).1.1 rfl) (kp _ _ ((hC i hi).2 hs).1 rfl) (Nat.ne_of_beq_eq_false rfl))).trans (kp _ _ (hT a ha).1.1 rfl)) rfl rfl ?_
        refine wp_iconst (pc' := 83) (1) dX8_lookAt_82 rfl rfl ?_
        refine wp_pure (pc' := 84) dX8_lookAt_83 rfl rfl ?_
        refine wp_put (pc' := 87) (fs' := [_, _, _, _, _, _]) dX8_lookAt_84 fl_X8_224 ((hu_n (ne_kd (kp _ _ (hT a ha).1.1 rfl) (kp _ _ ((hC i hi).2 hs).1 rfl) (Nat.ne_of_beq_eq_false rfl))).trans (kp _ _ (hT a ha).1.1 rfl)) (Nat.le_of_ble_eq_true rfl) rfl rfl rfl rfl ?_
        refine wp_vret dX8_lookAt_87 rfl ?_
        have hlk : look1 σ (nI a) i = givF σ i (judNow σ i) := by
          unfold look1
          rw [if_pos]
          rw [hix, hfo, e40]
          simp only [ea, h25, h34, hn60, Bool.false_eq_true, decide_true, decide_false, Bool.not_true, Bool.not_false, Bool.and_true, Bool.true_and, Bool.and_false, Bool.false_and, Bool.or_true, Bool.true_or, Bool.or_false, Bool.false_or, if_true, if_false, ite_true, ite_false]
        refine h1 hlk hlt h25 (aLk A (N 5) ar b (A 12 i)) _ ?_ (fun r hr => by rcases hr with rfl | rfl <;> rfl)
        rw [giv_G (n := N 5) (a := a) hix (by rw [ea, ix_nI (by omega)])]
        have hbo := own_new hON hb
        have hso := ((hC i hi).2 hs).2
        have kp4 := kp_put (e1 := hO 6 [.ref (A 5 i), .int (σ.2.1 25 i), .int (σ.2.1 26 i), .int (σ.2.1 27 i), .int (σ.1 0 / 96)]) (kp _ _ ((hC i hi).2 hs).1 rfl) rfl
        have hne5 := ne_kd (kp _ _ (hT a ha).1.1 rfl) (kp _ _ ((hC i hi).2 hs).1 rfl) (Nat.ne_of_beq_eq_false rfl)
        have kp5 := kp_put (e1 := hO 7 [.ref (A 11 a), .int (σ.2.1 52 a), .int (takenF σ (nI a) (N 2)), .int (σ.2.1 55 a), .int (σ.2.1 53 a), .int (σ.2.1 54 a + 1)]) ((hu_n (e := hO 6 [.ref (A 5 i), .int (σ.2.1 25 i), .int (σ.2.1 26 i), .int (σ.2.1 27 i), .int (σ.1 0 / 96)]) hne5).trans (kp _ _ (hT a ha).1.1 rfl)) rfl
        have kp3 := kp
        have kp := kp_tr kp3 (kp_tr kp4 kp5)
        have fr := fr0_tr fr (fr0_tr (fr0_put (e := hO 6 [.ref (A 5 i), .int (σ.2.1 25 i), .int (σ.2.1 26 i), .int (σ.2.1 27 i), .int (σ.1 0 / 96)]) hso) (fr0_put (e := hO 7 [.ref (A 11 a), .int (σ.2.1 52 a), .int (takenF σ (nI a) (N 2)), .int (σ.2.1 55 a), .int (σ.2.1 53 a), .int (σ.2.1 54 a + 1)]) (hT a ha).1.2))
        have hstN : hu (hu G3 (A 12 i) (hO 6 [.ref (A 5 i), .int (σ.2.1 25 i), .int (σ.2.1 26 i), .int (σ.2.1 27 i), .int (σ.1 0 / 96)])) (A 3 a) (hO 7 [.ref (A 11 a), .int (σ.2.1 52 a), .int (takenF σ (nI a) (N 2)), .int (σ.2.1 55 a), .int (σ.2.1 53 a), .int (σ.2.1 54 a + 1)]) (A 12 i) = some (hO 6 [.ref (A 5 i), .int (σ.2.1 25 i), .int (σ.2.1 26 i), .int (σ.2.1 27 i), .int (σ.1 0 / 96)]) := kp5 _ _ hu_s rfl
        refine ⟨⟨on_fr hON fr, ⟨n0, n1, n2, n3, n4, hlt, e7, e22, e29, e35, (show σ.1 40 + 1 = nI (N 5 + 1) by rw [e40, nI_1])⟩, kK hK kp rfl, cL_row (fun r hr => aLk_r (by omega)) (kL (kL hL3 kp4 rfl rfl) kp5 rfl rfl), cD_row (fun r hr => aLk_r (by omega)) rfl hD3, ?_, kS hS kp rfl rfl, kWn hW kp rfl, ?_, kPm hPm kp rfl, kY hY kp rfl, ?_⟩, fr⟩
        · intro c hc
          refine ⟨?_, (hT c hc).2.imp (fun _ z => ⟨cl_kp z.1 kp rfl, z.2⟩)⟩
          show Cl own _ (A 3 c) (hO 7 [_, .int (σ.2.1 52 c), .int (takenF (givG σ (N 5) a i (judNow σ i)) (nI c) (N 2)), .int (σ.2.1 55 c), .int (σ.2.1 53 c), .int (va_up (σ.2.1 54) a (σ.2.1 54 a + 1) c)])
          rw [taken_c (σ := σ) (σ' := givG σ (N 5) a i (judNow σ i)) rfl rfl]
          by_cases e : c = a
          · subst e
            rw [up_s]
            exact ⟨hu_s, (hT c hc).1.2⟩
          · rw [up_n e]
            exact ⟨(hu_n (fun z => e (hD.2.1 0 (by decide) c a (by omega) (by omega) z))).trans (kp4 _ _ (kp3 _ _ (hT c hc).1.1 rfl) rfl), (hT c hc).1.2⟩
        · intro k hk
          refine ⟨cl_kp (hC k hk).1 kp rfl, fun z => ?_⟩
          show Cl own _ (A 12 k) (hO 6 [.ref (A 5 k), .int (σ.2.1 25 k), .int (σ.2.1 26 k), .int (σ.2.1 27 k), .int (va_up F i (σ.1 0 / 96) k)])
          by_cases e : k = i
          · subst e
            rw [up_s]
            exact ⟨hstN, hso⟩
          · rw [up_n e]
            have q := (hC k hk).2 z
            refine ⟨kp5 _ _ ((hu_n (fun w => e (hD.2.1 2 (by decide) k i hk hi (st_inj (Option.some.inj (q.1.symm.trans (w ▸ ((hC i hi).2 hs).1)))).1))).trans (kp3 _ _ q.1 rfl)) rfl, q.2⟩
        · intro f hf
          have hf2 : f < N 5 + 1 := hf
          show Cl own _ (va_up (A 8) (N 5) b f) (hO 2 [.ref (va_up (A 13) (N 5) (A 12 i) f), .int (va_up (σ.2.1 46) (N 5) (σ.1 0) f), .int (va_up (σ.2.1 47) (N 5) (judNow σ i) f), .int (b2i (σ.2.2 49 f)), .int (b2i (σ.2.2 50 f)), .int (b2i (σ.2.2 51 f))]) ∧ ∃ x, Cl own _ (va_up (A 13) (N 5) (A 12 i) f) (hO 6 [.ref (A 5 (ix (va_up (σ.2.1 41) (N 5) (nI i) f))), .int (va_up (σ.2.1 42) (N 5) (σ.2.1 25 i) f), .int (va_up (σ.2.1 43) (N 5) (σ.2.1 26 i) f), .int (va_up (σ.2.1 44) (N 5) (σ.2.1 27 i) f), .int x])
          by_cases e : f = N 5
          · obtain ⟨z1, z2, z3⟩ := hfr f (by omega)
            rw [z1, z2, z3, b2i_f]
            simp only [e, up_s]
            rw [ix_nI (show i < 2 ^ 31 by omega)]
            exact ⟨⟨kp5 _ _ (kp4 _ _ (kpA _ _ hb2 rfl) rfl) rfl, hbo⟩, _, hstN, hso⟩
          · simp only [up_n e]
            have hf3 : f < N 5 := by omega
            obtain ⟨x, hx⟩ := (hF f hf3).2
            refine ⟨cl_kp (hF f hf3).1 kp rfl, ?_⟩
            by_cases w : A 13 f = A 12 i
            · have q := st_inj (Option.some.inj (hx.1.symm.trans (w ▸ ((hC i hi).2 hs).1)))
              rw [q.1, q.2.1, q.2.2.1, q.2.2.2]
              exact ⟨_, by rw [w]; exact hstN, hx.2⟩
            · exact ⟨x, kp5 _ _ ((hu_n w).trans (kp3 _ _ hx.1 rfl)) rfl, hx.2⟩
      · skip
        have h46 : (60 : Int32) ≤ nI (N 5) := by
          rcases Nat.lt_or_ge (N 5) 60 with q | q
          · exact absurd (show nI (N 5) < 60 from nI_lt (b := 60) q (by decide)) h46
          · exact nI_le (a := 60) q (by omega)
        refine wp_vret dX8_lookAt_49 rfl ?_
        refine h0 ?_
        unfold look1
        rw [if_neg]
        rw [hix, hfo, e40]
        simp only [ea, h25, h34, h46, Bool.false_eq_true, decide_true, decide_false, Bool.not_true, Bool.not_false, Bool.and_true, Bool.true_and, Bool.and_false, Bool.false_and, Bool.or_true, Bool.true_or, Bool.or_false, Bool.false_or, if_true, if_false, ite_true, ite_false, not_false_eq_true]

