/-! the class: appeal, leave, tow -/
theorem taken_off {σ τ : MS} {i a : Nat} {s : Int32} (h25 : ∀ j, j ≠ i → τ.2.1 25 j = σ.2.1 25 j) (hi : τ.2.1 25 i = -1) (h23 : τ.2.1 23 = σ.2.1 23) (hs : s = nI a) (ha : a < 4) : ∀ n, takenF τ s n = if i < n ∧ σ.2.1 25 i = s then takenF σ s n - σ.2.1 23 i else takenF σ s n
  | 0 => by rw [if_neg (fun z => Nat.not_lt_zero _ z.1)]; rfl
  | n + 1 => by
    rw [takenF, takenF, taken_off h25 hi h23 hs ha n, h23]
    by_cases e : n = i
    · subst e
      rw [hi, if_neg (fun z => Nat.lt_irrefl _ z.1), if_neg (show ¬ (-1 : Int32) = s from fun z => by rw [hs] at z; exact nI_nm1 (by omega) z.symm), Int32.add_zero]
      by_cases c : σ.2.1 25 n = s
      · rw [if_pos c, if_pos ⟨Nat.lt_succ_self _, c⟩, Int32.add_sub_cancel]
      · rw [if_neg c, if_neg (fun z => c z.2), Int32.add_zero]
    · rw [h25 n e]
      generalize (if σ.2.1 25 n = s then σ.2.1 23 n else 0) = w
      by_cases c : i < n ∧ σ.2.1 25 i = s
      · rw [if_pos c, if_pos ⟨by omega, c.2⟩, Int32.sub_eq_add_neg, Int32.sub_eq_add_neg, Int32.add_assoc, Int32.add_comm (-σ.2.1 23 i) w, ← Int32.add_assoc]
      · rw [if_neg c, if_neg (fun z => c ⟨by omega, z.2⟩)]
theorem c_judgeE {E : XE} {d mc ms : Nat} {P : Ps} {G : HP} {own : Nat → Nat} {A : Nat → Nat → Nat} {F : Nat → Int32} {σ : MS} {N : Nat → Nat} (hH : CH E own A F σ N G) {T : Nat} (hI : PI σ N T) {q : Nat} (hq : q ≤ 49999) {sa i : Nat} {s mt fr fo : Int32} (hs : G sa = some (hO 6 [.ref (A 5 i), .int s, .int mt, .int fr, .int fo])) (hi : i < N 2) {L : Nat} (hl : σ.2.1 23 i = nI L) (hL60 : L ≤ 60) {x : Int32} (hx : x = nI q) {bl : Bool} (hP : P (.inl (some (.int (if bl then 1 else judF σ i L (N 1) (N 3) (N 4) s mt fr (nI q))))) G) : Sp E (d + 7) yX8_judgementOf mc ms [.ref (A 0 0), .ref sa, .int x, .int (b2i bl)] G P := by
  subst hx
  exact c_judge hH hI hq hs hi hl hL60 hP
set_option maxRecDepth 20000 in
set_option maxHeartbeats 2000000 in
theorem q_appeal {E : XE} {d mc ms : Nat} {P : Ps} {G : HP} {own : Nat → Nat} {A : Nat → Nat → Nat} {F : Nat → Int32} {σ : MS} {N : Nat → Nat} (hH : CH E own A F σ N G) {T : Nat} (hI : PI σ N T) {f : Int32} (hmc : 10 ≤ mc) (hms : 1000 ≤ ms) (hX : ∀ X, exQ (K_appeal σ f) X → P (.inr X) G) (hT2 : K_appeal σ f = 0 → ∀ j, j < N 5 → f = nI j → ∀ G' b, b = (!σ.2.2 48 j && decide (judFine (mbr (zz σ) 49 j true) j = 0)) → CW E own A F (mbr (mbr (zz σ) 49 j true) 50 j b) N G G' → P (.inl (some (.int (b2i b)))) G') : Sp E (d + 11) yX8_appeal mc ms [.ref (A 0 0), .int f] G P := by
  obtain ⟨hON, hN, hK, hL, hD, hT, hS, hW, hC, hPm, hY, hF⟩ := id hH
  obtain ⟨n0, n1, n2, n3, n4, n5, e7, e22, e29, e35, e40⟩ := id hN
  refine sp_intro bd_X8_appeal (v1_all rfl) (Nat.le_of_ble_eq_true rfl) ?_
  change WX _ _ _ _ _ _ 0 [some (.ref (A 0 0)), some (.int f), none, none] [] _ 0 0
  refine wp_load (pc' := 1) (j := 0) dX8_appeal_0 rfl rfl rfl ?_
  refine wp_load (pc' := 2) (j := 1) dX8_appeal_1 rfl rfl rfl ?_
  refine wp_v1 1 6 dX8_appeal_2 ml_X8_233 hK.1 (Nat.le_of_ble_eq_true rfl) (by omega) (by omega) ?_
  refine c_fineOf hH (by omega) (by omega) (fun h2 => kt_x rfl (hX _ (exQ1 (by simp only [mcode, K_appeal, e7, e22, e29, e35, e40, if_true, h2, Bool.false_eq_true, decide_true, decide_false, Bool.not_true, Bool.not_false, Bool.and_true, Bool.true_and, Bool.and_false, Bool.false_and, Bool.or_true, Bool.true_or, Bool.or_false, Bool.false_or, if_true, if_false, ite_true, ite_false])))) (fun s2 hs2 es2 h2 => ?_)
  obtain rfl := es2
  have ix2 : ix (nI s2) = s2 := ix_nI (by omega)
  refine kt_v ?_
  refine wp_store (pc' := 6) (j := 2) (ls' := [_, _, _, _]) dX8_appeal_5 rfl (Nat.le_of_ble_eq_true rfl) rfl rfl ?_
  refine wp_load (pc' := 7) (j := 2) dX8_appeal_6 rfl rfl rfl ?_
  refine wp_get (pc' := 10) dX8_appeal_7 fl_X8_237 (hF s2 hs2).1.1 rfl rfl ?_
  refine wp_ifneB (pc' := 13) 24 dX8_appeal_10 rfl rfl (fun h10 => ?_) (fun h10 => ?_)
  · skip
    refine wp_iconst (pc' := 25) (0) dX8_appeal_24 rfl rfl ?_
    refine wp_s1 1 6 dX8_appeal_25 ml_X8_92 (Nat.le_of_ble_eq_true rfl) (by omega) (by omega) ?_
    refine c_needState0 (by omega) (by omega) (kt_x rfl ?_)
    exact hX _ (exQ3 (by simp only [mcode, K_appeal, e7, e22, e29, e35, e40, h2, ix2, h10, Bool.false_eq_true, decide_true, decide_false, Bool.not_true, Bool.not_false, Bool.and_true, Bool.true_and, Bool.and_false, Bool.false_and, Bool.or_true, Bool.true_or, Bool.or_false, Bool.false_or, if_true, if_false, ite_true, ite_false]))
  · skip
    refine wp_load (pc' := 14) (j := 2) dX8_appeal_13 rfl rfl rfl ?_
    refine wp_get (pc' := 17) dX8_appeal_14 fl_X8_243 (hF s2 hs2).1.1 rfl rfl ?_
    refine wp_ifneB (pc' := 20) 24 dX8_appeal_17 rfl rfl (fun h17 => ?_) (fun h17 => ?_)
    · skip
      refine wp_iconst (pc' := 25) (0) dX8_appeal_24 rfl rfl ?_
      refine wp_s1 1 6 dX8_appeal_25 ml_X8_92 (Nat.le_of_ble_eq_true rfl) (by omega) (by omega) ?_
      refine c_needState0 (by omega) (by omega) (kt_x rfl ?_)
      exact hX _ (exQ3 (by simp only [mcode, K_appeal, e7, e22, e29, e35, e40, h2, ix2, h10, h17, Bool.false_eq_true, decide_true, decide_false, Bool.not_true, Bool.not_false, Bool.and_true, Bool.true_and, Bool.and_false, Bool.false_and, Bool.or_true, Bool.true_or, Bool.or_false, Bool.false_or, if_true, if_false, ite_true, ite_false]))
    · skip
      refine wp_iconst (pc' := 21) (1) dX8_appeal_20 rfl rfl ?_
      refine wp_goto 25 dX8_appeal_21 rfl ?_
      refine wp_s1 1 6 dX8_appeal_25 ml_X8_92 (Nat.le_of_ble_eq_true rfl) (by omega) (by omega) ?_
      refine c_needState1 ?_
      refine kt_u ?_
      refine wp_load (pc' := 29) (j := 2) dX8_appeal_28 rfl rfl rfl ?_
      refine wp_get (pc' := 32) dX8_appeal_29 fl_X8_246 (hF s2 hs2).1.1 rfl rfl ?_
      refine wp_iconst (pc' := 33) (1) dX8_appeal_32 rfl rfl ?_
      refine wp_icmp_ne (pc' := 36) 40 dX8_appeal_33 rfl rfl (fun h33 => ?_) (fun h33 => ?_)
      · skip
        refine wp_iconst (pc' := 41) (0) dX8_appeal_40 rfl rfl ?_
        refine wp_store (pc' := 42) (j := 3) (ls' := [_, _, _, _]) dX8_appeal_41 rfl (Nat.le_of_ble_eq_true rfl) rfl rfl ?_
        refine wp_load (pc' := 43) (j := 2) dX8_appeal_42 rfl rfl rfl ?_
        refine wp_iconst (pc' := 44) (1) dX8_appeal_43 rfl rfl ?_
        refine wp_put (pc' := 47) (fs' := [_, _, _, _, _, _]) dX8_appeal_44 fl_X8_237 (hF s2 hs2).1.1 (Nat.le_of_ble_eq_true rfl) rfl rfl rfl rfl ?_
        obtain ⟨⟨t, ht, et, hI1, h46⟩, -, hI3, -, hI5, -⟩ := id hI
        obtain ⟨c, a, m, p, hc, e41, ha, e42, e43, hmL, -, -, h47, h48⟩ := hI5 s2 hs2
        obtain ⟨u, hu1, e46⟩ := h46 s2 hs2
        obtain ⟨⟨L, hL3, hL12, el⟩, -⟩ := hI3 c hc
        have hH1 := (w_F (σ' := (mbr (zz σ) 49 s2 true)) hH hs2 (hu_s.trans (by first | (rw [mbr_s]; done) | (rw [mbr_s]; rfl))) (fun q hq => hu_n hq) (x := 0) rfl rfl (fun k hk => mbr_k (by omega)) (fun k i hi => mbr_o hi)).1
        have hI1' : PI (mbr (zz σ) 49 s2 true) N T := hI
        obtain ⟨-, -, hK1, -, -, -, -, -, -, -, -, hF1⟩ := id hH1
        obtain ⟨x, hx⟩ := (hF1 s2 hs2).2
        rw [show ((mbr (zz σ) 49 s2 true)).2.1 = σ.2.1 from rfl, e41, ix_nI (by omega), e42, e43] at hx
        have hjf : judFine (mbr (zz σ) 49 s2 true) s2 = judF (mbr (zz σ) 49 s2 true) c L (N 1) (N 3) (N 4) (nI a) (nI m) (σ.2.1 44 s2) (nI u) := jf_eq (σ := (mbr (zz σ) 49 s2 true)) (f := s2) hN e41 hc e42 e43 el (by omega) e46
        refine wp_load (pc' := 48) (j := 2) dX8_appeal_47 rfl rfl rfl ?_
        refine wp_load (pc' := 49) (j := 0) dX8_appeal_48 rfl rfl rfl ?_
        refine wp_load (pc' := 50) (j := 2) dX8_appeal_49 rfl rfl rfl ?_
        refine wp_get (pc' := 53) dX8_appeal_50 fl_X8_249 hu_s rfl rfl ?_
        refine wp_load (pc' := 54) (j := 2) dX8_appeal_53 rfl rfl rfl ?_
        refine wp_get (pc' := 57) dX8_appeal_54 fl_X8_250 hu_s rfl rfl ?_
        refine wp_load (pc' := 58) (j := 3) dX8_appeal_57 rfl rfl rfl ?_
        refine wp_v3 0 0 dX8_appeal_58 ml_X8_220 hK1.1 (Nat.le_of_ble_eq_true rfl) (by omega) (by omega) ?_
        first
        | refine c_judgeE (bl := true) hH1 hI1' (show u ≤ 49999 by omega) hx.1 hc el (by omega) e46 ?_
          rw [if_pos rfl]
        | refine c_judgeE (bl := false) hH1 hI1' (show u ≤ 49999 by omega) hx.1 hc el (by omega) e46 ?_
          rw [if_neg (show ¬ false = true by decide)]
        refine kt_v ?_
        refine wp_if_ne (pc' := 64) 68 dX8_appeal_61 rfl rfl (fun h61 => ?_) (fun h61 => ?_)
        · skip
          refine wp_iconst (pc' := 69) (0) dX8_appeal_68 rfl rfl ?_
          refine wp_put (pc' := 72) (fs' := [_, _, _, _, _, _]) dX8_appeal_69 fl_X8_253 hu_s (Nat.le_of_ble_eq_true rfl) rfl rfl rfl rfl ?_
          refine wp_load (pc' := 73) (j := 2) dX8_appeal_72 rfl rfl rfl ?_
          refine wp_get (pc' := 76) dX8_appeal_73 fl_X8_253 hu_s rfl rfl ?_
          refine wp_iret dX8_appeal_76 rfl rfl ?_
          first
          | exact absurd h61 (by decide)
          | skip
            refine hT2 (by simp only [mcode, K_appeal, h2, ix2, h10, h17, h33, h61, Bool.false_eq_true, decide_true, decide_false, Bool.not_true, Bool.not_false, Bool.and_true, Bool.true_and, Bool.and_false, Bool.false_and, Bool.or_true, Bool.true_or, Bool.or_false, Bool.false_or, if_true, if_false, ite_true, ite_false]) _ hs2 rfl _ true ?_ ?_
            · rw [h48, hjf]
              simp only [h2, ix2, h10, h17, h33, h61, Bool.false_eq_true, decide_true, decide_false, Bool.not_true, Bool.not_false, Bool.and_true, Bool.true_and, Bool.and_false, Bool.false_and, Bool.or_true, Bool.true_or, Bool.or_false, Bool.false_or, if_true, if_false, ite_true, ite_false]
            · exact w_F hH hs2 (hu_s.trans (by simp only [mbr_s, mbr_k (show (49:Nat) ≠ 50 by decide), mbr_k (show (51:Nat) ≠ 50 by decide), mbr_k (show (51:Nat) ≠ 49 by decide)]; rfl)) (fun q hq => by simp only [hu_n hq]) (x := 0) rfl rfl (fun k hk => (mbr_k (by omega)).trans (mbr_k (by omega))) (fun k i hi => (mbr_o hi).trans (mbr_o hi))
          | skip
            refine hT2 (by simp only [mcode, K_appeal, h2, ix2, h10, h17, h33, h61, Bool.false_eq_true, decide_true, decide_false, Bool.not_true, Bool.not_false, Bool.and_true, Bool.true_and, Bool.and_false, Bool.false_and, Bool.or_true, Bool.true_or, Bool.or_false, Bool.false_or, if_true, if_false, ite_true, ite_false]) _ hs2 rfl _ false ?_ ?_
            · rw [h48, hjf]
              simp only [h2, ix2, h10, h17, h33, h61, Bool.false_eq_true, decide_true, decide_false, Bool.not_true, Bool.not_false, Bool.and_true, Bool.true_and, Bool.and_false, Bool.false_and, Bool.or_true, Bool.true_or, Bool.or_false, Bool.false_or, if_true, if_false, ite_true, ite_false]
            · exact w_F hH hs2 (hu_s.trans (by simp only [mbr_s, mbr_k (show (49:Nat) ≠ 50 by decide), mbr_k (show (51:Nat) ≠ 50 by decide), mbr_k (show (51:Nat) ≠ 49 by decide)]; rfl)) (fun q hq => by simp only [hu_n hq]) (x := 0) rfl rfl (fun k hk => (mbr_k (by omega)).trans (mbr_k (by omega))) (fun k i hi => (mbr_o hi).trans (mbr_o hi))
        · skip
          refine wp_iconst (pc' := 65) (1) dX8_appeal_64 rfl rfl ?_
          refine wp_goto 69 dX8_appeal_65 rfl ?_
          refine wp_put (pc' := 72) (fs' := [_, _, _, _, _, _]) dX8_appeal_69 fl_X8_253 hu_s (Nat.le_of_ble_eq_true rfl) rfl rfl rfl rfl ?_
          refine wp_load (pc' := 73) (j := 2) dX8_appeal_72 rfl rfl rfl ?_
          refine wp_get (pc' := 76) dX8_appeal_73 fl_X8_253 hu_s rfl rfl ?_
          refine wp_iret dX8_appeal_76 rfl rfl ?_
          first
          | exact absurd h61 (by decide)
          | skip
            refine hT2 (by simp only [mcode, K_appeal, h2, ix2, h10, h17, h33, h61, Bool.false_eq_true, decide_true, decide_false, Bool.not_true, Bool.not_false, Bool.and_true, Bool.true_and, Bool.and_false, Bool.false_and, Bool.or_true, Bool.true_or, Bool.or_false, Bool.false_or, if_true, if_false, ite_true, ite_false]) _ hs2 rfl _ true ?_ ?_
            · rw [h48, hjf]
              simp only [h2, ix2, h10, h17, h33, h61, Bool.false_eq_true, decide_true, decide_false, Bool.not_true, Bool.not_false, Bool.and_true, Bool.true_and, Bool.and_false, Bool.false_and, Bool.or_true, Bool.true_or, Bool.or_false, Bool.false_or, if_true, if_false, ite_true, ite_false]
            · exact w_F hH hs2 (hu_s.trans (by simp only [mbr_s, mbr_k (show (49:Nat) ≠ 50 by decide), mbr_k (show (51:Nat) ≠ 50 by decide), mbr_k (show (51:Nat) ≠ 49 by decide)]; rfl)) (fun q hq => by simp only [hu_n hq]) (x := 0) rfl rfl (fun k hk => (mbr_k (by omega)).trans (mbr_k (by omega))) (fun k i hi => (mbr_o hi).trans (mbr_o hi))
          | skip
            refine hT2 (by simp only [mcode, K_appeal, h2, ix2, h10, h17, h33, h61, Bool.false_eq_true, decide_true, decide_false, Bool.not_true, Bool.not_false, Bool.and_true, Bool.true_and, Bool.and_false, Bool.false_and, Bool.or_true, Bool.true_or, Bool.or_false, Bool.false_or, if_true, if_false, ite_true, ite_false]) _ hs2 rfl _ false ?_ ?_
            · rw [h48, hjf]
              simp only [h2, ix2, h10, h17, h33, h61, Bool.false_eq_true, decide_true, decide_false, Bool.not_true, Bool.not_false, Bool.and_true, Bool.true_and, Bool.and_false, Bool.false_and, Bool.or_true, Bool.true_or, Bool.or_false, Bool.false_or, if_true, if_false, ite_true, ite_false]
            · exact w_F hH hs2 (hu_s.trans (by simp only [mbr_s, mbr_k (show (49:Nat) ≠ 50 by decide), mbr_k (show (51:Nat) ≠ 50 by decide), mbr_k (show (51:Nat) ≠ 49 by decide)]; rfl)) (fun q hq => by simp only [hu_n hq]) (x := 0) rfl rfl (fun k hk => (mbr_k (by omega)).trans (mbr_k (by omega))) (fun k i hi => (mbr_o hi).trans (mbr_o hi))
      · skip
        refine wp_iconst (pc' := 37) (1) dX8_appeal_36 rfl rfl ?_
        refine wp_goto 41 dX8_appeal_37 rfl ?_
        refine wp_store (pc' := 42) (j := 3) (ls' := [_, _, _, _]) dX8_appeal_41 rfl (Nat.le_of_ble_eq_true rfl) rfl rfl ?_
        refine wp_load (pc' := 43) (j := 2) dX8_appeal_42 rfl rfl rfl ?_
        refine wp_iconst (pc' := 44) (1) dX8_appeal_43 rfl rfl ?_
        refine wp_put (pc' := 47) (fs' := [_, _, _, _, _, _]) dX8_appeal_44 fl_X8_237 (hF s2 hs2).1.1 (Nat.le_of_ble_eq_true rfl) rfl rfl rfl rfl ?_
        obtain ⟨⟨t, ht, et, hI1, h46⟩, -, hI3, -, hI5, -⟩ := id hI
        obtain ⟨c, a, m, p, hc, e41, ha, e42, e43, hmL, -, -, h47, h48⟩ := hI5 s2 hs2
        obtain ⟨u, hu1, e46⟩ := h46 s2 hs2
        obtain ⟨⟨L, hL3, hL12, el⟩, -⟩ := hI3 c hc
        have hH1 := (w_F (σ' := (mbr (zz σ) 49 s2 true)) hH hs2 (hu_s.trans (by first | (rw [mbr_s]; done) | (rw [mbr_s]; rfl))) (fun q hq => hu_n hq) (x := 0) rfl rfl (fun k hk => mbr_k (by omega)) (fun k i hi => mbr_o hi)).1
        have hI1' : PI (mbr (zz σ) 49 s2 true) N T := hI
        obtain ⟨-, -, hK1, -, -, -, -, -, -, -, -, hF1⟩ := id hH1
        obtain ⟨x, hx⟩ := (hF1 s2 hs2).2
        rw [show ((mbr (zz σ) 49 s2 true)).2.1 = σ.2.1 from rfl, e41, ix_nI (by omega), e42, e43] at hx
        have hjf : judFine (mbr (zz σ) 49 s2 true) s2 = judF (mbr (zz σ) 49 s2 true) c L (N 1) (N 3) (N 4) (nI a) (nI m) (σ.2.1 44 s2) (nI u) := jf_eq (σ := (mbr (zz σ) 49 s2 true)) (f := s2) hN e41 hc e42 e43 el (by omega) e46
        refine wp_load (pc' := 48) (j := 2) dX8_appeal_47 rfl rfl rfl ?_
        refine wp_load (pc' := 49) (j := 0) dX8_appeal_48 rfl rfl rfl ?_
        refine wp_load (pc' := 50) (j := 2) dX8_appeal_49 rfl rfl rfl ?_
        refine wp_get (pc' := 53) dX8_appeal_50 fl_X8_249 hu_s rfl rfl ?_
        refine wp_load (pc' := 54) (j := 2) dX8_appeal_53 rfl rfl rfl ?_
        refine wp_get (pc' := 57) dX8_appeal_54 fl_X8_250 hu_s rfl rfl ?_
        refine wp_load (pc' := 58) (j := 3) dX8_appeal_57 rfl rfl rfl ?_
        refine wp_v3 0 0 dX8_appeal_58 ml_X8_220 hK1.1 (Nat.le_of_ble_eq_true rfl) (by omega) (by omega) ?_
        first
        | refine c_judgeE (bl := true) hH1 hI1' (show u ≤ 49999 by omega) hx.1 hc el (by omega) e46 ?_
          rw [if_pos rfl]
        | refine c_judgeE (bl := false) hH1 hI1' (show u ≤ 49999 by omega) hx.1 hc el (by omega) e46 ?_
          rw [if_neg (show ¬ false = true by decide)]
        refine kt_v ?_
        refine wp_if_ne (pc' := 64) 68 dX8_appeal_61 rfl rfl (fun h61 => ?_) (fun h61 => ?_)
        · skip
          refine wp_iconst (pc' := 69) (0) dX8_appeal_68 rfl rfl ?_
          refine wp_put (pc' := 72) (fs' := [_, _, _, _, _, _]) dX8_appeal_69 fl_X8_253 hu_s (Nat.le_of_ble_eq_true rfl) rfl rfl rfl rfl ?_
          refine wp_load (pc' := 73) (j := 2) dX8_appeal_72 rfl rfl rfl ?_
          refine wp_get (pc' := 76) dX8_appeal_73 fl_X8_253 hu_s rfl rfl ?_
          refine wp_iret dX8_appeal_76 rfl rfl ?_
          first
          | exact absurd h61 (by decide)
          | skip
            refine hT2 (by simp only [mcode, K_appeal, h2, ix2, h10, h17, h33, h61, Bool.false_eq_true, decide_true, decide_false, Bool.not_true, Bool.not_false, Bool.and_true, Bool.true_and, Bool.and_false, Bool.false_and, Bool.or_true, Bool.true_or, Bool.or_false, Bool.false_or, if_true, if_false, ite_true, ite_false]) _ hs2 rfl _ true ?_ ?_
            · rw [h48, hjf]
              simp only [h2, ix2, h10, h17, h33, h61, Bool.false_eq_true, decide_true, decide_false, Bool.not_true, Bool.not_false, Bool.and_true, Bool.true_and, Bool.and_false, Bool.false_and, Bool.or_true, Bool.true_or, Bool.or_false, Bool.false_or, if_true, if_false, ite_true, ite_false]
            · exact w_F hH hs2 (hu_s.trans (by simp only [mbr_s, mbr_k (show (49:Nat) ≠ 50 by decide), mbr_k (show (51:Nat) ≠ 50 by decide), mbr_k (show (51:Nat) ≠ 49 by decide)]; rfl)) (fun q hq => by simp only [hu_n hq]) (x := 0) rfl rfl (fun k hk => (mbr_k (by omega)).trans (mbr_k (by omega))) (fun k i hi => (mbr_o hi).trans (mbr_o hi))
          | skip
            refine hT2 (by simp only [mcode, K_appeal, h2, ix2, h10, h17, h33, h61, Bool.false_eq_true, decide_true, decide_false, Bool.not_true, Bool.not_false, Bool.and_true, Bool.true_and, Bool.and_false, Bool.false_and, Bool.or_true, Bool.true_or, Bool.or_false, Bool.false_or, if_true, if_false, ite_true, ite_false]) _ hs2 rfl _ false ?_ ?_
            · rw [h48, hjf]
              simp only [h2, ix2, h10, h17, h33, h61, Bool.false_eq_true, decide_true, decide_false, Bool.not_true, Bool.not_false, Bool.and_true, Bool.true_and, Bool.and_false, Bool.false_and, Bool.or_true, Bool.true_or, Bool.or_false, Bool.false_or, if_true, if_false, ite_true, ite_false]
            · exact w_F hH hs2 (hu_s.trans (by simp only [mbr_s, mbr_k (show (49:Nat) ≠ 50 by decide), mbr_k (show (51:Nat) ≠ 50 by decide), mbr_k (show (51:Nat) ≠ 49 by decide)]; rfl)) (fun q hq => by simp only [hu_n hq]) (x := 0) rfl rfl (fun k hk => (mbr_k (by omega)).trans (mbr_k (by omega))) (fun k i hi => (mbr_o hi).trans (mbr_o hi))
        · skip
          refine wp_iconst (pc' := 65) (1) dX8_appeal_64 rfl rfl ?_
          refine wp_goto 69 dX8_appeal_65 rfl ?_
          refine wp_put (pc' := 72) (fs' := [_, _, _, _, _, _]) dX8_appeal_69 fl_X8_253 hu_s (Nat.le_of_ble_eq_true rfl) rfl rfl rfl rfl ?_
          refine wp_load (pc' := 73) (j := 2) dX8_appeal_72 rfl rfl rfl ?_
          refine wp_get (pc' := 76) dX8_appeal_73 fl_X8_253 hu_s rfl rfl ?_
          refine wp_iret dX8_appeal_76 rfl rfl ?_
          first
          | exact absurd h61 (by decide)
          | skip
            refine hT2 (by simp only [mcode, K_appeal, h2, ix2, h10, h17, h33, h61, Bool.false_eq_true, decide_true, decide_false, Bool.not_true, Bool.not_false, Bool.and_true, Bool.true_and, Bool.and_false, Bool.false_and, Bool.or_true, Bool.true_or, Bool.or_false, Bool.false_or, if_true, if_false, ite_true, ite_false]) _ hs2 rfl _ true ?_ ?_
            · rw [h48, hjf]
              simp only [h2, ix2, h10, h17, h33, h61, Bool.false_eq_true, decide_true, decide_false, Bool.not_true, Bool.not_false, Bool.and_true, Bool.true_and, Bool.and_false, Bool.false_and, Bool.or_true, Bool.true_or, Bool.or_false, Bool.false_or, if_true, if_false, ite_true, ite_false]
            · exact w_F hH hs2 (hu_s.trans (by simp only [mbr_s, mbr_k (show (49:Nat) ≠ 50 by decide), mbr_k (show (51:Nat) ≠ 50 by decide), mbr_k (show (51:Nat) ≠ 49 by decide)]; rfl)) (fun q hq => by simp only [hu_n hq]) (x := 0) rfl rfl (fun k hk => (mbr_k (by omega)).trans (mbr_k (by omega))) (fun k i hi => (mbr_o hi).trans (mbr_o hi))
          | skip
            refine hT2 (by simp only [mcode, K_appeal, h2, ix2, h10, h17, h33, h61, Bool.false_eq_true, decide_true, decide_false, Bool.not_true, Bool.not_false, Bool.and_true, Bool.true_and, Bool.and_false, Bool.false_and, Bool.or_true, Bool.true_or, Bool.or_false, Bool.false_or, if_true, if_false, ite_true, ite_false]) _ hs2 rfl _ false ?_ ?_
            · rw [h48, hjf]
              simp only [h2, ix2, h10, h17, h33, h61, Bool.false_eq_true, decide_true, decide_false, Bool.not_true, Bool.not_false, Bool.and_true, Bool.true_and, Bool.and_false, Bool.false_and, Bool.or_true, Bool.true_or, Bool.or_false, Bool.false_or, if_true, if_false, ite_true, ite_false]
            · exact w_F hH hs2 (hu_s.trans (by simp only [mbr_s, mbr_k (show (49:Nat) ≠ 50 by decide), mbr_k (show (51:Nat) ≠ 50 by decide), mbr_k (show (51:Nat) ≠ 49 by decide)]; rfl)) (fun q hq => by simp only [hu_n hq]) (x := 0) rfl rfl (fun k hk => (mbr_k (by omega)).trans (mbr_k (by omega))) (fun k i hi => (mbr_o hi).trans (mbr_o hi))

set_option maxRecDepth 20000 in
set_option maxHeartbeats 2000000 in
theorem c_endStand {E : XE} {d mc ms : Nat} {P : Ps} {G : HP} {own : Nat → Nat} {A : Nat → Nat → Nat} {F : Nat → Int32} {σ : MS} {N : Nat → Nat} (hH : CH E own A F σ N G) {i a : Nat} (hi : i < N 2) (hs : ¬ σ.2.1 25 i = -1) (ha : a < 4) (ea : σ.2.1 25 i = nI a) (hP : ∀ G', CW E own A F (mar (zz σ) 25 i (-1)) N G G' → G' (A 12 i) = some (hO 6 [.ref (A 5 i), .int (σ.2.1 25 i), .int (σ.2.1 26 i), .int (σ.2.1 27 i), .int (F i)]) → P (.inl none) G') : Sp E (d + 5) yX8_endStand mc ms [.ref (A 0 0), .ref (A 12 i)] G P := by
  obtain ⟨hON, hN, hK, hL, hD, hT, hS, hW, hC, hPm, hY, hF⟩ := id hH
  obtain ⟨n0, n1, n2, n3, n4, n5, e7, e22, e29, e35, e40⟩ := id hN
  refine sp_intro bd_X8_endStand (v1_all rfl) (Nat.le_of_ble_eq_true rfl) ?_
  change WX _ _ _ _ _ _ 0 [some (.ref (A 0 0)), some (.ref (A 12 i))] [] _ 0 0
  refine wp_load (pc' := 1) (j := 0) dX8_endStand_0 rfl rfl rfl ?_
  refine wp_load (pc' := 2) (j := 1) dX8_endStand_1 rfl rfl rfl ?_
  refine wp_get (pc' := 5) dX8_endStand_2 fl_X8_226 ((hC i hi).2 hs).1 rfl rfl ?_
  refine wp_v1 0 0 dX8_endStand_5 ml_X8_49 hK.1 (Nat.le_of_ble_eq_true rfl) (by omega) (by omega) ?_
  rw [ea]
  refine c_streetOk hH ha ?_
  refine kt_v ?_
  refine wp_dup (pc' := 9) dX8_endStand_8 rfl rfl ?_
  refine wp_get (pc' := 12) dX8_endStand_9 fl_X8_184 (hT a ha).1.1 rfl rfl ?_
  refine wp_load (pc' := 13) (j := 1) dX8_endStand_12 rfl rfl rfl ?_
  refine wp_get (pc' := 16) dX8_endStand_13 fl_X8_263 ((hC i hi).2 hs).1 rfl rfl ?_
  refine wp_get (pc' := 19) dX8_endStand_16 fl_X8_173 (hC i hi).1.1 rfl rfl ?_
  refine wp_pure (pc' := 20) dX8_endStand_19 rfl rfl ?_
  refine wp_put (pc' := 23) (fs' := [_, _, _, _, _, _]) dX8_endStand_20 fl_X8_184 (hT a ha).1.1 (Nat.le_of_ble_eq_true rfl) rfl rfl rfl rfl ?_
  refine wp_load (pc' := 24) (j := 1) dX8_endStand_23 rfl rfl rfl ?_
  refine wp_get (pc' := 27) dX8_endStand_24 fl_X8_263 ((hu_n (ne_kd ((hC i hi).2 hs).1 (hT a ha).1.1 (Nat.ne_of_beq_eq_false rfl))).trans ((hC i hi).2 hs).1) rfl rfl ?_
  refine wp_pure (pc' := 28) dX8_endStand_27 rfl rfl ?_
  refine wp_put (pc' := 31) (fs' := [_, _, _, _]) dX8_endStand_28 fl_X8_169 ((hu_n (ne_kd (hC i hi).1.1 (hT a ha).1.1 (Nat.ne_of_beq_eq_false rfl))).trans (hC i hi).1.1) (Nat.le_of_ble_eq_true rfl) rfl rfl rfl rfl ?_
  refine wp_vret dX8_endStand_31 rfl ?_
  have hne : A 5 i ≠ A 3 a := ne_kd (hC i hi).1.1 (hT a ha).1.1 (Nat.ne_of_beq_eq_false rfl)
  have kp := kp_tr (kp_put (e1 := hO 7 [.ref (A 11 a), .int (σ.2.1 52 a), .int (takenF σ (nI a) (N 2) - σ.2.1 23 i), .int (σ.2.1 55 a), .int (σ.2.1 53 a), .int (σ.2.1 54 a)]) (hT a ha).1.1 rfl) (kp_put (e1 := hO 1 [.int (nI i), .int (σ.2.1 23 i), .int (σ.2.1 24 i), .null]) ((hu_n hne).trans (hC i hi).1.1) rfl)
  have fr := fr0_tr (fr0_put (G := G) (e := hO 7 [.ref (A 11 a), .int (σ.2.1 52 a), .int (takenF σ (nI a) (N 2) - σ.2.1 23 i), .int (σ.2.1 55 a), .int (σ.2.1 53 a), .int (σ.2.1 54 a)]) (hT a ha).1.2) (fr0_put (e := hO 1 [.int (nI i), .int (σ.2.1 23 i), .int (σ.2.1 24 i), .null]) (hC i hi).1.2)
  refine hP _ ⟨⟨on_fr hON fr, hN, kK hK kp rfl, kL hL kp rfl rfl, hD, ?_, kS hS kp rfl rfl, kWn hW kp rfl, ?_, kPm hPm kp rfl, kY hY kp rfl, kF hF kp rfl rfl⟩, fr⟩ (kp _ _ ((hC i hi).2 hs).1 rfl)
  · intro b hb
    refine ⟨?_, (hT b hb).2.imp (fun _ z => ⟨cl_kp z.1 kp rfl, z.2⟩)⟩
    have ne2 : A 3 b ≠ A 5 i := ne_kd (hT b hb).1.1 (hC i hi).1.1 (Nat.ne_of_beq_eq_false rfl)
    have et2 := taken_off (σ := σ) (τ := mar (zz σ) 25 i (-1)) (i := i) (fun j hj => mar_n hj) mar_s rfl (rfl : nI b = nI b) hb (N 2)
    by_cases e : b = a
    · subst e
      rw [if_pos ⟨hi, ea⟩] at et2
      rw [et2]
      exact ⟨(hu_n ne2).trans hu_s, (hT b hb).1.2⟩
    · rw [if_neg (fun z => e ((nI_eq (show b < 2 ^ 31 by omega) (show a < 2 ^ 31 by omega)).1 (z.2.symm.trans ea)))] at et2
      rw [et2]
      exact ⟨(hu_n ne2).trans ((hu_n (fun z => e (hD.2.1 0 (by decide) b a (by omega) (by omega) z))).trans (hT b hb).1.1), (hT b hb).1.2⟩
  · intro k hk
    by_cases e : k = i
    · subst e
      refine ⟨⟨hu_s.trans ?_, (hC k hk).1.2⟩, fun z => absurd mar_s z⟩
      rw [show stV A (mar (zz σ) 25 k (-1)) k = .null from if_pos mar_s]
      rfl
    · have e3 : (mar (zz σ) 25 i (-1)).2.1 25 k = σ.2.1 25 k := mar_n e
      have hk5 : A 5 k ≠ A 3 a := ne_kd (hC k hk).1.1 (hT a ha).1.1 (Nat.ne_of_beq_eq_false rfl)
      refine ⟨⟨(hu_n (fun z => e (hD.2.1 2 (by decide) k i hk hi z))).trans ((hu_n hk5).trans ((hC k hk).1.1.trans ?_)), (hC k hk).1.2⟩, fun z => ?_⟩
      · rw [show stV A (mar (zz σ) 25 i (-1)) k = stV A σ k from by unfold stV; rw [e3]]
        rfl
      · rw [e3] at z
        have q := cl_kp ((hC k hk).2 z) kp rfl
        rw [← e3] at q
        exact q

set_option maxRecDepth 20000 in
set_option maxHeartbeats 2000000 in
theorem q_leave {E : XE} {d mc ms : Nat} {P : Ps} {G : HP} {own : Nat → Nat} {A : Nat → Nat → Nat} {F : Nat → Int32} {σ : MS} {N : Nat → Nat} (hH : CH E own A F σ N G) {T : Nat} (hI : PI σ N T) {i : Int32} (hmc : 10 ≤ mc) (hms : 1000 ≤ ms) (hX : ∀ X, exQ (K_leave σ i) X → P (.inr X) G) (hT2 : K_leave σ i = 0 → ∀ j, j < N 2 → i = nI j → ∀ G', CW E own A F (mar (zz σ) 25 j (-1)) N G G' → P (.inl (some (.int (σ.1 0 - σ.2.1 27 j)))) G') : Sp E (d + 11) yX8_leave mc ms [.ref (A 0 0), .int i] G P := by
  obtain ⟨hON, hN, hK, hL, hD, hT, hS, hW, hC, hPm, hY, hF⟩ := id hH
  obtain ⟨n0, n1, n2, n3, n4, n5, e7, e22, e29, e35, e40⟩ := id hN
  refine sp_intro bd_X8_leave (v1_all rfl) (Nat.le_of_ble_eq_true rfl) ?_
  change WX _ _ _ _ _ _ 0 [some (.ref (A 0 0)), some (.int i), none, none] [] _ 0 0
  refine wp_load (pc' := 1) (j := 0) dX8_leave_0 rfl rfl rfl ?_
  refine wp_load (pc' := 2) (j := 1) dX8_leave_1 rfl rfl rfl ?_
  refine wp_v1 1 6 dX8_leave_2 ml_X8_146 hK.1 (Nat.le_of_ble_eq_true rfl) (by omega) (by omega) ?_
  refine c_carOf hH (by omega) (by omega) (fun h2 => kt_x rfl (hX _ (exQ1 (by simp only [mcode, K_leave, e7, e22, e29, e35, e40, if_true, h2, Bool.false_eq_true, decide_true, decide_false, Bool.not_true, Bool.not_false, Bool.and_true, Bool.true_and, Bool.and_false, Bool.false_and, Bool.or_true, Bool.true_or, Bool.or_false, Bool.false_or, if_true, if_false, ite_true, ite_false])))) (fun s2 hs2 es2 h2 => ?_)
  obtain rfl := es2
  have ix2 : ix (nI s2) = s2 := ix_nI (by omega)
  refine kt_v ?_
  refine wp_store (pc' := 6) (j := 2) (ls' := [_, _, _, _]) dX8_leave_5 rfl (Nat.le_of_ble_eq_true rfl) rfl rfl ?_
  refine wp_load (pc' := 7) (j := 2) dX8_leave_6 rfl rfl rfl ?_
  refine wp_get (pc' := 10) dX8_leave_7 fl_X8_169 (hC s2 hs2).1.1 rfl rfl ?_
  by_cases hs5 : σ.2.1 25 s2 = -1
  · skip
    rw [show stV A σ s2 = .null from if_pos hs5]
    refine wp_store (pc' := 11) (j := 3) (ls' := [_, _, _, _]) dX8_leave_10 rfl (Nat.le_of_ble_eq_true rfl) rfl rfl ?_
    refine wp_load (pc' := 12) (j := 3) dX8_leave_11 rfl rfl rfl ?_
    refine wp_non (pc' := 15) dX8_leave_12 rfl ?_
    refine wp_thr dX8_leave_15 dX8_leave_18 (Or.inl ⟨dX8_leave_19, dX8_leave_21, dX8_leave_24⟩) th_X8_189 rfl (by omega) (Nat.le_of_ble_eq_true rfl) (by omega) (by omega) ?_
    exact hX _ (exQ3 (by simp only [mcode, K_leave, h2, ix2, hs5, Bool.false_eq_true, decide_true, decide_false, Bool.not_true, Bool.not_false, Bool.and_true, Bool.true_and, Bool.and_false, Bool.false_and, Bool.or_true, Bool.true_or, Bool.or_false, Bool.false_or, if_true, if_false, ite_true, ite_false]))
  · skip
    rw [show stV A σ s2 = .ref (A 12 s2) from if_neg hs5]
    obtain ⟨-, -, hI3, -⟩ := id hI
    obtain ⟨-, h25⟩ := hI3 s2 hs2
    obtain ⟨a, m, ha, ea, -⟩ := h25 hs5
    refine wp_store (pc' := 11) (j := 3) (ls' := [_, _, _, _]) dX8_leave_10 rfl (Nat.le_of_ble_eq_true rfl) rfl rfl ?_
    refine wp_load (pc' := 12) (j := 3) dX8_leave_11 rfl rfl rfl ?_
    refine wp_nonR 25 dX8_leave_12 rfl ?_
    refine wp_load (pc' := 26) (j := 0) dX8_leave_25 rfl rfl rfl ?_
    refine wp_load (pc' := 27) (j := 3) dX8_leave_26 rfl rfl rfl ?_
    refine wp_v1 0 0 dX8_leave_27 ml_X8_192 hK.1 (Nat.le_of_ble_eq_true rfl) (by omega) (by omega) ?_
    refine c_endStand hH hs2 hs5 ha ea (fun G1 hW1 hst1 => ?_)
    obtain ⟨hH1, hf1⟩ := id hW1
    obtain ⟨-, -, hK1, -⟩ := id hH1
    refine kt_u ?_
    refine wp_load (pc' := 31) (j := 0) dX8_leave_30 rfl rfl rfl ?_
    refine wp_get (pc' := 34) dX8_leave_31 fl_X8_38 hK1.1 rfl rfl ?_
    refine wp_load (pc' := 35) (j := 3) dX8_leave_34 rfl rfl rfl ?_
    refine wp_get (pc' := 38) dX8_leave_35 fl_X8_196 hst1 rfl rfl ?_
    refine wp_pure (pc' := 39) dX8_leave_38 rfl rfl ?_
    refine wp_iret dX8_leave_39 rfl rfl ?_
    exact hT2 (by simp only [mcode, K_leave, h2, ix2, hs5, Bool.false_eq_true, decide_true, decide_false, Bool.not_true, Bool.not_false, Bool.and_true, Bool.true_and, Bool.and_false, Bool.false_and, Bool.or_true, Bool.true_or, Bool.or_false, Bool.false_or, if_true, if_false, ite_true, ite_false]) _ hs2 rfl _ hW1

set_option maxRecDepth 20000 in
set_option maxHeartbeats 2000000 in
theorem q_tow {E : XE} {d mc ms : Nat} {P : Ps} {G : HP} {own : Nat → Nat} {A : Nat → Nat → Nat} {F : Nat → Int32} {σ : MS} {N : Nat → Nat} (hH : CH E own A F σ N G) {T : Nat} (hI : PI σ N T) {i : Int32} (hmc : 10 ≤ mc) (hms : 1000 ≤ ms) (hX : ∀ X, exQ (K_tow σ (N 5) i) X → P (.inr X) G) (hT2 : K_tow σ (N 5) i = 0 → ∀ j, j < N 2 → i = nI j → ∀ G', CW E own A F (mar (zz σ) 25 j (-1)) N G G' → P (.inl (some (.int (debtF σ j (N 5))))) G') : Sp E (d + 11) yX8_tow mc ms [.ref (A 0 0), .int i] G P := by
  obtain ⟨hON, hN, hK, hL, hD, hT, hS, hW, hC, hPm, hY, hF⟩ := id hH
  obtain ⟨n0, n1, n2, n3, n4, n5, e7, e22, e29, e35, e40⟩ := id hN
  refine sp_intro bd_X8_tow (v1_all rfl) (Nat.le_of_ble_eq_true rfl) ?_
  change WX _ _ _ _ _ _ 0 [some (.ref (A 0 0)), some (.int i), none, none, none] [] _ 0 0
  refine wp_load (pc' := 1) (j := 0) dX8_tow_0 rfl rfl rfl ?_
  refine wp_load (pc' := 2) (j := 1) dX8_tow_1 rfl rfl rfl ?_
  refine wp_v1 1 6 dX8_tow_2 ml_X8_146 hK.1 (Nat.le_of_ble_eq_true rfl) (by omega) (by omega) ?_
  refine c_carOf hH (by omega) (by omega) (fun h2 => kt_x rfl (hX _ (exQ1 (by simp only [mcode, K_tow, e7, e22, e29, e35, e40, if_true, h2, Bool.false_eq_true, decide_true, decide_false, Bool.not_true, Bool.not_false, Bool.and_true, Bool.true_and, Bool.and_false, Bool.false_and, Bool.or_true, Bool.true_or, Bool.or_false, Bool.false_or, if_true, if_false, ite_true, ite_false])))) (fun s2 hs2 es2 h2 => ?_)
  obtain rfl := es2
  have ix2 : ix (nI s2) = s2 := ix_nI (by omega)
  refine kt_v ?_
  refine wp_store (pc' := 6) (j := 2) (ls' := [_, _, _, _, _]) dX8_tow_5 rfl (Nat.le_of_ble_eq_true rfl) rfl rfl ?_
  refine wp_load (pc' := 7) (j := 2) dX8_tow_6 rfl rfl rfl ?_
  refine wp_get (pc' := 10) dX8_tow_7 fl_X8_169 (hC s2 hs2).1.1 rfl rfl ?_
  by_cases hs5 : σ.2.1 25 s2 = -1
  · skip
    rw [show stV A σ s2 = .null from if_pos hs5]
    refine wp_store (pc' := 11) (j := 3) (ls' := [_, _, _, _, _]) dX8_tow_10 rfl (Nat.le_of_ble_eq_true rfl) rfl rfl ?_
    refine wp_load (pc' := 12) (j := 0) dX8_tow_11 rfl rfl rfl ?_
    refine wp_load (pc' := 13) (j := 2) dX8_tow_12 rfl rfl rfl ?_
    refine wp_v1 0 0 dX8_tow_13 ml_X8_271 hK.1 (Nat.le_of_ble_eq_true rfl) (by omega) (by omega) ?_
    refine c_debt hH hI hs2 ?_
    refine kt_v ?_
    refine wp_store (pc' := 18) (j := 4) (ls' := [_, _, _, _, _]) dX8_tow_16 rfl (Nat.le_of_ble_eq_true rfl) rfl rfl ?_
    refine wp_load (pc' := 19) (j := 3) dX8_tow_18 rfl rfl rfl ?_
    refine wp_nul 30 dX8_tow_19 rfl ?_
    refine wp_thr dX8_tow_30 dX8_tow_33 (Or.inr ⟨dX8_tow_34, dX8_tow_37, dX8_tow_40⟩) th_X8_275 rfl (by omega) (Nat.le_of_ble_eq_true rfl) (by omega) (by omega) ?_
    exact hX _ (exQ3 (by simp only [mcode, K_tow, ← dle, h2, ix2, hs5, Bool.false_eq_true, decide_true, decide_false, Bool.not_true, Bool.not_false, Bool.and_true, Bool.true_and, Bool.and_false, Bool.false_and, Bool.or_true, Bool.true_or, Bool.or_false, Bool.false_or, if_true, if_false, ite_true, ite_false]))
  · skip
    rw [show stV A σ s2 = .ref (A 12 s2) from if_neg hs5]
    obtain ⟨-, -, hI3, -⟩ := id hI
    obtain ⟨-, h25⟩ := hI3 s2 hs2
    obtain ⟨a, m, ha, ea, -⟩ := h25 hs5
    refine wp_store (pc' := 11) (j := 3) (ls' := [_, _, _, _, _]) dX8_tow_10 rfl (Nat.le_of_ble_eq_true rfl) rfl rfl ?_
    refine wp_load (pc' := 12) (j := 0) dX8_tow_11 rfl rfl rfl ?_
    refine wp_load (pc' := 13) (j := 2) dX8_tow_12 rfl rfl rfl ?_
    refine wp_v1 0 0 dX8_tow_13 ml_X8_271 hK.1 (Nat.le_of_ble_eq_true rfl) (by omega) (by omega) ?_
    refine c_debt hH hI hs2 ?_
    refine kt_v ?_
    refine wp_store (pc' := 18) (j := 4) (ls' := [_, _, _, _, _]) dX8_tow_16 rfl (Nat.le_of_ble_eq_true rfl) rfl rfl ?_
    refine wp_load (pc' := 19) (j := 3) dX8_tow_18 rfl rfl rfl ?_
    refine wp_nulR (pc' := 22) dX8_tow_19 rfl ?_
    refine wp_load (pc' := 24) (j := 4) dX8_tow_22 rfl rfl rfl ?_
    refine wp_sipush (pc' := 27) (200) dX8_tow_24 rfl rfl ?_
    refine wp_icmp_ge (pc' := 30) 41 dX8_tow_27 rfl rfl (fun h27 => ?_) (fun h27 => ?_)
    · skip
      refine wp_load (pc' := 42) (j := 0) dX8_tow_41 rfl rfl rfl ?_
      refine wp_load (pc' := 43) (j := 3) dX8_tow_42 rfl rfl rfl ?_
      refine wp_v1 0 0 dX8_tow_43 ml_X8_192 hK.1 (Nat.le_of_ble_eq_true rfl) (by omega) (by omega) ?_
      refine c_endStand hH hs2 hs5 ha ea (fun G1 hW1 hst1 => ?_)
      obtain ⟨hH1, hf1⟩ := id hW1
      obtain ⟨-, -, hK1, -⟩ := id hH1
      refine kt_u ?_
      refine wp_load (pc' := 48) (j := 4) dX8_tow_46 rfl rfl rfl ?_
      refine wp_iret dX8_tow_48 rfl rfl ?_
      exact hT2 (by simp only [mcode, K_tow, ← dle, h2, ix2, hs5, h27, Bool.false_eq_true, decide_true, decide_false, Bool.not_true, Bool.not_false, Bool.and_true, Bool.true_and, Bool.and_false, Bool.false_and, Bool.or_true, Bool.true_or, Bool.or_false, Bool.false_or, if_true, if_false, ite_true, ite_false]) _ hs2 rfl _ hW1
    · skip
      refine wp_thr dX8_tow_30 dX8_tow_33 (Or.inr ⟨dX8_tow_34, dX8_tow_37, dX8_tow_40⟩) th_X8_275 rfl (by omega) (Nat.le_of_ble_eq_true rfl) (by omega) (by omega) ?_
      exact hX _ (exQ3 (by simp only [mcode, K_tow, ← dle, h2, ix2, hs5, h27, Bool.false_eq_true, decide_true, decide_false, Bool.not_true, Bool.not_false, Bool.and_true, Bool.true_and, Bool.and_false, Bool.false_and, Bool.or_true, Bool.true_or, Bool.or_false, Bool.false_or, if_true, if_false, ite_true, ite_false]))

