/-! the reference: look, pass -/
def LI (τ : MS) (n nc np ny : Nat) : Prop := τ.1 7 = nI n ∧ n ≤ 30 ∧ τ.1 22 = nI nc ∧ nc ≤ 30 ∧ τ.1 29 = nI np ∧ np ≤ 40 ∧ τ.1 35 = nI ny ∧ ny ≤ 200 ∧ (∃ nf, nf ≤ 60 ∧ τ.1 40 = nI nf) ∧ ∀ i, i < nc → ¬ τ.2.1 25 i = -1 → CarOK τ i ∧ ∃ a, a < 4 ∧ τ.2.1 25 i = nI a
theorem li_giv {τ : MS} {n nc np ny nf i : Nat} {w : Int32} (h : LI τ n nc np ny) (hf : τ.1 40 = nI nf) (hf60 : nf < 60) : LI (givF τ i w) n nc np ny := by
  obtain ⟨h1, h2, h3, h4, h5, h6, h7, h8, -, h10⟩ := h
  refine ⟨h1, h2, h3, h4, h5, h6, h7, h8, ⟨nf + 1, by omega, ?_⟩, h10⟩
  show τ.1 40 + 1 = nI (nf + 1)
  rw [hf, nI_1]
theorem li_look1 {τ : MS} {n nc np ny i : Nat} {s : Int32} (h : LI τ n nc np ny) : LI (look1 τ s i) n nc np ny := by
  unfold look1
  split
  · next hc =>
    obtain ⟨nf, hf60, hf⟩ := h.2.2.2.2.2.2.2.2.1
    refine li_giv h hf ?_
    simp only [Bool.and_eq_true, Bool.not_eq_true', decide_eq_false_iff_not] at hc
    rcases Nat.lt_or_ge nf 60 with q | q
    · exact q
    · exact absurd (show (60 : Int32) ≤ τ.1 40 from by rw [hf]; exact nI_le q (by omega)) hc.1.1.2
  · exact h
theorem li_look {τ : MS} {n nc np ny : Nat} {s : Int32} (h : LI τ n nc np ny) : ∀ k, LI (lookF τ s k) n nc np ny
  | 0 => h
  | k + 1 => li_look1 (li_look h k)
set_option maxRecDepth 20000 in
set_option maxHeartbeats 2000000 in
theorem l_look {E : XE} {d0 d mc ms : Nat} {P : Ps} (hd : d = d0 + 6) {m : Nat} {aM own : Nat → Nat} {τ : MS} {n nc np ny : Nat} (hI : LI τ n nc np ny) {a : Nat} (ha : a < 4) {bf : Int32} {G0 : HP} (hP : ∀ G', MH m aM own (lookF τ (nI a) nc) G' → Fr1 own G0 G' → P (.inl (some (.int ((lookF τ (nI a) nc).1 40 - bf)))) G') : ∀ j k, k + j = nc → ∀ z4 : Option Value, ∀ (G : HP), ∀ (hM : MH m aM own (lookF τ (nI a) k) G), ∀ (hF : Fr1 own G0 G), WX E d (yX9_look, cX9_look, (some .int), []) mc ms P 22 [some (.ref m), some (.int (nI a)), some (.int bf), some (.int (nI k)), z4] [] G 0 0
  | 0, k, hk, z4, G, hM, hF => by
    subst hd
    obtain ⟨hs, hs30, hc, hc30, hp, hp40, hy, hy200, ⟨nf, hf60, hf⟩, hW⟩ := li_look (s := nI a) hI k
    have hix : ix ((lookF τ (nI a) k).1 40) = nf := by rw [hf]; exact ix_nI (by omega)
    obtain ⟨hm, hA, -⟩ := id hM
    refine wp_load (pc' := 23) (j := 3) dX9_look_22 rfl rfl rfl ?_
    refine wp_load (pc' := 24) (j := 0) dX9_look_23 rfl rfl rfl ?_
    refine wp_get (pc' := 27) dX9_look_24 fl_X9_157 hm rfl rfl ?_
    refine wp_icmpT 82 dX9_look_27 rfl (cgeT hc (by omega) (by omega)) ?_
    refine wp_load (pc' := 83) (j := 0) dX9_look_82 rfl rfl rfl ?_
    refine wp_get (pc' := 86) dX9_look_83 fl_X9_251 hm rfl rfl ?_
    refine wp_load (pc' := 87) (j := 2) dX9_look_86 rfl rfl rfl ?_
    refine wp_pure (pc' := 88) dX9_look_87 rfl rfl ?_
    refine wp_iret dX9_look_88 rfl rfl ?_
    obtain rfl : k = nc := by omega
    exact hP _ hM hF
  | j + 1, k, hk, z4, G, hM, hF => by
    have ih := l_look (E := E) (d := d) (mc := mc) (ms := ms) hd hI ha hP j (k + 1) (by omega)
    subst hd
    obtain ⟨hs, hs30, hc, hc30, hp, hp40, hy, hy200, ⟨nf, hf60, hf⟩, hW⟩ := li_look (s := nI a) hI k
    have hix : ix ((lookF τ (nI a) k).1 40) = nf := by rw [hf]; exact ix_nI (by omega)
    obtain ⟨hm, hA, -⟩ := id hM
    refine wp_load (pc' := 23) (j := 3) dX9_look_22 rfl rfl rfl ?_
    refine wp_load (pc' := 24) (j := 0) dX9_look_23 rfl rfl rfl ?_
    refine wp_get (pc' := 27) dX9_look_24 fl_X9_157 hm rfl rfl ?_
    refine wp_icmpF (pc' := 30) 82 dX9_look_27 rfl rfl (cgeF hc (by omega) (by omega)) ?_
    refine wp_load (pc' := 31) (j := 0) dX9_look_30 rfl rfl rfl ?_
    refine wp_get (pc' := 34) dX9_look_31 fl_X9_62 hm rfl rfl ?_
    refine wp_load (pc' := 35) (j := 3) dX9_look_34 rfl rfl rfl ?_
    refine wp_iald (pc' := 36) dX9_look_35 (hA 25 (by decide)) rfl (show k < 30 from by omega) (by decide) rfl ?_
    refine wp_load (pc' := 37) (j := 1) dX9_look_36 rfl rfl rfl ?_
    refine wp_icmp_ne (pc' := 40) 76 dX9_look_37 rfl rfl (fun h37 => ?_) (fun h37 => ?_)
    · skip
      skip
      refine wp_iinc (pc' := 79) (j := 3) (ls' := [_, _, _, _, _]) (nI (k + 1)) dX9_look_76 rfl (nI_1 k) rfl rfl ?_
      refine wp_goto 22 dX9_look_79 rfl ?_
      have e : lookF τ (nI a) (k + 1) = lookF τ (nI a) k := by
        show look1 _ _ _ = _
        unfold look1
        simp only [hix, h37, Bool.false_eq_true, decide_true, decide_false, Bool.not_true, Bool.not_false, Bool.and_true, Bool.true_and, Bool.and_false, Bool.false_and, Bool.or_true, Bool.true_or, Bool.or_false, Bool.false_or, if_true, if_false, ite_true, ite_false]
      exact ih _ G (by rw [e]; exact hM) hF
    · skip
      have h37x : (lookF τ (nI a) k).2.1 25 k = nI a := h37
      obtain ⟨hC, -⟩ := hW k (by omega) (by rw [h37x]; exact nI_nm1 (by omega))
      
      refine wp_load (pc' := 41) (j := 0) dX9_look_40 rfl rfl rfl ?_
      refine wp_get (pc' := 44) dX9_look_41 fl_X9_251 hm rfl rfl ?_
      refine wp_bipush (pc' := 46) (60) dX9_look_44 rfl rfl ?_
      refine wp_icmp_ge (pc' := 49) 76 dX9_look_46 rfl rfl (fun h46 => ?_) (fun h46 => ?_)
      · skip
        skip
        refine wp_iinc (pc' := 79) (j := 3) (ls' := [_, _, _, _, _]) (nI (k + 1)) dX9_look_76 rfl (nI_1 k) rfl rfl ?_
        refine wp_goto 22 dX9_look_79 rfl ?_
        have e : lookF τ (nI a) (k + 1) = lookF τ (nI a) k := by
          show look1 _ _ _ = _
          unfold look1
          simp only [hix, h37, h46, Bool.false_eq_true, decide_true, decide_false, Bool.not_true, Bool.not_false, Bool.and_true, Bool.true_and, Bool.and_false, Bool.false_and, Bool.or_true, Bool.true_or, Bool.or_false, Bool.false_or, if_true, if_false, ite_true, ite_false]
        exact ih _ G (by rw [e]; exact hM) hF
      · skip
        have hlt : nf < 60 := by
          rw [hf] at h46
          rcases Nat.lt_or_ge nf 60 with q | q
          · exact q
          · exact absurd (show (60 : Int32) ≤ nI nf from nI_le q (by omega)) h46
        refine wp_load (pc' := 50) (j := 0) dX9_look_49 rfl rfl rfl ?_
        refine wp_load (pc' := 51) (j := 3) dX9_look_50 rfl rfl rfl ?_
        refine wp_v1 0 0 dX9_look_51 ml_X9_254 hm (Nat.le_of_ble_eq_true rfl) (by omega) (by omega) ?_
        refine s_hasFine hM hf hf60 (by omega) ?_
        refine kt_v ?_
        refine wp_ifneB (pc' := 57) 76 dX9_look_54 rfl rfl (fun h54 => ?_) (fun h54 => ?_)
        · skip
          refine wp_iinc (pc' := 79) (j := 3) (ls' := [_, _, _, _, _]) (nI (k + 1)) dX9_look_76 rfl (nI_1 k) rfl rfl ?_
          refine wp_goto 22 dX9_look_79 rfl ?_
          have e : lookF τ (nI a) (k + 1) = lookF τ (nI a) k := by
            show look1 _ _ _ = _
            unfold look1
            simp only [hix, h37, h46, h54, Bool.false_eq_true, decide_true, decide_false, Bool.not_true, Bool.not_false, Bool.and_true, Bool.true_and, Bool.and_false, Bool.false_and, Bool.or_true, Bool.true_or, Bool.or_false, Bool.false_or, if_true, if_false, ite_true, ite_false]
          exact ih _ G (by rw [e]; exact hM) hF
        · skip
          refine wp_load (pc' := 58) (j := 0) dX9_look_57 rfl rfl rfl ?_
          refine wp_load (pc' := 59) (j := 3) dX9_look_58 rfl rfl rfl ?_
          refine wp_v1 0 0 dX9_look_59 ml_X9_247 hm (Nat.le_of_ble_eq_true rfl) (by omega) (by omega) ?_
          refine s_judNow hM hs hs30 hp hp40 hy hy200 (by omega) hC ?_
          refine kt_v ?_
          refine wp_store (pc' := 64) (j := 4) (ls' := [_, _, _, _, _]) dX9_look_62 rfl (Nat.le_of_ble_eq_true rfl) rfl rfl ?_
          refine wp_load (pc' := 66) (j := 4) dX9_look_64 rfl rfl rfl ?_
          refine wp_if_eq (pc' := 69) 76 dX9_look_66 rfl rfl (fun h66 => ?_) (fun h66 => ?_)
          · skip
            refine wp_iinc (pc' := 79) (j := 3) (ls' := [_, _, _, _, _]) (nI (k + 1)) dX9_look_76 rfl (nI_1 k) rfl rfl ?_
            refine wp_goto 22 dX9_look_79 rfl ?_
            have e : lookF τ (nI a) (k + 1) = lookF τ (nI a) k := by
              show look1 _ _ _ = _
              unfold look1
              simp only [hix, h37, h46, h54, h66, Bool.false_eq_true, decide_true, decide_false, Bool.not_true, Bool.not_false, Bool.and_true, Bool.true_and, Bool.and_false, Bool.false_and, Bool.or_true, Bool.true_or, Bool.or_false, Bool.false_or, if_true, if_false, ite_true, ite_false]
            exact ih _ G (by rw [e]; exact hM) hF
          · skip
            refine wp_load (pc' := 70) (j := 0) dX9_look_69 rfl rfl rfl ?_
            refine wp_load (pc' := 71) (j := 3) dX9_look_70 rfl rfl rfl ?_
            refine wp_load (pc' := 73) (j := 4) dX9_look_71 rfl rfl rfl ?_
            refine wp_v2 0 0 dX9_look_73 ml_X9_257 hm (Nat.le_of_ble_eq_true rfl) (by omega) (by omega) ?_
            refine s_gives hM hF hf hlt (by omega) ha h37x (fun G1 hM1 hF1 => ?_)
            refine kt_u ?_
            obtain ⟨hm1, hA1, -⟩ := id hM1
            refine wp_iinc (pc' := 79) (j := 3) (ls' := [_, _, _, _, _]) (nI (k + 1)) dX9_look_76 rfl (nI_1 k) rfl rfl ?_
            refine wp_goto 22 dX9_look_79 rfl ?_
            have e : lookF τ (nI a) (k + 1) = givF (lookF τ (nI a) k) k (judNow (lookF τ (nI a) k) k) := by
              show look1 _ _ _ = _
              unfold look1
              simp only [hix, h37x, h46, h54, h66, Bool.false_eq_true, decide_true, decide_false, Bool.not_true, Bool.not_false, Bool.and_true, Bool.true_and, Bool.and_false, Bool.false_and, Bool.or_true, Bool.true_or, Bool.or_false, Bool.false_or, if_true, if_false, ite_true, ite_false]
            exact ih _ _ (by rw [e]; exact hM1) hF1

set_option maxRecDepth 20000 in
set_option maxHeartbeats 2000000 in
theorem p_look {E : XE} {d mc ms : Nat} {G : HP} {P : Ps} {m : Nat} {aM own : Nat → Nat} {σ : MS} (hM : MH m aM own σ G) {n nc np ny : Nat} (hI : LI σ n nc np ny) {s : Int32} (hX : ∀ c G', c = K_look s → c ≠ 0 → MH m aM own (msc σ 56 c) G' → Fr1 own G G' → P (.inl (some (.int 0))) G') (hT : K_look s = 0 → ∀ a, a < 4 → s = nI a → ∀ G', MH m aM own (lookF (zz σ) s nc) G' → Fr1 own G G' → P (.inl (some (.int ((lookF (zz σ) s nc).1 40 - σ.1 40)))) G') : Sp E (d + 7) yX9_look mc ms [.ref m, .int s] G P := by
  have hF : Fr1 own G G := fr1_rf
  obtain ⟨hm, hA, -⟩ := id hM
  refine sp_intro bd_X9_look (v1_all rfl) (Nat.le_of_ble_eq_true rfl) ?_
  change WX _ _ _ _ _ _ 0 [some (.ref m), some (.int s), none, none, none] [] _ 0 0
  refine wp_load (pc' := 1) (j := 0) dX9_look_0 rfl rfl rfl ?_
  refine wp_load (pc' := 2) (j := 1) dX9_look_1 rfl rfl rfl ?_
  refine wp_s1 0 0 dX9_look_2 ml_X9_160 (Nat.le_of_ble_eq_true rfl) (by omega) (by omega) ?_
  refine s_isStreet _ ?_
  refine kt_v ?_
  rcases hb : isStreetB s with _ | _
  · skip
    refine wp_iconst (pc' := 6) (1) dX9_look_5 rfl rfl ?_
    refine wp_iconst (pc' := 7) (1) dX9_look_6 rfl rfl ?_
    refine wp_v3 0 0 dX9_look_7 ml_X9_167 hm (Nat.le_of_ble_eq_true rfl) (by omega) (by omega) ?_
    refine s_goes hM hF false true true (fun G1 hM1 hF1 => ?_)
    refine kt_v ?_
    obtain ⟨hm1, hA1, -⟩ := id hM1
    refine wp_ifF (pc' := 13) 15 dX9_look_10 rfl rfl (cmpF rfl) ?_
    refine wp_iconst (pc' := 14) (0) dX9_look_13 rfl rfl ?_
    refine wp_iret dX9_look_14 rfl rfl ?_
    exact hX _ _ (by simp only [mcode, K_look, hb, Bool.false_eq_true, decide_true, decide_false, Bool.not_true, Bool.not_false, Bool.and_true, Bool.true_and, Bool.and_false, Bool.false_and, Bool.or_true, Bool.true_or, Bool.or_false, Bool.false_or, if_true, if_false, ite_true, ite_false]) (by decide) hM1 hF1
  · skip
    obtain ⟨a, ha, rfl⟩ := st_nI hb
    refine wp_iconst (pc' := 6) (1) dX9_look_5 rfl rfl ?_
    refine wp_iconst (pc' := 7) (1) dX9_look_6 rfl rfl ?_
    refine wp_v3 0 0 dX9_look_7 ml_X9_167 hm (Nat.le_of_ble_eq_true rfl) (by omega) (by omega) ?_
    refine s_goes hM hF true true true (fun G2 hM2 hF2 => ?_)
    refine kt_v ?_
    replace hM2 : MH m aM own (zz σ) G2 := hM2
    obtain ⟨hm2, hA2, -⟩ := id hM2
    refine wp_ifT 15 dX9_look_10 rfl (cmpT rfl) ?_
    refine wp_load (pc' := 16) (j := 0) dX9_look_15 rfl rfl rfl ?_
    refine wp_get (pc' := 19) dX9_look_16 fl_X9_251 hm2 rfl rfl ?_
    refine wp_store (pc' := 20) (j := 2) (ls' := [_, _, _, _, _]) dX9_look_19 rfl (Nat.le_of_ble_eq_true rfl) rfl rfl ?_
    refine wp_iconst (pc' := 21) (0) dX9_look_20 rfl rfl ?_
    refine wp_store (pc' := 22) (j := 3) (ls' := [_, _, _, _, _]) dX9_look_21 rfl (Nat.le_of_ble_eq_true rfl) rfl rfl ?_
    exact l_look rfl (τ := zz σ) hI ha (hT (by simp only [mcode, K_look, hb, Bool.false_eq_true, decide_true, decide_false, Bool.not_true, Bool.not_false, Bool.and_true, Bool.true_and, Bool.and_false, Bool.false_and, Bool.or_true, Bool.true_or, Bool.or_false, Bool.false_or, if_true, if_false, ite_true, ite_false]) a ha rfl) nc 0 (by omega) none _ hM2 hF2

set_option maxRecDepth 20000 in
set_option maxHeartbeats 2000000 in
theorem s_begins {E : XE} {d mc ms : Nat} {G : HP} {P : Ps} {m : Nat} {aM own : Nat → Nat} {σ : MS} (hM : MH m aM own σ G) {G0 : HP} (hF : Fr1 own G0 G) {s : Nat} (hs4 : s < 4) (hP : ∀ G', MH m aM own (begF σ s) G' → Fr1 own G0 G' → P (.inl none) G') : Sp E (d + 1) yX9_begins mc ms [.ref m, .int (nI s)] G P := by
  obtain ⟨hm, hA, -⟩ := id hM
  refine sp_intro bd_X9_begins (v1_all rfl) (Nat.le_of_ble_eq_true rfl) ?_
  change WX _ _ _ _ _ _ 0 [some (.ref m), some (.int (nI s)), none] [] _ 0 0
  refine wp_bipush (pc' := 2) (100) dX9_begins_0 rfl rfl ?_
  refine wp_load (pc' := 3) (j := 0) dX9_begins_2 rfl rfl rfl ?_
  refine wp_get (pc' := 6) dX9_begins_3 fl_X9_143 hm rfl rfl ?_
  refine wp_load (pc' := 7) (j := 1) dX9_begins_6 rfl rfl rfl ?_
  refine wp_iald (pc' := 8) dX9_begins_7 (hA 55 (by decide)) rfl (show s < 4 from hs4) (by decide) rfl ?_
  refine wp_pure (pc' := 9) dX9_begins_8 rfl rfl ?_
  refine wp_store (pc' := 10) (j := 2) (ls' := [_, _, _]) dX9_begins_9 rfl (Nat.le_of_ble_eq_true rfl) rfl rfl ?_
  refine wp_load (pc' := 11) (j := 0) dX9_begins_10 rfl rfl rfl ?_
  refine wp_get (pc' := 14) dX9_begins_11 fl_X9_134 hm rfl rfl ?_
  refine wp_load (pc' := 15) (j := 1) dX9_begins_14 rfl rfl rfl ?_
  refine wp_dup2 (pc' := 16) dX9_begins_15 rfl rfl rfl ?_
  refine wp_iald (pc' := 17) dX9_begins_16 (hA 52 (by decide)) rfl (show s < 4 from hs4) (by decide) rfl ?_
  refine wp_load (pc' := 18) (j := 2) dX9_begins_17 rfl rfl rfl ?_
  refine wp_ldcw (pc' := 21) dX9_begins_18 kw_X9_273 rfl ?_
  refine wp_icmp_le (pc' := 24) 39 dX9_begins_21 rfl rfl (fun h21 => ?_) (fun h21 => ?_)
  · skip
    refine wp_load (pc' := 40) (j := 2) dX9_begins_39 rfl rfl rfl ?_
    refine wp_ldcw (pc' := 43) dX9_begins_40 kw_X9_274 rfl ?_
    refine wp_icmp_ge (pc' := 46) 59 dX9_begins_43 rfl rfl (fun h43 => ?_) (fun h43 => ?_)
    · skip
      refine wp_iconst (pc' := 60) (0) dX9_begins_59 rfl rfl ?_
      refine wp_pure (pc' := 61) dX9_begins_60 rfl rfl ?_
      refine wp_mia (pc' := 62) hM hF 52 (by decide) (by decide) dX9_begins_61 rfl (show s < 4 from hs4) (by decide) rfl (fun G1 hM1 hF1 => ?_)
      obtain ⟨hm1, hA1, -⟩ := id hM1
      refine wp_load (pc' := 63) (j := 0) dX9_begins_62 rfl rfl rfl ?_
      refine wp_get (pc' := 66) dX9_begins_63 fl_X9_143 hm1 rfl rfl ?_
      refine wp_load (pc' := 67) (j := 1) dX9_begins_66 rfl rfl rfl ?_
      refine wp_iconst (pc' := 68) (0) dX9_begins_67 rfl rfl ?_
      refine wp_mia (pc' := 69) hM1 hF1 55 (by decide) (by decide) dX9_begins_68 rfl (show s < 4 from hs4) (by decide) rfl (fun G2 hM2 hF2 => ?_)
      obtain ⟨hm2, hA2, -⟩ := id hM2
      refine wp_vret dX9_begins_69 rfl ?_
      simp only [begF, h21, h43, Bool.false_eq_true, decide_true, decide_false, Bool.not_true, Bool.not_false, Bool.and_true, Bool.true_and, Bool.and_false, Bool.false_and, Bool.or_true, Bool.true_or, Bool.or_false, Bool.false_or, if_true, if_false, ite_true, ite_false] at hP
      exact hP _ hM2 hF2
    · skip
      refine wp_load (pc' := 47) (j := 0) dX9_begins_46 rfl rfl rfl ?_
      refine wp_get (pc' := 50) dX9_begins_47 fl_X9_134 hm rfl rfl ?_
      refine wp_load (pc' := 51) (j := 1) dX9_begins_50 rfl rfl rfl ?_
      refine wp_iald (pc' := 52) dX9_begins_51 (hA 52 (by decide)) rfl (show s < 4 from hs4) (by decide) rfl ?_
      refine wp_if_le (pc' := 55) 59 dX9_begins_52 rfl rfl (fun h52 => ?_) (fun h52 => ?_)
      · skip
        refine wp_iconst (pc' := 60) (0) dX9_begins_59 rfl rfl ?_
        refine wp_pure (pc' := 61) dX9_begins_60 rfl rfl ?_
        refine wp_mia (pc' := 62) hM hF 52 (by decide) (by decide) dX9_begins_61 rfl (show s < 4 from hs4) (by decide) rfl (fun G3 hM3 hF3 => ?_)
        obtain ⟨hm3, hA3, -⟩ := id hM3
        refine wp_load (pc' := 63) (j := 0) dX9_begins_62 rfl rfl rfl ?_
        refine wp_get (pc' := 66) dX9_begins_63 fl_X9_143 hm3 rfl rfl ?_
        refine wp_load (pc' := 67) (j := 1) dX9_begins_66 rfl rfl rfl ?_
        refine wp_iconst (pc' := 68) (0) dX9_begins_67 rfl rfl ?_
        refine wp_mia (pc' := 69) hM3 hF3 55 (by decide) (by decide) dX9_begins_68 rfl (show s < 4 from hs4) (by decide) rfl (fun G4 hM4 hF4 => ?_)
        obtain ⟨hm4, hA4, -⟩ := id hM4
        refine wp_vret dX9_begins_69 rfl ?_
        simp only [begF, h21, h43, h52, Bool.false_eq_true, decide_true, decide_false, Bool.not_true, Bool.not_false, Bool.and_true, Bool.true_and, Bool.and_false, Bool.false_and, Bool.or_true, Bool.true_or, Bool.or_false, Bool.false_or, if_true, if_false, ite_true, ite_false] at hP
        exact hP _ hM4 hF4
      · skip
        refine wp_iconst (pc' := 56) (-1) dX9_begins_55 rfl rfl ?_
        refine wp_goto 60 dX9_begins_56 rfl ?_
        refine wp_pure (pc' := 61) dX9_begins_60 rfl rfl ?_
        refine wp_mia (pc' := 62) hM hF 52 (by decide) (by decide) dX9_begins_61 rfl (show s < 4 from hs4) (by decide) rfl (fun G5 hM5 hF5 => ?_)
        obtain ⟨hm5, hA5, -⟩ := id hM5
        refine wp_load (pc' := 63) (j := 0) dX9_begins_62 rfl rfl rfl ?_
        refine wp_get (pc' := 66) dX9_begins_63 fl_X9_143 hm5 rfl rfl ?_
        refine wp_load (pc' := 67) (j := 1) dX9_begins_66 rfl rfl rfl ?_
        refine wp_iconst (pc' := 68) (0) dX9_begins_67 rfl rfl ?_
        refine wp_mia (pc' := 69) hM5 hF5 55 (by decide) (by decide) dX9_begins_68 rfl (show s < 4 from hs4) (by decide) rfl (fun G6 hM6 hF6 => ?_)
        obtain ⟨hm6, hA6, -⟩ := id hM6
        refine wp_vret dX9_begins_69 rfl ?_
        simp only [begF, h21, h43, h52, Bool.false_eq_true, decide_true, decide_false, Bool.not_true, Bool.not_false, Bool.and_true, Bool.true_and, Bool.and_false, Bool.false_and, Bool.or_true, Bool.true_or, Bool.or_false, Bool.false_or, if_true, if_false, ite_true, ite_false] at hP
        exact hP _ hM6 hF6
  · skip
    refine wp_load (pc' := 25) (j := 0) dX9_begins_24 rfl rfl rfl ?_
    refine wp_get (pc' := 28) dX9_begins_25 fl_X9_134 hm rfl rfl ?_
    refine wp_load (pc' := 29) (j := 1) dX9_begins_28 rfl rfl rfl ?_
    refine wp_iald (pc' := 30) dX9_begins_29 (hA 52 (by decide)) rfl (show s < 4 from hs4) (by decide) rfl ?_
    refine wp_bipush (pc' := 32) (20) dX9_begins_30 rfl rfl ?_
    refine wp_icmp_ge (pc' := 35) 39 dX9_begins_32 rfl rfl (fun h32 => ?_) (fun h32 => ?_)
    · skip
      refine wp_load (pc' := 40) (j := 2) dX9_begins_39 rfl rfl rfl ?_
      refine wp_ldcw (pc' := 43) dX9_begins_40 kw_X9_274 rfl ?_
      refine wp_icmp_ge (pc' := 46) 59 dX9_begins_43 rfl rfl (fun h43 => ?_) (fun h43 => ?_)
      · skip
        refine wp_iconst (pc' := 60) (0) dX9_begins_59 rfl rfl ?_
        refine wp_pure (pc' := 61) dX9_begins_60 rfl rfl ?_
        refine wp_mia (pc' := 62) hM hF 52 (by decide) (by decide) dX9_begins_61 rfl (show s < 4 from hs4) (by decide) rfl (fun G7 hM7 hF7 => ?_)
        obtain ⟨hm7, hA7, -⟩ := id hM7
        refine wp_load (pc' := 63) (j := 0) dX9_begins_62 rfl rfl rfl ?_
        refine wp_get (pc' := 66) dX9_begins_63 fl_X9_143 hm7 rfl rfl ?_
        refine wp_load (pc' := 67) (j := 1) dX9_begins_66 rfl rfl rfl ?_
        refine wp_iconst (pc' := 68) (0) dX9_begins_67 rfl rfl ?_
        refine wp_mia (pc' := 69) hM7 hF7 55 (by decide) (by decide) dX9_begins_68 rfl (show s < 4 from hs4) (by decide) rfl (fun G8 hM8 hF8 => ?_)
        obtain ⟨hm8, hA8, -⟩ := id hM8
        refine wp_vret dX9_begins_69 rfl ?_
        simp only [begF, h21, h32, h43, Bool.false_eq_true, decide_true, decide_false, Bool.not_true, Bool.not_false, Bool.and_true, Bool.true_and, Bool.and_false, Bool.false_and, Bool.or_true, Bool.true_or, Bool.or_false, Bool.false_or, if_true, if_false, ite_true, ite_false] at hP
        exact hP _ hM8 hF8
      · skip
        refine wp_load (pc' := 47) (j := 0) dX9_begins_46 rfl rfl rfl ?_
        refine wp_get (pc' := 50) dX9_begins_47 fl_X9_134 hm rfl rfl ?_
        refine wp_load (pc' := 51) (j := 1) dX9_begins_50 rfl rfl rfl ?_
        refine wp_iald (pc' := 52) dX9_begins_51 (hA 52 (by decide)) rfl (show s < 4 from hs4) (by decide) rfl ?_
        refine wp_if_le (pc' := 55) 59 dX9_begins_52 rfl rfl (fun h52 => ?_) (fun h52 => ?_)
        · skip
          refine wp_iconst (pc' := 60) (0) dX9_begins_59 rfl rfl ?_
          refine wp_pure (pc' := 61) dX9_begins_60 rfl rfl ?_
          refine wp_mia (pc' := 62) hM hF 52 (by decide) (by decide) dX9_begins_61 rfl (show s < 4 from hs4) (by decide) rfl (fun G9 hM9 hF9 => ?_)
          obtain ⟨hm9, hA9, -⟩ := id hM9
          refine wp_load (pc' := 63) (j := 0) dX9_begins_62 rfl rfl rfl ?_
          refine wp_get (pc' := 66) dX9_begins_63 fl_X9_143 hm9 rfl rfl ?_
          refine wp_load (pc' := 67) (j := 1) dX9_begins_66 rfl rfl rfl ?_
          refine wp_iconst (pc' := 68) (0) dX9_begins_67 rfl rfl ?_
          refine wp_mia (pc' := 69) hM9 hF9 55 (by decide) (by decide) dX9_begins_68 rfl (show s < 4 from hs4) (by decide) rfl (fun G10 hM10 hF10 => ?_)
          obtain ⟨hm10, hA10, -⟩ := id hM10
          refine wp_vret dX9_begins_69 rfl ?_
          simp only [begF, h21, h32, h43, h52, Bool.false_eq_true, decide_true, decide_false, Bool.not_true, Bool.not_false, Bool.and_true, Bool.true_and, Bool.and_false, Bool.false_and, Bool.or_true, Bool.true_or, Bool.or_false, Bool.false_or, if_true, if_false, ite_true, ite_false] at hP
          exact hP _ hM10 hF10
        · skip
          refine wp_iconst (pc' := 56) (-1) dX9_begins_55 rfl rfl ?_
          refine wp_goto 60 dX9_begins_56 rfl ?_
          refine wp_pure (pc' := 61) dX9_begins_60 rfl rfl ?_
          refine wp_mia (pc' := 62) hM hF 52 (by decide) (by decide) dX9_begins_61 rfl (show s < 4 from hs4) (by decide) rfl (fun G11 hM11 hF11 => ?_)
          obtain ⟨hm11, hA11, -⟩ := id hM11
          refine wp_load (pc' := 63) (j := 0) dX9_begins_62 rfl rfl rfl ?_
          refine wp_get (pc' := 66) dX9_begins_63 fl_X9_143 hm11 rfl rfl ?_
          refine wp_load (pc' := 67) (j := 1) dX9_begins_66 rfl rfl rfl ?_
          refine wp_iconst (pc' := 68) (0) dX9_begins_67 rfl rfl ?_
          refine wp_mia (pc' := 69) hM11 hF11 55 (by decide) (by decide) dX9_begins_68 rfl (show s < 4 from hs4) (by decide) rfl (fun G12 hM12 hF12 => ?_)
          obtain ⟨hm12, hA12, -⟩ := id hM12
          refine wp_vret dX9_begins_69 rfl ?_
          simp only [begF, h21, h32, h43, h52, Bool.false_eq_true, decide_true, decide_false, Bool.not_true, Bool.not_false, Bool.and_true, Bool.true_and, Bool.and_false, Bool.false_and, Bool.or_true, Bool.true_or, Bool.or_false, Bool.false_or, if_true, if_false, ite_true, ite_false] at hP
          exact hP _ hM12 hF12
    · skip
      refine wp_iconst (pc' := 36) (1) dX9_begins_35 rfl rfl ?_
      refine wp_goto 60 dX9_begins_36 rfl ?_
      refine wp_pure (pc' := 61) dX9_begins_60 rfl rfl ?_
      refine wp_mia (pc' := 62) hM hF 52 (by decide) (by decide) dX9_begins_61 rfl (show s < 4 from hs4) (by decide) rfl (fun G13 hM13 hF13 => ?_)
      obtain ⟨hm13, hA13, -⟩ := id hM13
      refine wp_load (pc' := 63) (j := 0) dX9_begins_62 rfl rfl rfl ?_
      refine wp_get (pc' := 66) dX9_begins_63 fl_X9_143 hm13 rfl rfl ?_
      refine wp_load (pc' := 67) (j := 1) dX9_begins_66 rfl rfl rfl ?_
      refine wp_iconst (pc' := 68) (0) dX9_begins_67 rfl rfl ?_
      refine wp_mia (pc' := 69) hM13 hF13 55 (by decide) (by decide) dX9_begins_68 rfl (show s < 4 from hs4) (by decide) rfl (fun G14 hM14 hF14 => ?_)
      obtain ⟨hm14, hA14, -⟩ := id hM14
      refine wp_vret dX9_begins_69 rfl ?_
      simp only [begF, h21, h32, Bool.false_eq_true, decide_true, decide_false, Bool.not_true, Bool.not_false, Bool.and_true, Bool.true_and, Bool.and_false, Bool.false_and, Bool.or_true, Bool.true_or, Bool.or_false, Bool.false_or, if_true, if_false, ite_true, ite_false] at hP
      exact hP _ hM14 hF14

theorem tk_1 {σ : MS} {nc : Nat} : ∀ k, (tkF σ nc k).1 = σ.1
  | 0 => rfl
  | k + 1 => tk_1 (σ := σ) (nc := nc) k
theorem bg_1 {σ : MS} : ∀ k, (bgF σ k).1 = σ.1
  | 0 => rfl
  | k + 1 => bg_1 (σ := σ) k
theorem quar_1 {σ : MS} {nc : Nat} (j : Nat) (h : j ≠ 0) : (quarF σ nc).1 j = σ.1 j := by
  unfold quarF
  split
  · rw [bg_1]
    show va_up (tkF σ nc 4).1 0 _ j = _
    rw [tk_1, va_up, if_neg h]
  · show va_up (tkF σ nc 4).1 0 _ j = _
    rw [tk_1, va_up, if_neg h]
theorem pass_1 {σ : MS} {nc : Nat} (j : Nat) (h : j ≠ 0) : ∀ k, (passF σ nc k).1 j = σ.1 j
  | 0 => rfl
  | k + 1 => (quar_1 j h).trans (pass_1 j h k)
set_option maxRecDepth 20000 in
set_option maxHeartbeats 2000000 in
theorem l_pass1 {E : XE} {d0 d mc ms : Nat} {P : Ps} (hd : d = d0 + 1) {m : Nat} {aM own : Nat → Nat} {σ : MS} {nc : Nat} (hc : σ.1 22 = nI nc) (hc30 : nc ≤ 30) {G0 : HP} {qn i : Nat} (hC : ∀ G', MH m aM own (tkF σ nc 4) G' → Fr1 own G0 G' → WX E d (yX9_pass, cX9_pass, some .int, []) mc ms P 67 [some (.ref m), some (.int (nI qn)), some (.int (nI i)), some (.int (nI 4))] [] G' 0 0) : ∀ j k, k + j = 4 → ∀ (G : HP), ∀ (hM : MH m aM own (tkF σ nc k) G), ∀ (hF : Fr1 own G0 G), WX E d (yX9_pass, cX9_pass, (some .int), []) mc ms P 42 [some (.ref m), some (.int (nI qn)), some (.int (nI i)), some (.int (nI k))] [] G 0 0
  | 0, k, hk, G, hM, hF => by
    subst hd
    have hc1 : (tkF σ nc k).1 22 = nI nc := by rw [tk_1]; exact hc
    obtain ⟨hm, hA, -⟩ := id hM
    refine wp_load (pc' := 43) (j := 3) dX9_pass_42 rfl rfl rfl ?_
    refine wp_iconst (pc' := 44) (4) dX9_pass_43 rfl rfl ?_
    refine wp_icmpT 67 dX9_pass_44 rfl (cgeT (n := 4) rfl (by omega) (by omega)) ?_
    obtain rfl : k = 4 := by omega
    exact hC _ hM hF
  | j + 1, k, hk, G, hM, hF => by
    have ih := l_pass1 (E := E) (d := d) (mc := mc) (ms := ms) hd hc hc30 hC j (k + 1) (by omega)
    subst hd
    have hc1 : (tkF σ nc k).1 22 = nI nc := by rw [tk_1]; exact hc
    obtain ⟨hm, hA, -⟩ := id hM
    refine wp_load (pc' := 43) (j := 3) dX9_pass_42 rfl rfl rfl ?_
    refine wp_iconst (pc' := 44) (4) dX9_pass_43 rfl rfl ?_
    refine wp_icmpF (pc' := 47) 67 dX9_pass_44 rfl rfl (cgeF (n := 4) rfl (by omega) (by decide)) ?_
    refine wp_load (pc' := 48) (j := 0) dX9_pass_47 rfl rfl rfl ?_
    refine wp_get (pc' := 51) dX9_pass_48 fl_X9_143 hm rfl rfl ?_
    refine wp_load (pc' := 52) (j := 3) dX9_pass_51 rfl rfl rfl ?_
    refine wp_dup2 (pc' := 53) dX9_pass_52 rfl rfl rfl ?_
    refine wp_iald (pc' := 54) dX9_pass_53 (hA 55 (by decide)) rfl (show k < 4 from by omega) (by decide) rfl ?_
    refine wp_load (pc' := 55) (j := 0) dX9_pass_54 rfl rfl rfl ?_
    refine wp_load (pc' := 56) (j := 3) dX9_pass_55 rfl rfl rfl ?_
    refine wp_v1 0 0 dX9_pass_56 ml_X9_270 hm (Nat.le_of_ble_eq_true rfl) (by omega) (by omega) ?_
    refine s_takenIn hM hc1 hc30 _ ?_
    refine kt_v ?_
    refine wp_pure (pc' := 60) dX9_pass_59 rfl rfl ?_
    refine wp_mia (pc' := 61) hM hF 55 (by decide) (by decide) dX9_pass_60 rfl (show k < 4 from by omega) (by decide) rfl (fun G1 hM1 hF1 => ?_)
    obtain ⟨hm1, hA1, -⟩ := id hM1
    refine wp_iinc (pc' := 64) (j := 3) (ls' := [_, _, _, _]) (nI (k + 1)) dX9_pass_61 rfl (nI_1 k) rfl rfl ?_
    refine wp_goto 42 dX9_pass_64 rfl ?_
    exact ih _ hM1 hF1

set_option maxRecDepth 20000 in
set_option maxHeartbeats 2000000 in
theorem l_pass2 {E : XE} {d0 d mc ms : Nat} {P : Ps} (hd : d = d0 + 1) {m : Nat} {aM own : Nat → Nat} {σ : MS} (hr : rem (σ.1 0) 96 = 0) {G0 : HP} {qn i : Nat} (hC : ∀ G', MH m aM own (bgF σ 4) G' → Fr1 own G0 G' → WX E d (yX9_pass, cX9_pass, some .int, []) mc ms P 105 [some (.ref m), some (.int (nI qn)), some (.int (nI i)), some (.int (nI 4))] [] G' 0 0) : ∀ j k, k + j = 4 → ∀ (G : HP), ∀ (hM : MH m aM own (bgF σ k) G), ∀ (hF : Fr1 own G0 G), WX E d (yX9_pass, cX9_pass, (some .int), []) mc ms P 79 [some (.ref m), some (.int (nI qn)), some (.int (nI i)), some (.int (nI k))] [] G 0 0
  | 0, k, hk, G, hM, hF => by
    subst hd
    have hr1 : rem ((bgF σ k).1 0) 96 = 0 := by rw [bg_1]; exact hr
    obtain ⟨hm, hA, -⟩ := id hM
    refine wp_load (pc' := 80) (j := 3) dX9_pass_79 rfl rfl rfl ?_
    refine wp_iconst (pc' := 81) (4) dX9_pass_80 rfl rfl ?_
    refine wp_icmpT 105 dX9_pass_81 rfl (cgeT (n := 4) rfl (by omega) (by omega)) ?_
    obtain rfl : k = 4 := by omega
    exact hC _ hM hF
  | j + 1, k, hk, G, hM, hF => by
    have ih := l_pass2 (E := E) (d := d) (mc := mc) (ms := ms) hd hr hC j (k + 1) (by omega)
    subst hd
    have hr1 : rem ((bgF σ k).1 0) 96 = 0 := by rw [bg_1]; exact hr
    obtain ⟨hm, hA, -⟩ := id hM
    refine wp_load (pc' := 80) (j := 3) dX9_pass_79 rfl rfl rfl ?_
    refine wp_iconst (pc' := 81) (4) dX9_pass_80 rfl rfl ?_
    refine wp_icmpF (pc' := 84) 105 dX9_pass_81 rfl rfl (cgeF (n := 4) rfl (by omega) (by decide)) ?_
    refine wp_load (pc' := 85) (j := 0) dX9_pass_84 rfl rfl rfl ?_
    refine wp_get (pc' := 88) dX9_pass_85 fl_X9_189 hm rfl rfl ?_
    refine wp_bipush (pc' := 90) (96) dX9_pass_88 rfl rfl ?_
    refine wp_rem (pc' := 91) dX9_pass_90 (by decide) rfl ?_
    refine wp_ifF (pc' := 94) 105 dX9_pass_91 rfl rfl (fun z => z hr1) ?_
    refine wp_load (pc' := 95) (j := 0) dX9_pass_94 rfl rfl rfl ?_
    refine wp_load (pc' := 96) (j := 3) dX9_pass_95 rfl rfl rfl ?_
    refine wp_v1 0 0 dX9_pass_96 ml_X9_275 hm (Nat.le_of_ble_eq_true rfl) (by omega) (by omega) ?_
    refine s_begins hM hF (by omega) (fun G1 hM1 hF1 => ?_)
    refine kt_u ?_
    obtain ⟨hm1, hA1, -⟩ := id hM1
    refine wp_iinc (pc' := 102) (j := 3) (ls' := [_, _, _, _]) (nI (k + 1)) dX9_pass_99 rfl (nI_1 k) rfl rfl ?_
    refine wp_goto 79 dX9_pass_102 rfl ?_
    exact ih _ hM1 hF1

set_option maxRecDepth 20000 in
set_option maxHeartbeats 2000000 in
theorem l_pass {E : XE} {d0 d mc ms : Nat} {P : Ps} (hd : d = d0 + 1) {m : Nat} {aM own : Nat → Nat} {σ : MS} {nc : Nat} (hc : σ.1 22 = nI nc) (hc30 : nc ≤ 30) {G0 : HP} {qn : Nat} (hq : qn ≤ 96) (hP : ∀ G', MH m aM own (passF σ nc qn) G' → Fr1 own G0 G' → P (.inl (some (.int ((passF σ nc qn).1 0)))) G') : ∀ j k, k + j = qn → ∀ z3 : Option Value, ∀ (G : HP), ∀ (hM : MH m aM own (passF σ nc k) G), ∀ (hF : Fr1 own G0 G), WX E d (yX9_pass, cX9_pass, (some .int), []) mc ms P 35 [some (.ref m), some (.int (nI qn)), some (.int (nI k)), z3] [] G 0 0
  | 0, k, hk, z3, G, hM, hF => by
    subst hd
    have hc1 : (passF σ nc k).1 22 = nI nc := by rw [pass_1 22 (by decide)]; exact hc
    obtain ⟨hm, hA, -⟩ := id hM
    refine wp_load (pc' := 36) (j := 2) dX9_pass_35 rfl rfl rfl ?_
    refine wp_load (pc' := 37) (j := 1) dX9_pass_36 rfl rfl rfl ?_
    refine wp_icmpT 111 dX9_pass_37 rfl (cgeT rfl (by omega) (by omega)) ?_
    refine wp_load (pc' := 112) (j := 0) dX9_pass_111 rfl rfl rfl ?_
    refine wp_get (pc' := 115) dX9_pass_112 fl_X9_189 hm rfl rfl ?_
    refine wp_iret dX9_pass_115 rfl rfl ?_
    obtain rfl : k = qn := by omega
    exact hP _ hM hF
  | j + 1, k, hk, z3, G, hM, hF => by
    have ih := l_pass (E := E) (d := d) (mc := mc) (ms := ms) hd hc hc30 hq hP j (k + 1) (by omega)
    subst hd
    have hc1 : (passF σ nc k).1 22 = nI nc := by rw [pass_1 22 (by decide)]; exact hc
    obtain ⟨hm, hA, -⟩ := id hM
    refine wp_load (pc' := 36) (j := 2) dX9_pass_35 rfl rfl rfl ?_
    refine wp_load (pc' := 37) (j := 1) dX9_pass_36 rfl rfl rfl ?_
    refine wp_icmpF (pc' := 40) 111 dX9_pass_37 rfl rfl (cgeF rfl (by omega) (by omega)) ?_
    refine wp_iconst (pc' := 41) (0) dX9_pass_40 rfl rfl ?_
    refine wp_store (pc' := 42) (j := 3) (ls' := [_, _, _, _]) dX9_pass_41 rfl (Nat.le_of_ble_eq_true rfl) rfl rfl ?_
    refine l_pass1 rfl hc1 hc30 (fun G1 hM1 hF1 => ?_) 4 0 (by omega) _ hM hF
    obtain ⟨hm1, hA1, -⟩ := id hM1
    refine wp_load (pc' := 68) (j := 0) dX9_pass_67 rfl rfl rfl ?_
    refine wp_dup (pc' := 69) dX9_pass_68 rfl rfl ?_
    refine wp_get (pc' := 72) dX9_pass_69 fl_X9_189 hm1 rfl rfl ?_
    refine wp_iconst (pc' := 73) (1) dX9_pass_72 rfl rfl ?_
    refine wp_pure (pc' := 74) dX9_pass_73 rfl rfl ?_
    refine wp_mput (pc' := 77) hM1 hF1 dX9_pass_74 fl_X9_189 rfl (by decide) rfl (fun G2 hM2 hF2 => ?_)
    obtain ⟨hm2, hA2, -⟩ := id hM2
    refine wp_iconst (pc' := 78) (0) dX9_pass_77 rfl rfl ?_
    refine wp_store (pc' := 79) (j := 3) (ls' := [_, _, _, _]) dX9_pass_78 rfl (Nat.le_of_ble_eq_true rfl) rfl rfl ?_
    have h9 : MH m aM own (msc (tkF (passF σ nc k) nc 4) 0 ((passF σ nc k).1 0 + 1)) G2 := by simpa only [tk_1] using hM2
    by_cases hr : rem ((passF σ nc k).1 0 + 1) 96 = 0
    · skip
      refine l_pass2 (d0 := d0) rfl (σ := msc (tkF (passF σ nc k) nc 4) 0 ((passF σ nc k).1 0 + 1)) hr (fun G3 hM3 hF3 => ?_) 4 0 (by omega) _ h9 hF2
      refine wp_iinc (pc' := 108) (j := 2) (ls' := [_, _, _, _]) (nI (k + 1)) dX9_pass_105 rfl (nI_1 k) rfl rfl ?_
      refine wp_goto 35 dX9_pass_108 rfl ?_
      exact ih _ _ (by
        have e : passF σ nc (k + 1) = bgF (msc (tkF (passF σ nc k) nc 4) 0 ((passF σ nc k).1 0 + 1)) 4 := by
          show quarF _ _ = _
          unfold quarF
          rw [if_pos hr]
        rw [e]; exact hM3) hF3
    · skip
      have hr2 : ¬ rem (((msc (tkF (passF σ nc k) nc 4) 0 ((tkF (passF σ nc k) nc 4).1 0 + 1))).1 0) 96 = 0 := by
        show ¬ rem ((tkF (passF σ nc k) nc 4).1 0 + 1) 96 = 0
        rw [tk_1]; exact hr
      refine wp_load (pc' := 80) (j := 3) dX9_pass_79 rfl rfl rfl ?_
      refine wp_iconst (pc' := 81) (4) dX9_pass_80 rfl rfl ?_
      refine wp_icmpF (pc' := 84) 105 dX9_pass_81 rfl rfl (cmpF rfl) ?_
      refine wp_load (pc' := 85) (j := 0) dX9_pass_84 rfl rfl rfl ?_
      refine wp_get (pc' := 88) dX9_pass_85 fl_X9_189 hm2 rfl rfl ?_
      refine wp_bipush (pc' := 90) (96) dX9_pass_88 rfl rfl ?_
      refine wp_rem (pc' := 91) dX9_pass_90 (by decide) rfl ?_
      refine wp_ifT 105 dX9_pass_91 rfl (fun z => hr2 z) ?_
      refine wp_iinc (pc' := 108) (j := 2) (ls' := [_, _, _, _]) (nI (k + 1)) dX9_pass_105 rfl (nI_1 k) rfl rfl ?_
      refine wp_goto 35 dX9_pass_108 rfl ?_
      exact ih _ _ (by
        have e : passF σ nc (k + 1) = msc (tkF (passF σ nc k) nc 4) 0 ((passF σ nc k).1 0 + 1) := by
          show quarF _ _ = _
          unfold quarF
          rw [if_neg hr]
        rw [e]; simpa only [tk_1] using hM2) hF2

set_option maxRecDepth 20000 in
set_option maxHeartbeats 2000000 in
theorem p_pass {E : XE} {d mc ms : Nat} {G : HP} {P : Ps} {m : Nat} {aM own : Nat → Nat} {σ : MS} (hM : MH m aM own σ G) {nc : Nat} (hc : σ.1 22 = nI nc) (hc30 : nc ≤ 30) {q : Int32} (hX : ∀ c G', c = K_pass σ q → c ≠ 0 → MH m aM own (msc σ 56 c) G' → Fr1 own G G' → P (.inl (some (.int 0))) G') (hT : K_pass σ q = 0 → ∀ j, j ≤ 96 → q = nI j → ∀ G', MH m aM own (passF (zz σ) nc j) G' → Fr1 own G G' → P (.inl (some (.int ((passF (zz σ) nc j).1 0)))) G') : Sp E (d + 3) yX9_pass mc ms [.ref m, .int q] G P := by
  have hF : Fr1 own G G := fr1_rf
  obtain ⟨hm, hA, -⟩ := id hM
  refine sp_intro bd_X9_pass (v1_all rfl) (Nat.le_of_ble_eq_true rfl) ?_
  change WX _ _ _ _ _ _ 0 [some (.ref m), some (.int q), none, none] [] _ 0 0
  refine wp_load (pc' := 1) (j := 0) dX9_pass_0 rfl rfl rfl ?_
  refine wp_load (pc' := 2) (j := 1) dX9_pass_1 rfl rfl rfl ?_
  refine wp_iconst (pc' := 3) (1) dX9_pass_2 rfl rfl ?_
  refine wp_bipush (pc' := 5) (96) dX9_pass_3 rfl rfl ?_
  refine wp_s3 0 0 dX9_pass_5 ml_X9_153 (Nat.le_of_ble_eq_true rfl) (by omega) (by omega) ?_
  refine s_in _ _ _ ?_
  refine kt_v ?_
  rcases hb : inB q 1 96 with _ | _
  · skip
    refine wp_load (pc' := 9) (j := 0) dX9_pass_8 rfl rfl rfl ?_
    refine wp_get (pc' := 12) dX9_pass_9 fl_X9_189 hm rfl rfl ?_
    refine wp_load (pc' := 13) (j := 1) dX9_pass_12 rfl rfl rfl ?_
    refine wp_pure (pc' := 14) dX9_pass_13 rfl rfl ?_
    refine wp_ldc (pc' := 16) dX9_pass_14 kw_X9_193 rfl ?_
    refine wp_icmp_gt (pc' := 19) 23 dX9_pass_16 rfl rfl (fun h16 => ?_) (fun h16 => ?_)
    · skip
      refine wp_iconst (pc' := 24) (0) dX9_pass_23 rfl rfl ?_
      refine wp_iconst (pc' := 25) (1) dX9_pass_24 rfl rfl ?_
      refine wp_v3 0 0 dX9_pass_25 ml_X9_167 hm (Nat.le_of_ble_eq_true rfl) (by omega) (by omega) ?_
      refine s_goes hM hF false false true (fun G1 hM1 hF1 => ?_)
      refine kt_v ?_
      obtain ⟨hm1, hA1, -⟩ := id hM1
      refine wp_ifF (pc' := 31) 33 dX9_pass_28 rfl rfl (cmpF rfl) ?_
      refine wp_iconst (pc' := 32) (0) dX9_pass_31 rfl rfl ?_
      refine wp_iret dX9_pass_32 rfl rfl ?_
      exact hX _ _ (by simp only [mcode, K_pass, hb, h16, Bool.false_eq_true, decide_true, decide_false, Bool.not_true, Bool.not_false, Bool.and_true, Bool.true_and, Bool.and_false, Bool.false_and, Bool.or_true, Bool.true_or, Bool.or_false, Bool.false_or, if_true, if_false, ite_true, ite_false]) (by decide) hM1 hF1
    · skip
      refine wp_iconst (pc' := 20) (1) dX9_pass_19 rfl rfl ?_
      refine wp_goto 24 dX9_pass_20 rfl ?_
      refine wp_iconst (pc' := 25) (1) dX9_pass_24 rfl rfl ?_
      refine wp_v3 0 0 dX9_pass_25 ml_X9_167 hm (Nat.le_of_ble_eq_true rfl) (by omega) (by omega) ?_
      refine s_goes hM hF false true true (fun G2 hM2 hF2 => ?_)
      refine kt_v ?_
      obtain ⟨hm2, hA2, -⟩ := id hM2
      refine wp_ifF (pc' := 31) 33 dX9_pass_28 rfl rfl (cmpF rfl) ?_
      refine wp_iconst (pc' := 32) (0) dX9_pass_31 rfl rfl ?_
      refine wp_iret dX9_pass_32 rfl rfl ?_
      exact hX _ _ (by simp only [mcode, K_pass, hb, h16, Bool.false_eq_true, decide_true, decide_false, Bool.not_true, Bool.not_false, Bool.and_true, Bool.true_and, Bool.and_false, Bool.false_and, Bool.or_true, Bool.true_or, Bool.or_false, Bool.false_or, if_true, if_false, ite_true, ite_false]) (by decide) hM2 hF2
  · skip
    obtain ⟨j, hj, rfl⟩ : ∃ j, j < 97 ∧ q = nI j := by
      have hb2 := hb
      unfold inB at hb2
      simp only [Bool.and_eq_true, Bool.not_eq_true', decide_eq_false_iff_not] at hb2
      refine clt_nI (n := 97) ?_ (by decide)
      unfold inB
      rw [decide_eq_false (show ¬ (nI 97 - 1 : Int32) < q from hb2.2), decide_eq_false (fun z => hb2.1 (Int32.lt_of_lt_of_le z (by decide)))]
      rfl
    refine wp_load (pc' := 9) (j := 0) dX9_pass_8 rfl rfl rfl ?_
    refine wp_get (pc' := 12) dX9_pass_9 fl_X9_189 hm rfl rfl ?_
    refine wp_load (pc' := 13) (j := 1) dX9_pass_12 rfl rfl rfl ?_
    refine wp_pure (pc' := 14) dX9_pass_13 rfl rfl ?_
    refine wp_ldc (pc' := 16) dX9_pass_14 kw_X9_193 rfl ?_
    refine wp_icmp_gt (pc' := 19) 23 dX9_pass_16 rfl rfl (fun h16 => ?_) (fun h16 => ?_)
    · skip
      refine wp_iconst (pc' := 24) (0) dX9_pass_23 rfl rfl ?_
      refine wp_iconst (pc' := 25) (1) dX9_pass_24 rfl rfl ?_
      refine wp_v3 0 0 dX9_pass_25 ml_X9_167 hm (Nat.le_of_ble_eq_true rfl) (by omega) (by omega) ?_
      refine s_goes hM hF true false true (fun G3 hM3 hF3 => ?_)
      refine kt_v ?_
      obtain ⟨hm3, hA3, -⟩ := id hM3
      refine wp_ifF (pc' := 31) 33 dX9_pass_28 rfl rfl (cmpF rfl) ?_
      refine wp_iconst (pc' := 32) (0) dX9_pass_31 rfl rfl ?_
      refine wp_iret dX9_pass_32 rfl rfl ?_
      exact hX _ _ (by simp only [mcode, K_pass, hb, h16, Bool.false_eq_true, decide_true, decide_false, Bool.not_true, Bool.not_false, Bool.and_true, Bool.true_and, Bool.and_false, Bool.false_and, Bool.or_true, Bool.true_or, Bool.or_false, Bool.false_or, if_true, if_false, ite_true, ite_false]) (by decide) hM3 hF3
    · skip
      refine wp_iconst (pc' := 20) (1) dX9_pass_19 rfl rfl ?_
      refine wp_goto 24 dX9_pass_20 rfl ?_
      refine wp_iconst (pc' := 25) (1) dX9_pass_24 rfl rfl ?_
      refine wp_v3 0 0 dX9_pass_25 ml_X9_167 hm (Nat.le_of_ble_eq_true rfl) (by omega) (by omega) ?_
      refine s_goes hM hF true true true (fun G4 hM4 hF4 => ?_)
      refine kt_v ?_
      replace hM4 : MH m aM own (zz σ) G4 := hM4
      obtain ⟨hm4, hA4, -⟩ := id hM4
      refine wp_ifT 33 dX9_pass_28 rfl (cmpT rfl) ?_
      refine wp_iconst (pc' := 34) (0) dX9_pass_33 rfl rfl ?_
      refine wp_store (pc' := 35) (j := 2) (ls' := [_, _, _, _]) dX9_pass_34 rfl (Nat.le_of_ble_eq_true rfl) rfl rfl ?_
      exact l_pass rfl (σ := zz σ) hc hc30 (show j ≤ 96 from by omega) (hT (by simp only [mcode, K_pass, hb, h16, Bool.false_eq_true, decide_true, decide_false, Bool.not_true, Bool.not_false, Bool.and_true, Bool.true_and, Bool.and_false, Bool.false_and, Bool.or_true, Bool.true_or, Bool.or_false, Bool.false_or, if_true, if_false, ite_true, ite_false]) j (by omega) rfl) j 0 (by omega) none _ hM4 hF4

