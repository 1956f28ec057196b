/-! the law: its body -/
def ownA (ag al au aT q : Nat) : Nat := if q = ag then 2 else if q = al then 2 else if q = au then 2 else if q = aT then 2 else 0
theorem ownA_0 {ag al au aT q : Nat} (h : ownA ag al au aT q = 0) : q ≠ ag ∧ q ≠ al ∧ q ≠ au ∧ q ≠ aT := by
  unfold ownA at h
  by_cases e1 : q = ag
  · rw [if_pos e1] at h; exact absurd h (by decide)
  · rw [if_neg e1] at h
    by_cases e2 : q = al
    · rw [if_pos e2] at h; exact absurd h (by decide)
    · rw [if_neg e2] at h
      by_cases e3 : q = au
      · rw [if_pos e3] at h; exact absurd h (by decide)
      · rw [if_neg e3] at h
        by_cases e4 : q = aT
        · rw [if_pos e4] at h; exact absurd h (by decide)
        · exact ⟨e1, e2, e3, e4⟩
theorem ownA_n {ag al au aT q : Nat} (h : q ≠ ag) (h2 : q ≠ al) (h3 : q ≠ au) (h4 : q ≠ aT) : ownA ag al au aT q = 0 := by
  unfold ownA
  rw [if_neg h, if_neg h2, if_neg h3, if_neg h4]
theorem own_n0 {ag al au aT q : Nat} (h : q = ag ∨ q = al ∨ q = au ∨ q = aT) : ownA ag al au aT q ≠ 0 := fun z => by
  obtain ⟨h1, h2, h3, h4⟩ := ownA_0 z
  rcases h with h | h | h | h
  · exact h1 h
  · exact h2 h
  · exact h3 h
  · exact h4 h
theorem xi_init : XI sIM N8 0 0 := by
  refine ⟨⟨0, Nat.le_refl _, rfl, fun i hi => absurd hi (Nat.not_lt_zero _), fun a ha => ⟨0, Nat.zero_le _, rfl⟩⟩, Nat.le_refl _, fun a ha => ⟨0, Nat.zero_le _, rfl⟩, rfl, fun f hf => absurd hf (Nat.not_lt_zero _), fun f hf => absurd hf (Nat.not_lt_zero _), fun f hf => absurd hf (Nat.not_lt_zero _), fun p hp => absurd hp (Nat.not_lt_zero _), fun i j hi => absurd hi (Nat.not_lt_zero _)⟩
set_option maxRecDepth 20000 in
set_option maxHeartbeats 2000000 in
theorem l_fill {E : XE} {d mc ms : Nat} {P : Ps} {x ag al au aT c n : Nat} {G0 : HP} (hC : ∀ G f, G aT = some (hI 30 f) → (∀ i, i < 30 → f i = -1) → (∀ q, q ≠ aT → G q = G0 q) → WX E d (yL_law, cL_law, (some .boolean), []) mc ms P 52 [some (.ref E.2.2.1), some (.ref x), some (.ref ag), some (.ref al), some (.ref au), some (.ref aT), some (.int (nI 30)), none] [] G c n) : ∀ j k, k + j = 30 → ∀ (G : HP), ∀ (f : Nat → Int32), ∀ (hf : G aT = some (hI 30 f)), ∀ (hfl : ∀ i, i < k → f i = -1), ∀ (hr : ∀ q, q ≠ aT → G q = G0 q), WX E d (yL_law, cL_law, (some .boolean), []) mc ms P 33 [some (.ref E.2.2.1), some (.ref x), some (.ref ag), some (.ref al), some (.ref au), some (.ref aT), some (.int (nI k)), none] [] G c n
  | 0, k, hk, G, f, hf, hfl, hr => by
    obtain rfl : k = 30 := by omega
    refine wp_load (pc' := 35) (j := 6) dL_law_33 rfl rfl rfl ?_
    refine wp_bipush (pc' := 37) (30) dL_law_35 rfl rfl ?_
    refine wp_icmpT 52 dL_law_37 rfl (cgeT (n := 30) rfl (by omega) (by decide)) ?_
    exact hC G f hf hfl hr
  | j + 1, k, hk, G, f, hf, hfl, hr => by
    have ih := l_fill (E := E) (d := d) (mc := mc) (ms := ms) hC j (k + 1) (by omega)
    refine wp_load (pc' := 35) (j := 6) dL_law_33 rfl rfl rfl ?_
    refine wp_bipush (pc' := 37) (30) dL_law_35 rfl rfl ?_
    refine wp_icmpF (pc' := 40) 52 dL_law_37 rfl rfl (cgeF (n := 30) rfl (by omega) (by decide)) ?_
    refine wp_load (pc' := 42) (j := 5) dL_law_40 rfl rfl rfl ?_
    refine wp_load (pc' := 44) (j := 6) dL_law_42 rfl rfl rfl ?_
    refine wp_iconst (pc' := 45) (-1) dL_law_44 rfl rfl ?_
    refine wp_iaw (pc' := 46) dL_law_45 hf rfl (show k < 30 by omega) (by decide) rfl (fun G1 hw1 hr1 => ?_)
    refine wp_iinc (pc' := 49) (j := 6) (ls' := [_, _, _, _, _, _, _, _]) (nI (k + 1)) dL_law_46 rfl (nI_1 k) rfl rfl ?_
    refine wp_goto 33 dL_law_49 rfl ?_
    refine ih G1 _ hw1 (fun i hi => ?_) (fun q hq => (hr1 q hq).trans (hr q hq))
    by_cases e : i = k
    · rw [e, up_s]
    · rw [up_n e]; exact hfl i (by omega)

set_option maxRecDepth 20000 in
set_option maxHeartbeats 2000000 in
theorem l_acts {E : XE} {d0 d mc ms : Nat} {P : Ps} {own : Nat → Nat} {x ag al au aT : Nat} (hd : d = d0 + 14) (hL : E.2.2.2.1 ≤ 260) (hO : OWN own ag al au aT) (hP : ∀ G, P (.inl (some (.int 1))) G) : ∀ j k, k + j = 60 → ∀ (σ : MS), ∀ (N : Nat → Nat), ∀ (G : HP), ∀ (c : Nat), ∀ (n : Nat), ∀ (hW : LW E own x ag al au aT σ N k G), ∀ (hc : c + 6000 * j + 6000 ≤ mc), ∀ (hn : n + 34000 * j + 34000 ≤ ms), WX E d (yL_law, cL_law, (some .boolean), []) mc ms P 62 [some (.ref E.2.2.1), some (.ref x), some (.ref ag), some (.ref al), some (.ref au), some (.ref aT), some (.int 1), some (.int (nI k))] [] G c n
  | 0, k, hk, σ, N, G, c, n, hW, hc, hn => by
    subst hd
    obtain rfl : k = 60 := by omega
    obtain ⟨hT, hX, ⟨g, hg, g0, g1, g2, g3, g4, g5⟩, ⟨l, hl, ll⟩, ⟨u, hu, uu⟩, ⟨t, ht, t1, t2⟩⟩ := id hW
    refine wp_load (pc' := 64) (j := 7) dL_law_62 rfl rfl rfl ?_
    refine wp_bipush (pc' := 66) (60) dL_law_64 rfl rfl ?_
    refine wp_icmpT 110 dL_law_66 rfl (cgeT (n := 60) rfl (by omega) (by decide)) ?_
    refine wp_load (pc' := 112) (j := 6) dL_law_110 rfl rfl rfl ?_
    refine wp_ifF (pc' := 115) 175 dL_law_112 rfl rfl (cmpF rfl) ?_
    refine wp_load (pc' := 116) (j := 1) dL_law_115 rfl rfl rfl ?_
    refine wp_load (pc' := 117) (j := 2) dL_law_116 rfl rfl rfl ?_
    refine wp_s2 5000 30000 dL_law_117 ml_L_187 (Nat.le_of_ble_eq_true rfl) (by omega) (by omega) ?_
    refine t_areFines hT hX (Nat.le_refl 60) hg g0 g2 g5 ?_ (by decide) (Nat.le_refl _) (Nat.le_refl _)
    refine kt_v ?_
    refine wp_ifF (pc' := 123) 175 dL_law_120 rfl rfl (cmpF rfl) ?_
    refine wp_load (pc' := 124) (j := 1) dL_law_123 rfl rfl rfl ?_
    refine wp_load (pc' := 125) (j := 2) dL_law_124 rfl rfl rfl ?_
    refine wp_load (pc' := 126) (j := 3) dL_law_125 rfl rfl rfl ?_
    refine wp_load (pc' := 128) (j := 5) dL_law_126 rfl rfl rfl ?_
    refine wp_iconst (pc' := 129) (0) dL_law_128 rfl rfl ?_
    refine wp_s5 60 400 dL_law_129 ml_L_181 (Nat.le_of_ble_eq_true rfl) (by omega) (by omega) ?_
    refine t_isStreet hT hX (Nat.le_refl 60) (a := 0) (by decide) hg g0 g2 hl ll ht t1 (by decide) (Nat.le_refl _) (Nat.le_refl _) ?_
    refine kt_v ?_
    refine wp_ifF (pc' := 135) 175 dL_law_132 rfl rfl (cmpF rfl) ?_
    refine wp_load (pc' := 136) (j := 1) dL_law_135 rfl rfl rfl ?_
    refine wp_load (pc' := 137) (j := 2) dL_law_136 rfl rfl rfl ?_
    refine wp_load (pc' := 138) (j := 3) dL_law_137 rfl rfl rfl ?_
    refine wp_load (pc' := 140) (j := 5) dL_law_138 rfl rfl rfl ?_
    refine wp_iconst (pc' := 141) (1) dL_law_140 rfl rfl ?_
    refine wp_s5 60 400 dL_law_141 ml_L_181 (Nat.le_of_ble_eq_true rfl) (by omega) (by omega) ?_
    refine t_isStreet hT hX (Nat.le_refl 60) (a := 1) (by decide) hg g0 g2 hl ll ht t1 (by decide) (Nat.le_refl _) (Nat.le_refl _) ?_
    refine kt_v ?_
    refine wp_ifF (pc' := 147) 175 dL_law_144 rfl rfl (cmpF rfl) ?_
    refine wp_load (pc' := 148) (j := 1) dL_law_147 rfl rfl rfl ?_
    refine wp_load (pc' := 149) (j := 2) dL_law_148 rfl rfl rfl ?_
    refine wp_load (pc' := 150) (j := 3) dL_law_149 rfl rfl rfl ?_
    refine wp_load (pc' := 152) (j := 5) dL_law_150 rfl rfl rfl ?_
    refine wp_iconst (pc' := 153) (2) dL_law_152 rfl rfl ?_
    refine wp_s5 60 400 dL_law_153 ml_L_181 (Nat.le_of_ble_eq_true rfl) (by omega) (by omega) ?_
    refine t_isStreet hT hX (Nat.le_refl 60) (a := 2) (by decide) hg g0 g2 hl ll ht t1 (by decide) (Nat.le_refl _) (Nat.le_refl _) ?_
    refine kt_v ?_
    refine wp_ifF (pc' := 159) 175 dL_law_156 rfl rfl (cmpF rfl) ?_
    refine wp_load (pc' := 160) (j := 1) dL_law_159 rfl rfl rfl ?_
    refine wp_load (pc' := 161) (j := 2) dL_law_160 rfl rfl rfl ?_
    refine wp_load (pc' := 162) (j := 3) dL_law_161 rfl rfl rfl ?_
    refine wp_load (pc' := 164) (j := 5) dL_law_162 rfl rfl rfl ?_
    refine wp_iconst (pc' := 165) (3) dL_law_164 rfl rfl ?_
    refine wp_s5 60 400 dL_law_165 ml_L_181 (Nat.le_of_ble_eq_true rfl) (by omega) (by omega) ?_
    refine t_isStreet hT hX (Nat.le_refl 60) (a := 3) (by decide) hg g0 g2 hl ll ht t1 (by decide) (Nat.le_refl _) (Nat.le_refl _) ?_
    refine kt_v ?_
    refine wp_ifF (pc' := 171) 175 dL_law_168 rfl rfl (cmpF rfl) ?_
    refine wp_iconst (pc' := 172) (1) dL_law_171 rfl rfl ?_
    refine wp_goto 176 dL_law_172 rfl ?_
    refine wp_iret dL_law_176 rfl rfl ?_
    exact hP _
  | j + 1, k, hk, σ, N, G, c, n, hW, hc, hn => by
    have ih := l_acts (E := E) (d := d) (mc := mc) (ms := ms) hd hL hO hP (x := x) j (k + 1) (by omega)
    subst hd
    refine wp_load (pc' := 64) (j := 7) dL_law_62 rfl rfl rfl ?_
    refine wp_bipush (pc' := 66) (60) dL_law_64 rfl rfl ?_
    refine wp_icmpF (pc' := 69) 110 dL_law_66 rfl rfl (cgeF (n := 60) rfl (by omega) (by decide)) ?_
    refine wp_load (pc' := 71) (j := 6) dL_law_69 rfl rfl rfl ?_
    refine wp_ifF (pc' := 74) 110 dL_law_71 rfl rfl (cmpF rfl) ?_
    refine wp_load (pc' := 75) (j := 1) dL_law_74 rfl rfl rfl ?_
    refine wp_load (pc' := 76) (j := 2) dL_law_75 rfl rfl rfl ?_
    refine wp_load (pc' := 77) (j := 3) dL_law_76 rfl rfl rfl ?_
    refine wp_load (pc' := 79) (j := 4) dL_law_77 rfl rfl rfl ?_
    refine wp_load (pc' := 81) (j := 5) dL_law_79 rfl rfl rfl ?_
    refine wp_load (pc' := 82) (j := 0) dL_law_81 rfl rfl rfl ?_
    refine wp_iconst (pc' := 83) (2) dL_law_82 rfl rfl ?_
    refine wp_load (pc' := 85) (j := 7) dL_law_83 rfl rfl rfl ?_
    refine wp_pure (pc' := 86) dL_law_85 rfl rfl ?_
    rw [show (2 : Int32) * nI k = nI (2 * k) from pk_mul 2 k]
    refine wp_s2 0 0 dL_law_86 ml_L_192 (Nat.le_of_ble_eq_true rfl) (by omega) (by omega) ?_
    refine w_at hL (q := 2 * k) (by omega) (fun va => ?_)
    refine kt_v ?_
    refine wp_load (pc' := 90) (j := 0) dL_law_89 rfl rfl rfl ?_
    refine wp_iconst (pc' := 91) (2) dL_law_90 rfl rfl ?_
    refine wp_load (pc' := 93) (j := 7) dL_law_91 rfl rfl rfl ?_
    refine wp_pure (pc' := 94) dL_law_93 rfl rfl ?_
    rw [show (2 : Int32) * nI k = nI (2 * k) from pk_mul 2 k]
    refine wp_iconst (pc' := 95) (1) dL_law_94 rfl rfl ?_
    refine wp_pure (pc' := 96) dL_law_95 rfl rfl ?_
    rw [nI_1]
    refine wp_s2 0 0 dL_law_96 ml_L_192 (Nat.le_of_ble_eq_true rfl) (by omega) (by omega) ?_
    refine w_at hL (q := 2 * k + 1) (by omega) (fun vb => ?_)
    refine kt_v ?_
    refine wp_s7 6000 34000 dL_law_99 ml_L_196 (Nat.le_of_ble_eq_true rfl) (by omega) (by omega) ?_
    refine t_acts hO (show k < 60 by omega) hW (fun σ1 N1 G1 hW1 => ?_) (Nat.le_refl _) (Nat.le_refl _)
    refine kt_v ?_
    refine wp_store (pc' := 104) (j := 6) (ls' := [_, _, _, _, _, _, _, _]) dL_law_102 rfl (Nat.le_of_ble_eq_true rfl) rfl rfl ?_
    refine wp_iinc (pc' := 107) (j := 7) (ls' := [_, _, _, _, _, _, _, _]) (nI (k + 1)) dL_law_104 rfl (nI_1 k) rfl rfl ?_
    refine wp_goto 62 dL_law_107 rfl ?_
    exact ih _ _ _ _ _ hW1 (by omega) (by omega)

set_option maxRecDepth 20000 in
set_option maxHeartbeats 4000000 in
theorem law_wp {E : XE} {P : Ps} (hL : E.2.2.2.1 ≤ 260) (hP : ∀ G, P (.inl (some (.int 1))) G) : WX E 14 (yL_law, cL_law, (some .boolean), []) 600064 7301640 P 0 [some (.ref E.2.2.1), none, none, none, none, none, none, none] [] (fun _ => none) 0 0 := by
  refine wp_newL (pc' := 3) 8 dL_law_0 nw_L_11 rfl (by omega) (by omega) rfl (fun kb hkb => ?_)
  refine wp_dup (pc' := 4) dL_law_3 rfl rfl ?_
  refine wp_i0 30 500 dL_law_4 ml_L_191 (Nat.le_of_ble_eq_true rfl) (by omega) (by omega) ?_
  refine q_init (d := 6) hu_s (by decide) (by decide) (fun A G1 hH hA0 => ?_)
  refine kt_u ?_
  refine wp_store (pc' := 8) (j := 1) (ls' := [_, _, _, _, _, _, _, _]) dL_law_7 rfl (Nat.le_of_ble_eq_true rfl) rfl rfl ?_
  refine wp_bipush (pc' := 10) (6) dL_law_8 rfl rfl ?_
  refine wp_newA (pc' := 12) 6 dL_law_10 aw_int rfl (by decide) rfl (by decide) (by omega) (by omega) rfl (fun ag hag => ?_)
  refine wp_store (pc' := 13) (j := 2) (ls' := [_, _, _, _, _, _, _, _]) dL_law_12 rfl (Nat.le_of_ble_eq_true rfl) rfl rfl ?_
  refine wp_bipush (pc' := 15) (30) dL_law_13 rfl rfl ?_
  refine wp_newA (pc' := 17) 30 dL_law_15 aw_int rfl (by decide) rfl (by decide) (by omega) (by omega) rfl (fun al hal => ?_)
  refine wp_store (pc' := 18) (j := 3) (ls' := [_, _, _, _, _, _, _, _]) dL_law_17 rfl (Nat.le_of_ble_eq_true rfl) rfl rfl ?_
  refine wp_bipush (pc' := 20) (30) dL_law_18 rfl rfl ?_
  refine wp_newA (pc' := 22) 30 dL_law_20 aw_int rfl (by decide) rfl (by decide) (by omega) (by omega) rfl (fun au hau => ?_)
  refine wp_store (pc' := 24) (j := 4) (ls' := [_, _, _, _, _, _, _, _]) dL_law_22 rfl (Nat.le_of_ble_eq_true rfl) rfl rfl ?_
  refine wp_bipush (pc' := 26) (30) dL_law_24 rfl rfl ?_
  refine wp_newA (pc' := 28) 30 dL_law_26 aw_int rfl (by decide) rfl (by decide) (by omega) (by omega) rfl (fun aT haT => ?_)
  refine wp_store (pc' := 30) (j := 5) (ls' := [_, _, _, _, _, _, _, _]) dL_law_28 rfl (Nat.le_of_ble_eq_true rfl) rfl rfl ?_
  refine wp_iconst (pc' := 31) (0) dL_law_30 rfl rfl ?_
  refine wp_store (pc' := 33) (j := 6) (ls' := [_, _, _, _, _, _, _, _]) dL_law_31 rfl (Nat.le_of_ble_eq_true rfl) rfl rfl ?_
  have n1 : al ≠ ag := fun z => by rw [z, hu_s] at hal; exact nomatch hal
  have hal2 : G1 al = none := by rw [hu_n n1] at hal; exact hal
  have n2 : au ≠ al := fun z => by rw [z, hu_s] at hau; exact nomatch hau
  have hau1 : hu G1 ag (hI 6 (fun _ => 0)) au = none := by rw [hu_n n2] at hau; exact hau
  have n3 : au ≠ ag := fun z => by rw [z, hu_s] at hau1; exact nomatch hau1
  have hau2 : G1 au = none := by rw [hu_n n3] at hau1; exact hau1
  have n4 : aT ≠ au := fun z => by rw [z, hu_s] at haT; exact nomatch haT
  have haT1 : hu (hu G1 ag (hI 6 (fun _ => 0))) al (hI 30 (fun _ => 0)) aT = none := by rw [hu_n n4] at haT; exact haT
  have n5 : aT ≠ al := fun z => by rw [z, hu_s] at haT1; exact nomatch haT1
  have haT2 : hu G1 ag (hI 6 (fun _ => 0)) aT = none := by rw [hu_n n5] at haT1; exact haT1
  have n6 : aT ≠ ag := fun z => by rw [z, hu_s] at haT2; exact nomatch haT2
  have haT3 : G1 aT = none := by rw [hu_n n6] at haT2; exact haT2
  have hO : OWN (ownA ag al au aT) ag al au aT := ⟨own_n0 (Or.inl rfl), own_n0 (Or.inr (Or.inl rfl)), own_n0 (Or.inr (Or.inr (Or.inl rfl))), own_n0 (Or.inr (Or.inr (Or.inr rfl))), n1.symm, n3.symm, n6.symm, n2.symm, n5.symm, n4.symm⟩
  refine l_fill (fun G f hf hfl hr => ?_) 30 0 (by omega) _ _ hu_s (fun i hi => absurd hi (Nat.not_lt_zero _)) (fun q hq => rfl)
  have hg : G ag = some (hI 6 (fun _ => 0)) := by rw [hr ag n6.symm, hu_n n6.symm, hu_n n3.symm, hu_n n1.symm, hu_s]
  have hl : G al = some (hI 30 (fun _ => 0)) := by rw [hr al n5.symm, hu_n n5.symm, hu_n n2.symm, hu_s]
  have hu : G au = some (hI 30 (fun _ => 0)) := by rw [hr au n4.symm, hu_n n4.symm, hu_s]
  have hrest : ∀ q, q ≠ ag → q ≠ al → q ≠ au → q ≠ aT → G q = G1 q := fun q q1 q2 q3 q4 => by rw [hr q q4, hu_n q4, hu_n q3, hu_n q2, hu_n q1]
  have hCH : CH E (ownA ag al au aT) A (fun _ => -1) sIM N8 G := ch_to hH (fun a e ha _ => by
    have a1 : a ≠ ag := fun z => by rw [z, hag] at ha; exact nomatch ha
    have a2 : a ≠ al := fun z => by rw [z, hal2] at ha; exact nomatch ha
    have a3 : a ≠ au := fun z => by rw [z, hau2] at ha; exact nomatch ha
    have a4 : a ≠ aT := fun z => by rw [z, haT3] at ha; exact nomatch ha
    exact ⟨(hrest a a1 a2 a3 a4).trans ha, ownA_n a1 a2 a3 a4⟩) (fun q hq z => by
    by_cases q1 : q = ag
    · rw [q1, hg] at z; exact nomatch z
    · by_cases q2 : q = al
      · rw [q2, hl] at z; exact nomatch z
      · by_cases q3 : q = au
        · rw [q3, hu] at z; exact nomatch z
        · by_cases q4 : q = aT
          · rw [q4, hf] at z; exact nomatch z
          · exact hq (ownA_n q1 q2 q3 q4))
  have hT : TK E (ownA ag al au aT) kb sIM N8 0 G := ⟨A, _, hCH, inv_init, hA0⟩
  have hW : LW E (ownA ag al au aT) kb ag al au aT sIM N8 0 G := ⟨hT, xi_init, ⟨_, hg, rfl, rfl, rfl, rfl, rfl, rfl⟩, ⟨_, hl, fun i hi => absurd hi (Nat.not_lt_zero _)⟩, ⟨_, hu, fun i hi => absurd hi (Nat.not_lt_zero _)⟩, ⟨_, hf, fun i hi => absurd hi (Nat.not_lt_zero _), fun i hi _ => hfl i hi⟩⟩
  refine wp_load (pc' := 53) (j := 1) dL_law_52 rfl rfl rfl ?_
  refine wp_load (pc' := 54) (j := 2) dL_law_53 rfl rfl rfl ?_
  refine wp_s2 5000 30000 dL_law_54 ml_L_187 (Nat.le_of_ble_eq_true rfl) (by omega) (by omega) ?_
  refine t_areFines (d := 1) hT xi_init (Nat.zero_le _) hg rfl rfl rfl ?_ (by decide) (Nat.le_refl _) (Nat.le_refl _)
  refine kt_v ?_
  refine wp_store (pc' := 59) (j := 6) (ls' := [_, _, _, _, _, _, _, _]) dL_law_57 rfl (Nat.le_of_ble_eq_true rfl) rfl rfl ?_
  refine wp_iconst (pc' := 60) (0) dL_law_59 rfl rfl ?_
  refine wp_store (pc' := 62) (j := 7) (ls' := [_, _, _, _, _, _, _, _]) dL_law_60 rfl (Nat.le_of_ble_eq_true rfl) rfl rfl ?_
  exact l_acts rfl hL hO hP 60 0 (by omega) sIM N8 _ _ _ hW (by omega) (by omega)
