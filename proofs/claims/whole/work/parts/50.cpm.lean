/-! the reference in a turn -/
set_option maxRecDepth 20000 in
set_option maxHeartbeats 2000000 in
theorem pm_block {E : XE} {mc ms : Nat} {P : Ps} {own aM : Nat → Nat} {m o x T T' : Nat} {σ : MS} {N : Nat → Nat} {Q : (Nat → Int64) → Prop} {G : HP} (hOW : OW m o aM own) (hN : cN σ N) (hI : PI σ N T) {s mt : Int32} {is : Bool} (hT : TM E own aM m o x σ (S_block σ s mt is) T' Q G) (hP : ∀ v G', TM E own aM m o x (S_block σ s mt is) (S_block σ s mt is) T' Q G' → (K_block s mt = 0 → v = b2i (σ.2.2 1 (60 * ix s + ix mt))) → P (.inl (some (.int v))) G') : Sp E 12 yX9_block mc ms [.ref m, .int s, .int mt, .int (b2i is)] G P := by
  obtain ⟨n0, n1, n2, n3, n4, n5, e7, e22, e29, e35, e40⟩ := id hN
  have hM := hT.1
  unfold S_block at hT hP
  refine p_block hM  (fun c G' hc h0 hM' hF' => ?_) ?_
  · subst hc
    rw [if_neg h0] at hT hP
    exact hP _ _ (tm_m hOW hT hM' hF') (fun z => absurd z h0)
  · rintro a b ha hb rfl rfl G' hM' hF'
    have hK : K_block (nI a) (nI b) = 0 := by
      unfold K_block isStreetB isMetreB
      rw [show (3 : Int32) = nI 4 - 1 from by decide, show (59 : Int32) = nI 60 - 1 from by decide, in_nI ha (by decide), in_nI hb (by decide)]
      rfl
    rw [if_pos hK] at hT hP
    have ia : ix (nI a) = a := ix_nI (by omega)
    have ib : ix (nI b) = b := ix_nI (by omega)
    try rw [ia, ib] at hT
    rw [ia, ib] at hP
    exact hP _ _ (tm_m hOW hT hM' hF') (fun _ => rfl)

set_option maxRecDepth 20000 in
set_option maxHeartbeats 2000000 in
theorem pm_times {E : XE} {mc ms : Nat} {P : Ps} {own aM : Nat → Nat} {m o x T T' : Nat} {σ : MS} {N : Nat → Nat} {Q : (Nat → Int64) → Prop} {G : HP} (hOW : OW m o aM own) (hN : cN σ N) (hI : PI σ N T) {w f t : Int32} (hT : TM E own aM m o x σ (S_times σ w f t) T' Q G) (hP : ∀ G', TM E own aM m o x (S_times σ w f t) (S_times σ w f t) T' Q G' → P (.inl none) G') : Sp E 12 yX9_times mc ms [.ref m, .int w, .int f, .int t] G P := by
  obtain ⟨n0, n1, n2, n3, n4, n5, e7, e22, e29, e35, e40⟩ := id hN
  have hM := hT.1
  unfold S_times at hT hP
  refine p_times hM  (fun c G' hc h0 hM' hF' => ?_) ?_
  · subst hc
    rw [if_neg h0] at hT hP
    exact hP _ (tm_m hOW hT hM' hF')
  · rintro hK G' hM' hF'
    rw [if_pos hK] at hT hP
    exact hP _ (tm_m hOW hT hM' hF')

set_option maxRecDepth 20000 in
set_option maxHeartbeats 2000000 in
theorem pm_dates {E : XE} {mc ms : Nat} {P : Ps} {own aM : Nat → Nat} {m o x T T' : Nat} {σ : MS} {N : Nat → Nat} {Q : (Nat → Int64) → Prop} {G : HP} (hOW : OW m o aM own) (hN : cN σ N) (hI : PI σ N T) {f t : Int32} (hT : TM E own aM m o x σ (S_dates σ f t) T' Q G) (hP : ∀ G', TM E own aM m o x (S_dates σ f t) (S_dates σ f t) T' Q G' → P (.inl none) G') : Sp E 12 yX9_dates mc ms [.ref m, .int f, .int t] G P := by
  obtain ⟨n0, n1, n2, n3, n4, n5, e7, e22, e29, e35, e40⟩ := id hN
  have hM := hT.1
  unfold S_dates at hT hP
  refine p_dates hM  (fun c G' hc h0 hM' hF' => ?_) ?_
  · subst hc
    rw [if_neg h0] at hT hP
    exact hP _ (tm_m hOW hT hM' hF')
  · rintro hK G' hM' hF'
    rw [if_pos hK] at hT hP
    exact hP _ (tm_m hOW hT hM' hF')

set_option maxRecDepth 20000 in
set_option maxHeartbeats 2000000 in
theorem pm_sign {E : XE} {mc ms : Nat} {P : Ps} {own aM : Nat → Nat} {m o x T T' : Nat} {σ : MS} {N : Nat → Nat} {Q : (Nat → Int64) → Prop} {G : HP} (hOW : OW m o aM own) (hN : cN σ N) (hI : PI σ N T) {st f t u sy : Int32} {fee tmp : Bool} (hT : TM E own aM m o x σ (S_sign σ st f t u sy fee tmp) T' Q G) (hP : ∀ v G', TM E own aM m o x (S_sign σ st f t u sy fee tmp) (S_sign σ st f t u sy fee tmp) T' Q G' → (K_sign σ st f t u sy = 0 → v = σ.1 7 + 1 - 1) → P (.inl (some (.int v))) G') : Sp E 12 yX9_sign mc ms [.ref m, .int st, .int f, .int t, .int u, .int sy, .int (b2i fee), .int (b2i tmp)] G P := by
  obtain ⟨n0, n1, n2, n3, n4, n5, e7, e22, e29, e35, e40⟩ := id hN
  have i7 : ix (σ.1 7) = N 1 := by rw [e7, ix_nI (by omega)]
  have s7 : σ.1 7 = nI (ix (σ.1 7)) := by rw [i7]; exact e7
  have b7 : ix (σ.1 7) ≤ 30 := by rw [i7]; exact n1
  have hM := hT.1
  unfold S_sign at hT hP
  refine p_sign hM s7 b7 (fun c G' hc h0 hM' hF' => ?_) ?_
  · subst hc
    rw [if_neg h0] at hT hP
    exact hP _ _ (tm_m hOW hT hM' hF') (fun z => absurd z h0)
  · rintro hK hn G' hM' hF'
    rw [if_pos hK] at hT hP
    exact hP _ _ (tm_m hOW hT hM' hF') (fun _ => rfl)

set_option maxRecDepth 20000 in
set_option maxHeartbeats 2000000 in
theorem pm_takeDown {E : XE} {mc ms : Nat} {P : Ps} {own aM : Nat → Nat} {m o x T T' : Nat} {σ : MS} {N : Nat → Nat} {Q : (Nat → Int64) → Prop} {G : HP} (hOW : OW m o aM own) (hN : cN σ N) (hI : PI σ N T) {i : Int32} (hT : TM E own aM m o x σ (S_takeDown σ i) T' Q G) (hP : ∀ G', TM E own aM m o x (S_takeDown σ i) (S_takeDown σ i) T' Q G' → P (.inl none) G') : Sp E 12 yX9_takeDown mc ms [.ref m, .int i] G P := by
  obtain ⟨n0, n1, n2, n3, n4, n5, e7, e22, e29, e35, e40⟩ := id hN
  have i7 : ix (σ.1 7) = N 1 := by rw [e7, ix_nI (by omega)]
  have s7 : σ.1 7 = nI (ix (σ.1 7)) := by rw [i7]; exact e7
  have b7 : ix (σ.1 7) ≤ 30 := by rw [i7]; exact n1
  have hM := hT.1
  unfold S_takeDown at hT hP
  refine p_takeDown hM s7 b7 (fun c G' hc h0 hM' hF' => ?_) ?_
  · subst hc
    rw [if_neg h0] at hT hP
    exact hP _ (tm_m hOW hT hM' hF')
  · rintro hK j hj rfl G' hM' hF'
    rw [if_pos hK] at hT hP
    have ij : ix (nI j) = j := ix_nI (by omega)
    rw [ij] at hT hP
    exact hP _ (tm_m hOW hT hM' hF')

set_option maxRecDepth 20000 in
set_option maxHeartbeats 2000000 in
theorem pm_rule {E : XE} {mc ms : Nat} {P : Ps} {own aM : Nat → Nat} {m o x T T' : Nat} {σ : MS} {N : Nat → Nat} {Q : (Nat → Int64) → Prop} {G : HP} (hOW : OW m o aM own) (hN : cN σ N) (hI : PI σ N T) {s mt q : Int32} (hT : TM E own aM m o x σ (S_rule σ s mt q) T' Q G) (hP : ∀ v G', TM E own aM m o x (S_rule σ s mt q) (S_rule σ s mt q) T' Q G' → (K_rule s mt q = 0 → v = roI (ruleO (zz σ) s mt q (ix (σ.1 7)))) → P (.inl (some (.int v))) G') : Sp E 12 yX9_rule mc ms [.ref m, .int s, .int mt, .int q] G P := by
  obtain ⟨n0, n1, n2, n3, n4, n5, e7, e22, e29, e35, e40⟩ := id hN
  have i7 : ix (σ.1 7) = N 1 := by rw [e7, ix_nI (by omega)]
  have s7 : σ.1 7 = nI (ix (σ.1 7)) := by rw [i7]; exact e7
  have b7 : ix (σ.1 7) ≤ 30 := by rw [i7]; exact n1
  have hM := hT.1
  unfold S_rule at hT hP
  refine p_rule hM s7 b7 (fun c G' hc h0 hM' hF' => ?_) ?_
  · subst hc
    rw [if_neg h0] at hT hP
    exact hP _ _ (tm_m hOW hT hM' hF') (fun z => absurd z h0)
  · rintro hK G' hM' hF'
    rw [if_pos hK] at hT hP
    exact hP _ _ (tm_m hOW hT hM' hF') (fun _ => rfl)

set_option maxRecDepth 20000 in
set_option maxHeartbeats 2000000 in
theorem pm_ruleAnew {E : XE} {mc ms : Nat} {P : Ps} {own aM : Nat → Nat} {m o x T T' : Nat} {σ : MS} {N : Nat → Nat} {Q : (Nat → Int64) → Prop} {G : HP} (hOW : OW m o aM own) (hN : cN σ N) (hI : PI σ N T) {s mt q : Int32} (hT : TM E own aM m o x σ (S_ruleAnew σ s mt q) T' Q G) (hP : ∀ v G', TM E own aM m o x (S_ruleAnew σ s mt q) (S_ruleAnew σ s mt q) T' Q G' → (K_rule s mt q = 0 → v = roI (ruleO (zz σ) s mt q (ix (σ.1 7)))) → P (.inl (some (.int v))) G') : Sp E 12 yX9_ruleAnew mc ms [.ref m, .int s, .int mt, .int q] G P := by
  obtain ⟨n0, n1, n2, n3, n4, n5, e7, e22, e29, e35, e40⟩ := id hN
  have i7 : ix (σ.1 7) = N 1 := by rw [e7, ix_nI (by omega)]
  have s7 : σ.1 7 = nI (ix (σ.1 7)) := by rw [i7]; exact e7
  have b7 : ix (σ.1 7) ≤ 30 := by rw [i7]; exact n1
  have hM := hT.1
  unfold S_ruleAnew at hT hP
  refine p_ruleAnew hM s7 b7 (fun c G' hc h0 hM' hF' => ?_) ?_
  · subst hc
    rw [if_neg h0] at hT hP
    exact hP _ _ (tm_m hOW hT hM' hF') (fun z => absurd z h0)
  · rintro hK G' hM' hF'
    rw [if_pos hK] at hT hP
    exact hP _ _ (tm_m hOW hT hM' hF') (fun _ => rfl)

set_option maxRecDepth 20000 in
set_option maxHeartbeats 2000000 in
theorem pm_car {E : XE} {mc ms : Nat} {P : Ps} {own aM : Nat → Nat} {m o x T T' : Nat} {σ : MS} {N : Nat → Nat} {Q : (Nat → Int64) → Prop} {G : HP} (hOW : OW m o aM own) (hN : cN σ N) (hI : PI σ N T) {l u : Int32} (hT : TM E own aM m o x σ (S_car σ l u) T' Q G) (hP : ∀ v G', TM E own aM m o x (S_car σ l u) (S_car σ l u) T' Q G' → (K_car σ l u = 0 → v = σ.1 22 + 1 - 1) → P (.inl (some (.int v))) G') : Sp E 12 yX9_car mc ms [.ref m, .int l, .int u] G P := by
  obtain ⟨n0, n1, n2, n3, n4, n5, e7, e22, e29, e35, e40⟩ := id hN
  have i22 : ix (σ.1 22) = N 2 := by rw [e22, ix_nI (by omega)]
  have s22 : σ.1 22 = nI (ix (σ.1 22)) := by rw [i22]; exact e22
  have b22 : ix (σ.1 22) ≤ 30 := by rw [i22]; exact n2
  have hM := hT.1
  unfold S_car at hT hP
  refine p_car hM s22 b22 (fun c G' hc h0 hM' hF' => ?_) ?_
  · subst hc
    rw [if_neg h0] at hT hP
    exact hP _ _ (tm_m hOW hT hM' hF') (fun z => absurd z h0)
  · rintro hK hn G' hM' hF'
    rw [if_pos hK] at hT hP
    exact hP _ _ (tm_m hOW hT hM' hF') (fun _ => rfl)

set_option maxRecDepth 20000 in
set_option maxHeartbeats 2000000 in
theorem pm_permit {E : XE} {mc ms : Nat} {P : Ps} {own aM : Nat → Nat} {m o x T T' : Nat} {σ : MS} {N : Nat → Nat} {Q : (Nat → Int64) → Prop} {G : HP} (hOW : OW m o aM own) (hN : cN σ N) (hI : PI σ N T) {i s h f t : Int32} (hT : TM E own aM m o x σ (S_permit σ i s h f t) T' Q G) (hP : ∀ v G', TM E own aM m o x (S_permit σ i s h f t) (S_permit σ i s h f t) T' Q G' → (K_permit σ (ix (σ.1 29)) i s h f t = 0 → v = σ.1 29 + 1 - 1) → P (.inl (some (.int v))) G') : Sp E 12 yX9_permit mc ms [.ref m, .int i, .int s, .int h, .int f, .int t] G P := by
  obtain ⟨n0, n1, n2, n3, n4, n5, e7, e22, e29, e35, e40⟩ := id hN
  have i29 : ix (σ.1 29) = N 3 := by rw [e29, ix_nI (by omega)]
  have s29 : σ.1 29 = nI (ix (σ.1 29)) := by rw [i29]; exact e29
  have b29 : ix (σ.1 29) ≤ 40 := by rw [i29]; exact n3
  have hM := hT.1
  unfold S_permit at hT hP
  refine p_permit hM s29 b29 (fun c G' hc h0 hM' hF' => ?_) ?_
  · subst hc
    rw [if_neg h0] at hT hP
    exact hP _ _ (tm_m hOW hT hM' hF') (fun z => absurd z h0)
  · rintro hK hn G' hM' hF'
    rw [if_pos hK] at hT hP
    exact hP _ _ (tm_m hOW hT hM' hF') (fun _ => rfl)

set_option maxRecDepth 20000 in
set_option maxHeartbeats 2000000 in
theorem pm_hand {E : XE} {mc ms : Nat} {P : Ps} {own aM : Nat → Nat} {m o x T T' : Nat} {σ : MS} {N : Nat → Nat} {Q : (Nat → Int64) → Prop} {G : HP} (hOW : OW m o aM own) (hN : cN σ N) (hI : PI σ N T) {p i : Int32} (hT : TM E own aM m o x σ (S_hand σ p i) T' Q G) (hP : ∀ v G', TM E own aM m o x (S_hand σ p i) (S_hand σ p i) T' Q G' → (K_hand σ p i = 0 → v = σ.2.1 30 (ix p)) → P (.inl (some (.int v))) G') : Sp E 12 yX9_hand mc ms [.ref m, .int p, .int i] G P := by
  obtain ⟨n0, n1, n2, n3, n4, n5, e7, e22, e29, e35, e40⟩ := id hN
  have i22 : ix (σ.1 22) = N 2 := by rw [e22, ix_nI (by omega)]
  have s22 : σ.1 22 = nI (ix (σ.1 22)) := by rw [i22]; exact e22
  have b22 : ix (σ.1 22) ≤ 30 := by rw [i22]; exact n2
  have i29 : ix (σ.1 29) = N 3 := by rw [e29, ix_nI (by omega)]
  have s29 : σ.1 29 = nI (ix (σ.1 29)) := by rw [i29]; exact e29
  have b29 : ix (σ.1 29) ≤ 40 := by rw [i29]; exact n3
  have hM := hT.1
  unfold S_hand at hT hP
  refine p_hand hM s22 b22 s29 b29 (fun c G' hc h0 hM' hF' => ?_) ?_
  · subst hc
    rw [if_neg h0] at hT hP
    exact hP _ _ (tm_m hOW hT hM' hF') (fun z => absurd z h0)
  · rintro hK j hj rfl G' hM' hF'
    rw [if_pos hK] at hT hP
    have ij : ix (nI j) = j := ix_nI (by omega)
    try rw [ij] at hT
    rw [ij] at hP
    exact hP _ _ (tm_m hOW hT hM' hF') (fun _ => rfl)

set_option maxRecDepth 20000 in
set_option maxHeartbeats 2000000 in
theorem pm_countsAs {E : XE} {mc ms : Nat} {P : Ps} {own aM : Nat → Nat} {m o x T T' : Nat} {σ : MS} {N : Nat → Nat} {Q : (Nat → Int64) → Prop} {G : HP} (hOW : OW m o aM own) (hN : cN σ N) (hI : PI σ N T) {i s : Int32} (hT : TM E own aM m o x σ (S_countsAs σ i s) T' Q G) (hP : ∀ v G', TM E own aM m o x (S_countsAs σ i s) (S_countsAs σ i s) T' Q G' → (K_countsAs σ i s = 0 → v = userOnF (zz σ) (ix i) s (σ.1 0 / 96) (ix (σ.1 29))) → P (.inl (some (.int v))) G') : Sp E 12 yX9_countsAs mc ms [.ref m, .int i, .int s] G P := by
  obtain ⟨n0, n1, n2, n3, n4, n5, e7, e22, e29, e35, e40⟩ := id hN
  have i22 : ix (σ.1 22) = N 2 := by rw [e22, ix_nI (by omega)]
  have s22 : σ.1 22 = nI (ix (σ.1 22)) := by rw [i22]; exact e22
  have b22 : ix (σ.1 22) ≤ 30 := by rw [i22]; exact n2
  have i29 : ix (σ.1 29) = N 3 := by rw [e29, ix_nI (by omega)]
  have s29 : σ.1 29 = nI (ix (σ.1 29)) := by rw [i29]; exact e29
  have b29 : ix (σ.1 29) ≤ 40 := by rw [i29]; exact n3
  have hM := hT.1
  unfold S_countsAs at hT hP
  refine p_countsAs hM s22 b22 s29 b29 (fun c G' hc h0 hM' hF' => ?_) ?_
  · subst hc
    rw [if_neg h0] at hT hP
    exact hP _ _ (tm_m hOW hT hM' hF') (fun z => absurd z h0)
  · rintro hK j hj rfl G' hM' hF'
    rw [if_pos hK] at hT hP
    have ij : ix (nI j) = j := ix_nI (by omega)
    try rw [ij] at hT
    rw [ij] at hP
    exact hP _ _ (tm_m hOW hT hM' hF') (fun _ => rfl)

set_option maxRecDepth 20000 in
set_option maxHeartbeats 2000000 in
theorem pm_park {E : XE} {mc ms : Nat} {P : Ps} {own aM : Nat → Nat} {m o x T T' : Nat} {σ : MS} {N : Nat → Nat} {Q : (Nat → Int64) → Prop} {G : HP} (hOW : OW m o aM own) (hN : cN σ N) (hI : PI σ N T) {i s mt : Int32} (hT : TM E own aM m o x σ (S_park σ i s mt) T' Q G) (hP : ∀ G', TM E own aM m o x (S_park σ i s mt) (S_park σ i s mt) T' Q G' → P (.inl none) G') : Sp E 12 yX9_park mc ms [.ref m, .int i, .int s, .int mt] G P := by
  obtain ⟨n0, n1, n2, n3, n4, n5, e7, e22, e29, e35, e40⟩ := id hN
  have i22 : ix (σ.1 22) = N 2 := by rw [e22, ix_nI (by omega)]
  have s22 : σ.1 22 = nI (ix (σ.1 22)) := by rw [i22]; exact e22
  have b22 : ix (σ.1 22) ≤ 30 := by rw [i22]; exact n2
  have hM := hT.1
  unfold S_park at hT hP
  refine p_park hM s22 b22 (fun c G' hc h0 hM' hF' => ?_) ?_
  · subst hc
    rw [if_neg h0] at hT hP
    exact hP _ (tm_m hOW hT hM' hF')
  · rintro hK j hj rfl G' hM' hF'
    rw [if_pos hK] at hT hP
    have ij : ix (nI j) = j := ix_nI (by omega)
    rw [ij] at hT hP
    exact hP _ (tm_m hOW hT hM' hF')

set_option maxRecDepth 20000 in
set_option maxHeartbeats 2000000 in
theorem pm_leave {E : XE} {mc ms : Nat} {P : Ps} {own aM : Nat → Nat} {m o x T T' : Nat} {σ : MS} {N : Nat → Nat} {Q : (Nat → Int64) → Prop} {G : HP} (hOW : OW m o aM own) (hN : cN σ N) (hI : PI σ N T) {i : Int32} (hT : TM E own aM m o x σ (S_leave σ i) T' Q G) (hP : ∀ v G', TM E own aM m o x (S_leave σ i) (S_leave σ i) T' Q G' → (K_leave σ i = 0 → v = σ.1 0 - σ.2.1 27 (ix i)) → P (.inl (some (.int v))) G') : Sp E 12 yX9_leave mc ms [.ref m, .int i] G P := by
  obtain ⟨n0, n1, n2, n3, n4, n5, e7, e22, e29, e35, e40⟩ := id hN
  have i22 : ix (σ.1 22) = N 2 := by rw [e22, ix_nI (by omega)]
  have s22 : σ.1 22 = nI (ix (σ.1 22)) := by rw [i22]; exact e22
  have b22 : ix (σ.1 22) ≤ 30 := by rw [i22]; exact n2
  have hM := hT.1
  unfold S_leave at hT hP
  refine p_leave hM s22 b22 (fun c G' hc h0 hM' hF' => ?_) ?_
  · subst hc
    rw [if_neg h0] at hT hP
    exact hP _ _ (tm_m hOW hT hM' hF') (fun z => absurd z h0)
  · rintro hK j hj rfl G' hM' hF'
    rw [if_pos hK] at hT hP
    have ij : ix (nI j) = j := ix_nI (by omega)
    try rw [ij] at hT
    rw [ij] at hP
    exact hP _ _ (tm_m hOW hT hM' hF') (fun _ => rfl)

set_option maxRecDepth 20000 in
set_option maxHeartbeats 2000000 in
theorem pm_gap {E : XE} {mc ms : Nat} {P : Ps} {own aM : Nat → Nat} {m o x T T' : Nat} {σ : MS} {N : Nat → Nat} {Q : (Nat → Int64) → Prop} {G : HP} (hOW : OW m o aM own) (hN : cN σ N) (hI : PI σ N T) {s l : Int32} (hT : TM E own aM m o x σ (S_gap σ s l) T' Q G) (hP : ∀ v G', TM E own aM m o x (S_gap σ s l) (S_gap σ s l) T' Q G' → (K_gap s l = 0 → v = gapF (zz σ) s l (ix (σ.1 22)) 60) → P (.inl (some (.int v))) G') : Sp E 12 yX9_gap mc ms [.ref m, .int s, .int l] G P := by
  obtain ⟨n0, n1, n2, n3, n4, n5, e7, e22, e29, e35, e40⟩ := id hN
  have i22 : ix (σ.1 22) = N 2 := by rw [e22, ix_nI (by omega)]
  have s22 : σ.1 22 = nI (ix (σ.1 22)) := by rw [i22]; exact e22
  have b22 : ix (σ.1 22) ≤ 30 := by rw [i22]; exact n2
  have hM := hT.1
  unfold S_gap at hT hP
  refine p_gap hM s22 b22 (fun c G' hc h0 hM' hF' => ?_) ?_
  · subst hc
    rw [if_neg h0] at hT hP
    exact hP _ _ (tm_m hOW hT hM' hF') (fun z => absurd z h0)
  · rintro hK G' hM' hF'
    rw [if_pos hK] at hT hP
    exact hP _ _ (tm_m hOW hT hM' hF') (fun _ => rfl)

set_option maxRecDepth 20000 in
set_option maxHeartbeats 2000000 in
theorem pm_pay {E : XE} {mc ms : Nat} {P : Ps} {own aM : Nat → Nat} {m o x T T' : Nat} {σ : MS} {N : Nat → Nat} {Q : (Nat → Int64) → Prop} {G : HP} (hOW : OW m o aM own) (hN : cN σ N) (hI : PI σ N T) {i s f q : Int32} (hT : TM E own aM m o x σ (S_pay σ i s f q) T' Q G) (hP : ∀ v G', TM E own aM m o x (S_pay σ i s f q) (S_pay σ i s f q) T' Q G' → (K_pay σ i s f q = 0 → v = q * σ.2.1 52 (ix s)) → P (.inl (some (.int v))) G') : Sp E 12 yX9_pay mc ms [.ref m, .int i, .int s, .int f, .int q] G P := by
  obtain ⟨n0, n1, n2, n3, n4, n5, e7, e22, e29, e35, e40⟩ := id hN
  have i22 : ix (σ.1 22) = N 2 := by rw [e22, ix_nI (by omega)]
  have s22 : σ.1 22 = nI (ix (σ.1 22)) := by rw [i22]; exact e22
  have b22 : ix (σ.1 22) ≤ 30 := by rw [i22]; exact n2
  have i35 : ix (σ.1 35) = N 4 := by rw [e35, ix_nI (by omega)]
  have s35 : σ.1 35 = nI (ix (σ.1 35)) := by rw [i35]; exact e35
  have b35 : ix (σ.1 35) ≤ 200 := by rw [i35]; exact n4
  have hM := hT.1
  unfold S_pay at hT hP
  refine p_pay hM s22 b22 s35 b35 (fun c G' hc h0 hM' hF' => ?_) ?_
  · subst hc
    rw [if_neg h0] at hT hP
    exact hP _ _ (tm_m hOW hT hM' hF') (fun z => absurd z h0)
  · rintro hK a ha rfl hn G' hM' hF'
    rw [if_pos hK] at hT hP
    have ia : ix (nI a) = a := ix_nI (by omega)
    try rw [ia] at hT
    rw [ia] at hP
    exact hP _ _ (tm_m hOW hT hM' hF') (fun _ => rfl)

set_option maxRecDepth 20000 in
set_option maxHeartbeats 2000000 in
theorem pm_judge {E : XE} {mc ms : Nat} {P : Ps} {own aM : Nat → Nat} {m o x T T' : Nat} {σ : MS} {N : Nat → Nat} {Q : (Nat → Int64) → Prop} {G : HP} (hOW : OW m o aM own) (hN : cN σ N) (hI : PI σ N T) {i : Int32} (hT : TM E own aM m o x σ (S_judge σ i) T' Q G) (hP : ∀ v G', TM E own aM m o x (S_judge σ i) (S_judge σ i) T' Q G' → (K_car1 σ i = 0 → v = if σ.2.1 25 (ix i) = -1 then -1 else judNow (zz σ) (ix i)) → P (.inl (some (.int v))) G') : Sp E 12 yX9_judge mc ms [.ref m, .int i] G P := by
  obtain ⟨n0, n1, n2, n3, n4, n5, e7, e22, e29, e35, e40⟩ := id hN
  have i7 : ix (σ.1 7) = N 1 := by rw [e7, ix_nI (by omega)]
  have s7 : σ.1 7 = nI (ix (σ.1 7)) := by rw [i7]; exact e7
  have b7 : ix (σ.1 7) ≤ 30 := by rw [i7]; exact n1
  have i22 : ix (σ.1 22) = N 2 := by rw [e22, ix_nI (by omega)]
  have s22 : σ.1 22 = nI (ix (σ.1 22)) := by rw [i22]; exact e22
  have b22 : ix (σ.1 22) ≤ 30 := by rw [i22]; exact n2
  have i29 : ix (σ.1 29) = N 3 := by rw [e29, ix_nI (by omega)]
  have s29 : σ.1 29 = nI (ix (σ.1 29)) := by rw [i29]; exact e29
  have b29 : ix (σ.1 29) ≤ 40 := by rw [i29]; exact n3
  have i35 : ix (σ.1 35) = N 4 := by rw [e35, ix_nI (by omega)]
  have s35 : σ.1 35 = nI (ix (σ.1 35)) := by rw [i35]; exact e35
  have b35 : ix (σ.1 35) ≤ 200 := by rw [i35]; exact n4
  have hM := hT.1
  unfold S_judge at hT hP
  refine p_judge hM s7 b7 s22 b22 s29 b29 s35 b35 (fun i hi hs => car_ok hI (by rw [i22] at hi; exact hi) hs) (fun c G' hc h0 hM' hF' => ?_) ?_
  · subst hc
    rw [if_neg h0] at hT hP
    exact hP _ _ (tm_m hOW hT hM' hF') (fun z => absurd z h0)
  · rintro hK j hj rfl G' hM' hF'
    rw [if_pos hK] at hT hP
    have ij : ix (nI j) = j := ix_nI (by omega)
    try rw [ij] at hT
    rw [ij] at hP
    exact hP _ _ (tm_m hOW hT hM' hF') (fun _ => rfl)

set_option maxRecDepth 20000 in
set_option maxHeartbeats 2000000 in
theorem pm_look {E : XE} {mc ms : Nat} {P : Ps} {own aM : Nat → Nat} {m o x T T' : Nat} {σ : MS} {N : Nat → Nat} {Q : (Nat → Int64) → Prop} {G : HP} (hOW : OW m o aM own) (hN : cN σ N) (hI : PI σ N T) {s : Int32} (hT : TM E own aM m o x σ (S_look σ s) T' Q G) (hP : ∀ v G', TM E own aM m o x (S_look σ s) (S_look σ s) T' Q G' → (K_look s = 0 → v = (lookF (zz σ) s (ix (σ.1 22))).1 40 - σ.1 40) → P (.inl (some (.int v))) G') : Sp E 12 yX9_look mc ms [.ref m, .int s] G P := by
  obtain ⟨n0, n1, n2, n3, n4, n5, e7, e22, e29, e35, e40⟩ := id hN
  have i7 : ix (σ.1 7) = N 1 := by rw [e7, ix_nI (by omega)]
  have s7 : σ.1 7 = nI (ix (σ.1 7)) := by rw [i7]; exact e7
  have b7 : ix (σ.1 7) ≤ 30 := by rw [i7]; exact n1
  have i22 : ix (σ.1 22) = N 2 := by rw [e22, ix_nI (by omega)]
  have s22 : σ.1 22 = nI (ix (σ.1 22)) := by rw [i22]; exact e22
  have b22 : ix (σ.1 22) ≤ 30 := by rw [i22]; exact n2
  have i29 : ix (σ.1 29) = N 3 := by rw [e29, ix_nI (by omega)]
  have s29 : σ.1 29 = nI (ix (σ.1 29)) := by rw [i29]; exact e29
  have b29 : ix (σ.1 29) ≤ 40 := by rw [i29]; exact n3
  have i35 : ix (σ.1 35) = N 4 := by rw [e35, ix_nI (by omega)]
  have s35 : σ.1 35 = nI (ix (σ.1 35)) := by rw [i35]; exact e35
  have b35 : ix (σ.1 35) ≤ 200 := by rw [i35]; exact n4
  have hM := hT.1
  unfold S_look at hT hP
  refine p_look hM (n := ix (σ.1 7)) (nc := ix (σ.1 22)) (np := ix (σ.1 29)) (ny := ix (σ.1 35)) (by rw [i7, i22, i29, i35]; exact li_of hN hI) (fun c G' hc h0 hM' hF' => ?_) ?_
  · subst hc
    rw [if_neg h0] at hT hP
    exact hP _ _ (tm_m hOW hT hM' hF') (fun z => absurd z h0)
  · rintro hK a ha rfl G' hM' hF'
    rw [if_pos hK] at hT hP
    exact hP _ _ (tm_m hOW hT hM' hF') (fun _ => rfl)

set_option maxRecDepth 20000 in
set_option maxHeartbeats 2000000 in
theorem pm_appeal {E : XE} {mc ms : Nat} {P : Ps} {own aM : Nat → Nat} {m o x T T' : Nat} {σ : MS} {N : Nat → Nat} {Q : (Nat → Int64) → Prop} {G : HP} (hOW : OW m o aM own) (hN : cN σ N) (hI : PI σ N T) {i : Int32} (hT : TM E own aM m o x σ (S_appeal σ i) T' Q G) (hP : ∀ v G', TM E own aM m o x (S_appeal σ i) (S_appeal σ i) T' Q G' → (K_appeal σ i = 0 → v = b2i (!σ.2.2 48 (ix i) && decide (judFine (mbr (zz σ) 49 (ix i) true) (ix i) = 0))) → P (.inl (some (.int v))) G') : Sp E 12 yX9_appeal mc ms [.ref m, .int i] G P := by
  obtain ⟨n0, n1, n2, n3, n4, n5, e7, e22, e29, e35, e40⟩ := id hN
  have i7 : ix (σ.1 7) = N 1 := by rw [e7, ix_nI (by omega)]
  have s7 : σ.1 7 = nI (ix (σ.1 7)) := by rw [i7]; exact e7
  have b7 : ix (σ.1 7) ≤ 30 := by rw [i7]; exact n1
  have i29 : ix (σ.1 29) = N 3 := by rw [e29, ix_nI (by omega)]
  have s29 : σ.1 29 = nI (ix (σ.1 29)) := by rw [i29]; exact e29
  have b29 : ix (σ.1 29) ≤ 40 := by rw [i29]; exact n3
  have i35 : ix (σ.1 35) = N 4 := by rw [e35, ix_nI (by omega)]
  have s35 : σ.1 35 = nI (ix (σ.1 35)) := by rw [i35]; exact e35
  have b35 : ix (σ.1 35) ≤ 200 := by rw [i35]; exact n4
  have i40 : ix (σ.1 40) = N 5 := by rw [e40, ix_nI (by omega)]
  have s40 : σ.1 40 = nI (ix (σ.1 40)) := by rw [i40]; exact e40
  have b40 : ix (σ.1 40) ≤ 60 := by rw [i40]; exact n5
  have hM := hT.1
  unfold S_appeal at hT hP
  refine p_appeal hM s7 b7 s29 b29 s35 b35 s40 b40 (fun j hj => fine_ok hN hI (by rw [i40] at hj; exact hj)) (fun c G' hc h0 hM' hF' => ?_) ?_
  · subst hc
    rw [if_neg h0] at hT hP
    exact hP _ _ (tm_m hOW hT hM' hF') (fun z => absurd z h0)
  · rintro hK j hj rfl G' b hb hM' hF'
    rw [if_pos hK] at hT hP
    have ij : ix (nI j) = j := ix_nI (by omega)
    try rw [ij] at hT
    rw [ij] at hP
    subst hb
    exact hP _ _ (tm_m hOW hT hM' hF') (fun _ => rfl)

set_option maxRecDepth 20000 in
set_option maxHeartbeats 2000000 in
theorem pm_payFine {E : XE} {mc ms : Nat} {P : Ps} {own aM : Nat → Nat} {m o x T T' : Nat} {σ : MS} {N : Nat → Nat} {Q : (Nat → Int64) → Prop} {G : HP} (hOW : OW m o aM own) (hN : cN σ N) (hI : PI σ N T) {i : Int32} (hT : TM E own aM m o x σ (S_payFine σ i) T' Q G) (hP : ∀ v G', TM E own aM m o x (S_payFine σ i) (S_payFine σ i) T' Q G' → (K_payFine σ i = 0 → v = amoF σ (ix i)) → P (.inl (some (.int v))) G') : Sp E 12 yX9_payFine mc ms [.ref m, .int i] G P := by
  obtain ⟨n0, n1, n2, n3, n4, n5, e7, e22, e29, e35, e40⟩ := id hN
  have i40 : ix (σ.1 40) = N 5 := by rw [e40, ix_nI (by omega)]
  have s40 : σ.1 40 = nI (ix (σ.1 40)) := by rw [i40]; exact e40
  have b40 : ix (σ.1 40) ≤ 60 := by rw [i40]; exact n5
  have hM := hT.1
  unfold S_payFine at hT hP
  refine p_payFine hM s40 b40 (fun c G' hc h0 hM' hF' => ?_) ?_
  · subst hc
    rw [if_neg h0] at hT hP
    exact hP _ _ (tm_m hOW hT hM' hF') (fun z => absurd z h0)
  · rintro hK j hj rfl G' hM' hF'
    rw [if_pos hK] at hT hP
    have ij : ix (nI j) = j := ix_nI (by omega)
    try rw [ij] at hT
    rw [ij] at hP
    exact hP _ _ (tm_m hOW hT hM' hF') (fun _ => rfl)

set_option maxRecDepth 20000 in
set_option maxHeartbeats 2000000 in
theorem pm_fine {E : XE} {mc ms : Nat} {P : Ps} {own aM : Nat → Nat} {m o x T T' : Nat} {σ : MS} {N : Nat → Nat} {Q : (Nat → Int64) → Prop} {G : HP} (hOW : OW m o aM own) (hN : cN σ N) (hI : PI σ N T) {i w : Int32} (hT : TM E own aM m o x σ (S_fine σ i w) T' Q G) (hP : ∀ v G', TM E own aM m o x (S_fine σ i w) (S_fine σ i w) T' Q G' → (K_fine σ i w = 0 → v = fineV (zz σ) (ix i) w) → P (.inl (some (.int v))) G') : Sp E 12 yX9_fine mc ms [.ref m, .int i, .int w] G P := by
  obtain ⟨n0, n1, n2, n3, n4, n5, e7, e22, e29, e35, e40⟩ := id hN
  have i40 : ix (σ.1 40) = N 5 := by rw [e40, ix_nI (by omega)]
  have s40 : σ.1 40 = nI (ix (σ.1 40)) := by rw [i40]; exact e40
  have b40 : ix (σ.1 40) ≤ 60 := by rw [i40]; exact n5
  have hM := hT.1
  unfold S_fine at hT hP
  refine p_fine hM s40 b40 (fun c G' hc h0 hM' hF' => ?_) ?_
  · subst hc
    rw [if_neg h0] at hT hP
    exact hP _ _ (tm_m hOW hT hM' hF') (fun z => absurd z h0)
  · rintro hK j hj rfl G' hM' hF'
    rw [if_pos hK] at hT hP
    have ij : ix (nI j) = j := ix_nI (by omega)
    try rw [ij] at hT
    rw [ij] at hP
    exact hP _ _ (tm_m hOW hT hM' hF') (fun _ => rfl)

set_option maxRecDepth 20000 in
set_option maxHeartbeats 2000000 in
theorem pm_debt {E : XE} {mc ms : Nat} {P : Ps} {own aM : Nat → Nat} {m o x T T' : Nat} {σ : MS} {N : Nat → Nat} {Q : (Nat → Int64) → Prop} {G : HP} (hOW : OW m o aM own) (hN : cN σ N) (hI : PI σ N T) {i : Int32} (hT : TM E own aM m o x σ (S_debt σ i) T' Q G) (hP : ∀ v G', TM E own aM m o x (S_debt σ i) (S_debt σ i) T' Q G' → (K_car1 σ i = 0 → v = debtF (zz σ) (ix i) (ix (σ.1 40))) → P (.inl (some (.int v))) G') : Sp E 12 yX9_debt mc ms [.ref m, .int i] G P := by
  obtain ⟨n0, n1, n2, n3, n4, n5, e7, e22, e29, e35, e40⟩ := id hN
  have i22 : ix (σ.1 22) = N 2 := by rw [e22, ix_nI (by omega)]
  have s22 : σ.1 22 = nI (ix (σ.1 22)) := by rw [i22]; exact e22
  have b22 : ix (σ.1 22) ≤ 30 := by rw [i22]; exact n2
  have i40 : ix (σ.1 40) = N 5 := by rw [e40, ix_nI (by omega)]
  have s40 : σ.1 40 = nI (ix (σ.1 40)) := by rw [i40]; exact e40
  have b40 : ix (σ.1 40) ≤ 60 := by rw [i40]; exact n5
  have hM := hT.1
  unfold S_debt at hT hP
  refine p_debt hM s22 b22 s40 b40 (fun c G' hc h0 hM' hF' => ?_) ?_
  · subst hc
    rw [if_neg h0] at hT hP
    exact hP _ _ (tm_m hOW hT hM' hF') (fun z => absurd z h0)
  · rintro hK j hj rfl G' hM' hF'
    rw [if_pos hK] at hT hP
    have ij : ix (nI j) = j := ix_nI (by omega)
    try rw [ij] at hT
    rw [ij] at hP
    exact hP _ _ (tm_m hOW hT hM' hF') (fun _ => rfl)

set_option maxRecDepth 20000 in
set_option maxHeartbeats 2000000 in
theorem pm_tow {E : XE} {mc ms : Nat} {P : Ps} {own aM : Nat → Nat} {m o x T T' : Nat} {σ : MS} {N : Nat → Nat} {Q : (Nat → Int64) → Prop} {G : HP} (hOW : OW m o aM own) (hN : cN σ N) (hI : PI σ N T) {i : Int32} (hT : TM E own aM m o x σ (S_tow σ i) T' Q G) (hP : ∀ v G', TM E own aM m o x (S_tow σ i) (S_tow σ i) T' Q G' → (K_tow σ (ix (σ.1 40)) i = 0 → v = debtF σ (ix i) (ix (σ.1 40))) → P (.inl (some (.int v))) G') : Sp E 12 yX9_tow mc ms [.ref m, .int i] G P := by
  obtain ⟨n0, n1, n2, n3, n4, n5, e7, e22, e29, e35, e40⟩ := id hN
  have i22 : ix (σ.1 22) = N 2 := by rw [e22, ix_nI (by omega)]
  have s22 : σ.1 22 = nI (ix (σ.1 22)) := by rw [i22]; exact e22
  have b22 : ix (σ.1 22) ≤ 30 := by rw [i22]; exact n2
  have i40 : ix (σ.1 40) = N 5 := by rw [e40, ix_nI (by omega)]
  have s40 : σ.1 40 = nI (ix (σ.1 40)) := by rw [i40]; exact e40
  have b40 : ix (σ.1 40) ≤ 60 := by rw [i40]; exact n5
  have hM := hT.1
  unfold S_tow at hT hP
  refine p_tow hM s22 b22 s40 b40 (fun c G' hc h0 hM' hF' => ?_) ?_
  · subst hc
    rw [if_neg h0] at hT hP
    exact hP _ _ (tm_m hOW hT hM' hF') (fun z => absurd z h0)
  · rintro hK j hj rfl G' hM' hF'
    rw [if_pos hK] at hT hP
    have ij : ix (nI j) = j := ix_nI (by omega)
    try rw [ij] at hT
    rw [ij] at hP
    exact hP _ _ (tm_m hOW hT hM' hF') (fun _ => debt_off _)

set_option maxRecDepth 20000 in
set_option maxHeartbeats 2000000 in
theorem pm_streetIs {E : XE} {mc ms : Nat} {P : Ps} {own aM : Nat → Nat} {m o x T T' : Nat} {σ : MS} {N : Nat → Nat} {Q : (Nat → Int64) → Prop} {G : HP} (hOW : OW m o aM own) (hN : cN σ N) (hI : PI σ N T) {s w : Int32} (hT : TM E own aM m o x σ (S_streetIs σ s w) T' Q G) (hP : ∀ v G', TM E own aM m o x (S_streetIs σ s w) (S_streetIs σ s w) T' Q G' → (K_streetIs s w = 0 → v = strV (zz σ) (ix s) (ix (σ.1 22)) w) → P (.inl (some (.int v))) G') : Sp E 12 yX9_streetIs mc ms [.ref m, .int s, .int w] G P := by
  obtain ⟨n0, n1, n2, n3, n4, n5, e7, e22, e29, e35, e40⟩ := id hN
  have i22 : ix (σ.1 22) = N 2 := by rw [e22, ix_nI (by omega)]
  have s22 : σ.1 22 = nI (ix (σ.1 22)) := by rw [i22]; exact e22
  have b22 : ix (σ.1 22) ≤ 30 := by rw [i22]; exact n2
  have hM := hT.1
  unfold S_streetIs at hT hP
  refine p_streetIs hM s22 b22 (fun c G' hc h0 hM' hF' => ?_) ?_
  · subst hc
    rw [if_neg h0] at hT hP
    exact hP _ _ (tm_m hOW hT hM' hF') (fun z => absurd z h0)
  · rintro hK j hj rfl G' hM' hF'
    rw [if_pos hK] at hT hP
    have ij : ix (nI j) = j := ix_nI (by omega)
    try rw [ij] at hT
    rw [ij] at hP
    exact hP _ _ (tm_m hOW hT hM' hF') (fun _ => rfl)

set_option maxRecDepth 20000 in
set_option maxHeartbeats 2000000 in
theorem pm_pass {E : XE} {mc ms : Nat} {P : Ps} {own aM : Nat → Nat} {m o x T T' : Nat} {σ : MS} {N : Nat → Nat} {Q : (Nat → Int64) → Prop} {G : HP} (hOW : OW m o aM own) (hN : cN σ N) (hI : PI σ N T) {q : Int32} (hT : TM E own aM m o x σ (S_pass σ q) T' Q G) (hP : ∀ v G', TM E own aM m o x (S_pass σ q) (S_pass σ q) T' Q G' → (K_pass σ q = 0 → v = (passF (zz σ) (ix (σ.1 22)) (ix q)).1 0) → P (.inl (some (.int v))) G') : Sp E 12 yX9_pass mc ms [.ref m, .int q] G P := by
  obtain ⟨n0, n1, n2, n3, n4, n5, e7, e22, e29, e35, e40⟩ := id hN
  have i22 : ix (σ.1 22) = N 2 := by rw [e22, ix_nI (by omega)]
  have s22 : σ.1 22 = nI (ix (σ.1 22)) := by rw [i22]; exact e22
  have b22 : ix (σ.1 22) ≤ 30 := by rw [i22]; exact n2
  have hM := hT.1
  unfold S_pass at hT hP
  refine p_pass hM s22 b22 (fun c G' hc h0 hM' hF' => ?_) ?_
  · subst hc
    rw [if_neg h0] at hT hP
    exact hP _ _ (tm_m hOW hT hM' hF') (fun z => absurd z h0)
  · rintro hK j hj rfl G' hM' hF'
    rw [if_pos hK] at hT hP
    have ij : ix (nI j) = j := ix_nI (by omega)
    try rw [ij] at hT
    rw [ij] at hP
    exact hP _ _ (tm_m hOW hT hM' hF') (fun _ => rfl)

