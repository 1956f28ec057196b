/-! the class: its objects, against the state of the reference -/
def Cl (own : Nat → Nat) (G : HP) (a : Nat) (e : HE) : Prop := G a = some e ∧ own a = 0
def dnF (x : Int32) : Int32 := if x = 50000 then -1 else x
def cN (σ : MS) (N : Nat → Nat) : Prop := N 0 = 4 ∧ N 1 ≤ 30 ∧ N 2 ≤ 30 ∧ N 3 ≤ 40 ∧ N 4 ≤ 200 ∧ N 5 ≤ 60 ∧ σ.1 7 = nI (N 1) ∧ σ.1 22 = nI (N 2) ∧ σ.1 29 = nI (N 3) ∧ σ.1 35 = nI (N 4) ∧ σ.1 40 = nI (N 5)
def cK (own : Nat → Nat) (A : Nat → Nat → Nat) (σ : MS) (G : HP) : Prop := Cl own G (A 0 0) (hO 9 [.ref (A 1 0), .ref (A 1 1), .ref (A 1 2), .ref (A 1 3), .ref (A 1 4), .ref (A 1 5), .ref (A 10 0), .int (σ.1 0)])
def cL (E : XE) (own : Nat → Nat) (A : Nat → Nat → Nat) (N : Nat → Nat) (G : HP) : Prop := ∀ k, k < 6 → AL E G (A 1 k) (A 2 k) (N k) (A (3 + k)) ∧ own (A 1 k) = 0 ∧ (0 < N k → own (A 2 k) = 0)
def cD (A : Nat → Nat → Nat) (N : Nat → Nat) : Prop := (∀ i k, i < 6 → k < 6 → i ≠ k → A 1 i ≠ A 1 k ∧ (0 < N i → 0 < N k → A 2 i ≠ A 2 k)) ∧ (∀ k, k < 6 → ∀ i j, i < N k → j < N k → A (3 + k) i = A (3 + k) j → i = j) ∧ ∀ i j, i < 4 → j < 4 → A 11 i = A 11 j → i = j
def cT (own : Nat → Nat) (A : Nat → Nat → Nat) (σ : MS) (N : Nat → Nat) (G : HP) : Prop := ∀ a, a < 4 → Cl own G (A 3 a) (hO 7 [.ref (A 11 a), .int (σ.2.1 52 a), .int (takenF σ (nI a) (N 2)), .int (σ.2.1 55 a), .int (σ.2.1 53 a), .int (σ.2.1 54 a)]) ∧ ∃ f, Cl own G (A 11 a) (hZ 60 f) ∧ ∀ i, i < 60 → f i = b2i (σ.2.2 1 (60 * a + i))
def cS (own : Nat → Nat) (A : Nat → Nat → Nat) (σ : MS) (N : Nat → Nat) (G : HP) : Prop := ∀ i, i < N 1 → Cl own G (A 4 i) (hO 5 [.int (nI i), .int (σ.2.1 20 i), .ref (A 9 i), .int (dnF (σ.2.1 21 i)), .int (σ.2.1 8 i), .int (σ.2.1 9 i), .int (σ.2.1 10 i), .int (σ.2.1 11 i), .int (σ.2.1 12 i), .int (b2i (σ.2.2 13 i)), .int (b2i (σ.2.2 14 i))]) ∧ Cl own G (A 9 i) (hO 8 [.int (σ.2.1 15 i), .int (σ.2.1 16 i), .int (σ.2.1 17 i), .int (σ.2.1 18 i), .int (σ.2.1 19 i)]) ∧ A 9 i ≠ A 10 0
def cW (own : Nat → Nat) (A : Nat → Nat → Nat) (σ : MS) (G : HP) : Prop := Cl own G (A 10 0) (hO 8 [.int (σ.1 2), .int (σ.1 3), .int (σ.1 4), .int (σ.1 5), .int (σ.1 6)])
def stV (A : Nat → Nat → Nat) (σ : MS) (i : Nat) : Value := if σ.2.1 25 i = -1 then .null else .ref (A 12 i)
def cC (own : Nat → Nat) (A : Nat → Nat → Nat) (F : Nat → Int32) (σ : MS) (N : Nat → Nat) (G : HP) : Prop := ∀ i, i < N 2 → Cl own G (A 5 i) (hO 1 [.int (nI i), .int (σ.2.1 23 i), .int (σ.2.1 24 i), stV A σ i]) ∧ (¬ σ.2.1 25 i = -1 → Cl own G (A 12 i) (hO 6 [.ref (A 5 i), .int (σ.2.1 25 i), .int (σ.2.1 26 i), .int (σ.2.1 27 i), .int (F i)]))
def cP (own : Nat → Nat) (A : Nat → Nat → Nat) (σ : MS) (N : Nat → Nat) (G : HP) : Prop := ∀ i, i < N 3 → Cl own G (A 6 i) (hO 4 [.int (σ.2.1 30 i), .int (σ.2.1 31 i), .int (σ.2.1 32 i), .int (σ.2.1 33 i), .int (σ.2.1 34 i)])
def cY (own : Nat → Nat) (A : Nat → Nat → Nat) (σ : MS) (N : Nat → Nat) (G : HP) : Prop := ∀ i, i < N 4 → Cl own G (A 7 i) (hO 3 [.int (σ.2.1 36 i), .int (σ.2.1 37 i), .int (σ.2.1 38 i), .int (σ.2.1 39 i)])
def cF (own : Nat → Nat) (A : Nat → Nat → Nat) (σ : MS) (N : Nat → Nat) (G : HP) : Prop := ∀ i, i < N 5 → Cl own G (A 8 i) (hO 2 [.ref (A 13 i), .int (σ.2.1 46 i), .int (σ.2.1 47 i), .int (b2i (σ.2.2 49 i)), .int (b2i (σ.2.2 50 i)), .int (b2i (σ.2.2 51 i))]) ∧ ∃ x, Cl own G (A 13 i) (hO 6 [.ref (A 5 (ix (σ.2.1 41 i))), .int (σ.2.1 42 i), .int (σ.2.1 43 i), .int (σ.2.1 44 i), .int x])
def CH (E : XE) (own : Nat → Nat) (A : Nat → Nat → Nat) (F : Nat → Int32) (σ : MS) (N : Nat → Nat) (G : HP) : Prop := (∀ q, own q ≠ 0 → G q ≠ none) ∧ cN σ N ∧ cK own A σ G ∧ cL E own A N G ∧ cD A N ∧ cT own A σ N G ∧ cS own A σ N G ∧ cW own A σ G ∧ cC own A F σ N G ∧ cP own A σ N G ∧ cY own A σ N G ∧ cF own A σ N G
/-- what a method of the class leaves as it was -/
def Fr0 (own : Nat → Nat) (G G' : HP) : Prop := ∀ a, own a ≠ 0 → G' a = G a
/-- the numbers of the state that no step of the class can leave -/
def PI (σ : MS) (N : Nat → Nat) (T : Nat) : Prop :=
  (∃ t, t ≤ 49999 ∧ σ.1 0 = nI t ∧ (∀ i, i < N 1 → ∃ u, u ≤ t ∧ σ.2.1 20 i = nI u) ∧ (∀ i, i < N 5 → ∃ u, u ≤ t ∧ σ.2.1 46 i = nI u)) ∧
  (∀ i, i < N 1 → σ.2.1 21 i = 50000 ∨ ∃ u, u ≤ 49999 ∧ σ.2.1 21 i = nI u) ∧
  (∀ i, i < N 2 → (∃ L, 3 ≤ L ∧ L ≤ 12 ∧ σ.2.1 23 i = nI L) ∧ (¬ σ.2.1 25 i = -1 → ∃ a m, a < 4 ∧ σ.2.1 25 i = nI a ∧ σ.2.1 26 i = nI m ∧ m + ix (σ.2.1 23 i) ≤ 60)) ∧
  (∀ i, i < 30 → ∃ p, p ≤ T ∧ σ.2.1 28 i = nI p) ∧
  (∀ i, i < N 5 → ∃ c a m p, c < N 2 ∧ σ.2.1 41 i = nI c ∧ a < 4 ∧ σ.2.1 42 i = nI a ∧ σ.2.1 43 i = nI m ∧ m + ix (σ.2.1 23 c) ≤ 60 ∧ σ.2.1 45 i = nI p ∧ p ≤ ix (σ.2.1 28 c) ∧ (σ.2.1 47 i = 1 ∨ σ.2.1 47 i = 2 ∨ σ.2.1 47 i = 3 ∨ σ.2.1 47 i = 4) ∧ σ.2.2 48 i = decide (σ.2.1 47 i = 1)) ∧
  (∀ a, a < 4 → ∃ p, p ≤ 20 ∧ σ.2.1 52 a = nI p)
set_option maxRecDepth 20000 in
set_option maxHeartbeats 2000000 in
theorem c_streetOf {E : XE} {d mc ms : Nat} {P : Ps} {G : HP} {own : Nat → Nat} {A : Nat → Nat → Nat} {F : Nat → Int32} {σ : MS} {N : Nat → Nat} (hH : CH E own A F σ N G) {x : Int32} (hmc : 1 ≤ mc) (hms : 6 ≤ ms) (h0 : isStreetB x = false → P (.inr "java/lang/IndexOutOfBoundsException") G) (h1 : ∀ i, i < 4 → x = nI i → isStreetB x = true → P (.inl (some (.ref (A 3 i)))) G) : Sp E (d + 6) yX8_streetOf mc ms [.ref (A 0 0), .int x] G P := by
  obtain ⟨hON, hN, hK, hL, hD, hT, hS, hW, hC, hPm, hY, hF⟩ := id hH
  obtain ⟨n0, n1, n2, n3, n4, n5, e7, e22, e29, e35, e40⟩ := id hN
  obtain ⟨mo0, hl0⟩ := (hL 0 (by decide)).1.1
  refine sp_intro bd_X8_streetOf (v1_all rfl) (Nat.le_of_ble_eq_true rfl) ?_
  change WX _ _ _ _ _ _ 0 [some (.ref (A 0 0)), some (.int x)] [] _ 0 0
  refine wp_load (pc' := 1) (j := 1) dX8_streetOf_0 rfl rfl rfl ?_
  refine wp_load (pc' := 2) (j := 0) dX8_streetOf_1 rfl rfl rfl ?_
  refine wp_get (pc' := 5) dX8_streetOf_2 fl_X8_12 hK.1 rfl rfl ?_
  refine wp_v0 0 0 dX8_streetOf_5 ml_X8_88 hl0 (Nat.le_of_ble_eq_true rfl) (by omega) (by omega) ?_
  refine k_size (hL 0 (by decide)).1 ?_
  refine kt_v ?_
  refine wp_s2 0 0 dX8_streetOf_8 ml_X8_111 (Nat.le_of_ble_eq_true rfl) (by omega) (by omega) ?_
  refine c_isIndex x (n := N 0) rfl (by omega) ?_
  refine kt_v ?_
  refine wp_ifneB (pc' := 14) 25 dX8_streetOf_11 rfl rfl (fun h11 => ?_) (fun h11 => ?_)
  · skip
    have h11 : isStreetB x = true := by
      have h11 := h11
      rw [n0] at h11
      exact h11
    obtain ⟨i, hi, rfl⟩ := clt_nI (by assumption : inB x 0 (nI (N 0) - 1) = true) (by omega)
    refine wp_load (pc' := 26) (j := 0) dX8_streetOf_25 rfl rfl rfl ?_
    refine wp_get (pc' := 29) dX8_streetOf_26 fl_X8_12 hK.1 rfl rfl ?_
    refine wp_load (pc' := 30) (j := 1) dX8_streetOf_29 rfl rfl rfl ?_
    refine wp_v1 0 0 dX8_streetOf_30 ml_X8_122 hl0 (Nat.le_of_ble_eq_true rfl) (by omega) (by omega) ?_
    refine k_get (hL 0 (by decide)).1 (by omega) (by omega) ?_
    refine kt_v ?_
    refine wp_cast (pc' := 36) dX8_streetOf_33 cw_X8_42 (hT i (by omega)).1.1 rfl rfl rfl ?_
    refine wp_aret dX8_streetOf_36 rfl (Or.inl ⟨_, rfl⟩) (Or.inr ⟨_, rfl⟩) ?_
    exact h1 i (by omega) rfl h11
  · skip
    have h11 : isStreetB x = false := by
      have h11 := h11
      rw [n0] at h11
      exact h11
    refine wp_thr dX8_streetOf_14 dX8_streetOf_17 (Or.inr ⟨dX8_streetOf_18, dX8_streetOf_21, dX8_streetOf_24⟩) th_X8_291 rfl (by omega) (Nat.le_of_ble_eq_true rfl) (by omega) (by omega) ?_
    exact h0 h11

set_option maxRecDepth 20000 in
set_option maxHeartbeats 2000000 in
theorem c_carOf {E : XE} {d mc ms : Nat} {P : Ps} {G : HP} {own : Nat → Nat} {A : Nat → Nat → Nat} {F : Nat → Int32} {σ : MS} {N : Nat → Nat} (hH : CH E own A F σ N G) {x : Int32} (hmc : 1 ≤ mc) (hms : 6 ≤ ms) (h0 : isCarB σ x = false → P (.inr "java/lang/IndexOutOfBoundsException") G) (h1 : ∀ i, i < N 2 → x = nI i → isCarB σ x = true → P (.inl (some (.ref (A 5 i)))) G) : Sp E (d + 6) yX8_carOf mc ms [.ref (A 0 0), .int x] G P := by
  obtain ⟨hON, hN, hK, hL, hD, hT, hS, hW, hC, hPm, hY, hF⟩ := id hH
  obtain ⟨n0, n1, n2, n3, n4, n5, e7, e22, e29, e35, e40⟩ := id hN
  obtain ⟨mo2, hl2⟩ := (hL 2 (by decide)).1.1
  refine sp_intro bd_X8_carOf (v1_all rfl) (Nat.le_of_ble_eq_true rfl) ?_
  change WX _ _ _ _ _ _ 0 [some (.ref (A 0 0)), some (.int x)] [] _ 0 0
  refine wp_load (pc' := 1) (j := 1) dX8_carOf_0 rfl rfl rfl ?_
  refine wp_load (pc' := 2) (j := 0) dX8_carOf_1 rfl rfl rfl ?_
  refine wp_get (pc' := 5) dX8_carOf_2 fl_X8_19 hK.1 rfl rfl ?_
  refine wp_v0 0 0 dX8_carOf_5 ml_X8_88 hl2 (Nat.le_of_ble_eq_true rfl) (by omega) (by omega) ?_
  refine k_size (hL 2 (by decide)).1 ?_
  refine kt_v ?_
  refine wp_s2 0 0 dX8_carOf_8 ml_X8_111 (Nat.le_of_ble_eq_true rfl) (by omega) (by omega) ?_
  refine c_isIndex x (n := N 2) rfl (by omega) ?_
  refine kt_v ?_
  refine wp_ifneB (pc' := 14) 25 dX8_carOf_11 rfl rfl (fun h11 => ?_) (fun h11 => ?_)
  · skip
    have h11 : isCarB σ x = true := by
      have h11 := h11
      unfold isCarB
      rw [e22]
      exact h11
    obtain ⟨i, hi, rfl⟩ := clt_nI (by assumption : inB x 0 (nI (N 2) - 1) = true) (by omega)
    refine wp_load (pc' := 26) (j := 0) dX8_carOf_25 rfl rfl rfl ?_
    refine wp_get (pc' := 29) dX8_carOf_26 fl_X8_19 hK.1 rfl rfl ?_
    refine wp_load (pc' := 30) (j := 1) dX8_carOf_29 rfl rfl rfl ?_
    refine wp_v1 0 0 dX8_carOf_30 ml_X8_122 hl2 (Nat.le_of_ble_eq_true rfl) (by omega) (by omega) ?_
    refine k_get (hL 2 (by decide)).1 (by omega) (by omega) ?_
    refine kt_v ?_
    refine wp_cast (pc' := 36) dX8_carOf_33 cw_X8_141 (hC i (by omega)).1.1 rfl rfl rfl ?_
    refine wp_aret dX8_carOf_36 rfl (Or.inl ⟨_, rfl⟩) (Or.inr ⟨_, rfl⟩) ?_
    exact h1 i (by omega) rfl h11
  · skip
    have h11 : isCarB σ x = false := by
      have h11 := h11
      unfold isCarB
      rw [e22]
      exact h11
    refine wp_thr dX8_carOf_14 dX8_carOf_17 (Or.inr ⟨dX8_carOf_18, dX8_carOf_21, dX8_carOf_24⟩) th_X8_293 rfl (by omega) (Nat.le_of_ble_eq_true rfl) (by omega) (by omega) ?_
    exact h0 h11

set_option maxRecDepth 20000 in
set_option maxHeartbeats 2000000 in
theorem c_fineOf {E : XE} {d mc ms : Nat} {P : Ps} {G : HP} {own : Nat → Nat} {A : Nat → Nat → Nat} {F : Nat → Int32} {σ : MS} {N : Nat → Nat} (hH : CH E own A F σ N G) {x : Int32} (hmc : 1 ≤ mc) (hms : 6 ≤ ms) (h0 : isFineB σ x = false → P (.inr "java/lang/IndexOutOfBoundsException") G) (h1 : ∀ i, i < N 5 → x = nI i → isFineB σ x = true → P (.inl (some (.ref (A 8 i)))) G) : Sp E (d + 6) yX8_fineOf mc ms [.ref (A 0 0), .int x] G P := by
  obtain ⟨hON, hN, hK, hL, hD, hT, hS, hW, hC, hPm, hY, hF⟩ := id hH
  obtain ⟨n0, n1, n2, n3, n4, n5, e7, e22, e29, e35, e40⟩ := id hN
  obtain ⟨mo5, hl5⟩ := (hL 5 (by decide)).1.1
  refine sp_intro bd_X8_fineOf (v1_all rfl) (Nat.le_of_ble_eq_true rfl) ?_
  change WX _ _ _ _ _ _ 0 [some (.ref (A 0 0)), some (.int x)] [] _ 0 0
  refine wp_load (pc' := 1) (j := 1) dX8_fineOf_0 rfl rfl rfl ?_
  refine wp_load (pc' := 2) (j := 0) dX8_fineOf_1 rfl rfl rfl ?_
  refine wp_get (pc' := 5) dX8_fineOf_2 fl_X8_28 hK.1 rfl rfl ?_
  refine wp_v0 0 0 dX8_fineOf_5 ml_X8_88 hl5 (Nat.le_of_ble_eq_true rfl) (by omega) (by omega) ?_
  refine k_size (hL 5 (by decide)).1 ?_
  refine kt_v ?_
  refine wp_s2 0 0 dX8_fineOf_8 ml_X8_111 (Nat.le_of_ble_eq_true rfl) (by omega) (by omega) ?_
  refine c_isIndex x (n := N 5) rfl (by omega) ?_
  refine kt_v ?_
  refine wp_ifneB (pc' := 14) 25 dX8_fineOf_11 rfl rfl (fun h11 => ?_) (fun h11 => ?_)
  · skip
    have h11 : isFineB σ x = true := by
      have h11 := h11
      unfold isFineB
      rw [e40]
      exact h11
    obtain ⟨i, hi, rfl⟩ := clt_nI (by assumption : inB x 0 (nI (N 5) - 1) = true) (by omega)
    refine wp_load (pc' := 26) (j := 0) dX8_fineOf_25 rfl rfl rfl ?_
    refine wp_get (pc' := 29) dX8_fineOf_26 fl_X8_28 hK.1 rfl rfl ?_
    refine wp_load (pc' := 30) (j := 1) dX8_fineOf_29 rfl rfl rfl ?_
    refine wp_v1 0 0 dX8_fineOf_30 ml_X8_122 hl5 (Nat.le_of_ble_eq_true rfl) (by omega) (by omega) ?_
    refine k_get (hL 5 (by decide)).1 (by omega) (by omega) ?_
    refine kt_v ?_
    refine wp_cast (pc' := 36) dX8_fineOf_33 cw_X8_238 (hF i (by omega)).1.1 rfl rfl rfl ?_
    refine wp_aret dX8_fineOf_36 rfl (Or.inl ⟨_, rfl⟩) (Or.inr ⟨_, rfl⟩) ?_
    exact h1 i (by omega) rfl h11
  · skip
    have h11 : isFineB σ x = false := by
      have h11 := h11
      unfold isFineB
      rw [e40]
      exact h11
    refine wp_thr dX8_fineOf_14 dX8_fineOf_17 (Or.inr ⟨dX8_fineOf_18, dX8_fineOf_21, dX8_fineOf_24⟩) th_X8_295 rfl (by omega) (Nat.le_of_ble_eq_true rfl) (by omega) (by omega) ?_
    exact h0 h11

