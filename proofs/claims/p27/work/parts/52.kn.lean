/-! when a call is refused, by the law's numbers -/
section
variable {σ : MS} {F : Nat → Int32} {N : Nat → Nat} {T B k : Nat}
theorem rsO_0 {c y : Int32} (h : c = 0) : rsO c y = y := if_pos h
theorem rsP_0 {c y : Int32} (h : c = 0) : rsP c y = y := if_pos h
theorem rsQ_0 {c y : Int32} (h : c = 0) : rsQ c y = y := if_pos h
theorem rsO_1 {c y : Int32} (h : c = 1) : rsO c y = -1000001 := by subst h; rfl
theorem rsO_2 {c y : Int32} (h : c = 2) : rsO c y = -1000002 := by subst h; rfl
theorem rsO_3 {c y : Int32} (h : c = 3) : rsO c y = -1000003 := by subst h; rfl
theorem rsP_2 {c y : Int32} (h : c = 2) : rsP c y = -1000003 := by subst h; rfl
theorem rsQ_2 {c y : Int32} (h : c = 2) : rsQ c y = -1000003 := by subst h; rfl
theorem inB_n {a b y : Nat} (h1 : a ≤ y) (h2 : y ≤ b) (hb : b < 2 ^ 31) : inB (nI y) (nI a) (nI b) = true := by
  unfold inB
  rw [decide_eq_false (nI_nlt h1 (by omega)), decide_eq_false (nI_nlt h2 hb)]
  rfl
theorem st_t {a : Nat} (h : a < 4) : isStreetB (nI a) = true := inB_n (a := 0) (b := 3) (Nat.zero_le _) (by omega) (by decide)
theorem mt_t {b : Nat} (h : b < 60) : isMetreB (nI b) = true := inB_n (a := 0) (b := 59) (Nat.zero_le _) (by omega) (by decide)
theorem car_t (hN : cN σ N) {i : Nat} (h : i < N 2) : isCarB σ (nI i) = true := by
  unfold isCarB
  rw [hN.2.2.2.2.2.2.2.1]
  exact in_nI h (by have := hN.2.2.1; omega)
theorem fin_t (hN : cN σ N) {i : Nat} (h : i < N 5) : isFineB σ (nI i) = true := by
  unfold isFineB
  rw [hN.2.2.2.2.2.2.2.2.2.2]
  exact in_nI h (by have := hN.2.2.2.2.2.1; omega)
theorem fin_f (hN : cN σ N) : isFineB σ (nI (N 5)) = false := by
  unfold isFineB
  have h5 := hN.2.2.2.2.2.1
  rw [hN.2.2.2.2.2.2.2.2.2.2, inB_ix rfl (by omega), decide_eq_true (nI_le (Nat.le_refl _) (by omega)), Bool.not_true, Bool.and_false]
theorem K_rule_0 {a b q : Nat} (ha : a < 4) (hb : b < 60) (hq : q < 50000) : K_rule (nI a) (nI b) (nI q) = 0 := by
  unfold K_rule
  rw [st_t ha, mt_t hb, show inB (nI q) 0 49999 = true from inB_n (a := 0) (b := 49999) (Nat.zero_le _) (by omega) (by decide)]
  rfl
theorem K_rule_s {mt q : Int32} : K_rule 4 mt q = 1 := by
  unfold K_rule
  rw [show isStreetB 4 = false from by decide, Bool.false_and]
  rfl
theorem K_rule_m {s q : Int32} : K_rule s 60 q = 1 := by
  unfold K_rule
  rw [show isMetreB 60 = false from by decide, Bool.and_false]
  rfl
theorem K_rule_q {a b : Nat} (ha : a < 4) (hb : b < 60) : K_rule (nI a) (nI b) 50000 = 2 := by
  unfold K_rule
  rw [st_t ha, mt_t hb, show inB 50000 0 49999 = false from by decide]
  rfl
theorem ro_ge {r : Option Nat} (h : ∀ j, r = some j → j < 2 ^ 31) : ¬ roI r < -1 := by
  cases r with
  | none => exact by decide
  | some j =>
    show ¬ nI j < -1
    rw [Int32.lt_iff_toInt_lt, nI_toInt (h j rfl)]
    show ¬ (j : Int) < -1
    omega
theorem ro_lt {s mt q : Int32} {n : Nat} (hn : n < 2 ^ 31) : ¬ nI n ≤ roI (ruleO σ s mt q n) := by
  cases h : ruleO σ s mt q n with
  | none =>
    show ¬ nI n ≤ -1
    rw [Int32.le_iff_toInt_le, nI_toInt hn]
    show ¬ (n : Int) ≤ -1
    omega
  | some j =>
    have := ruleO_lt h
    exact nI_ge this hn
theorem K_st_0 {a w : Nat} (ha : a < 4) (hw : w < 5) : K_streetIs (nI a) (nI w) = 0 := by
  unfold K_streetIs
  rw [st_t ha, show inB (nI w) 0 4 = true from inB_n (a := 0) (b := 4) (Nat.zero_le _) (by omega) (by decide)]
  rfl
theorem K_st_5 {a : Nat} (ha : a < 4) : K_streetIs (nI a) 5 = 2 := by
  unfold K_streetIs
  rw [st_t ha]
  rfl
theorem K_fi_0 (hN : cN σ N) {i w : Nat} (hi : i < N 5) (hw : w < 6) : K_fine σ (nI i) (nI w) = 0 := by
  unfold K_fine
  rw [fin_t hN hi, show inB (nI w) 0 5 = true from inB_n (a := 0) (b := 5) (Nat.zero_le _) (by omega) (by decide)]
  rfl
theorem K_fi_1 (hN : cN σ N) {w : Int32} : K_fine σ (nI (N 5)) w = 1 := by
  unfold K_fine
  rw [fin_f hN]
  rfl
theorem K_c_0 (hN : cN σ N) {i : Nat} (hi : i < N 2) : K_car1 σ (nI i) = 0 := by
  unfold K_car1
  rw [car_t hN hi]
  rfl
theorem K_car_0 (hN : cN σ N) {l u : Nat} (hl : 3 ≤ l) (hl2 : l ≤ 12) (hu : u ≤ 4) (h : N 2 < 30) : K_car σ (nI l) (nI u) = 0 := by
  unfold K_car
  rw [show inB (nI l) 3 12 = true from inB_n (a := 3) (b := 12) hl hl2 (by decide), show inB (nI u) 0 4 = true from inB_n (a := 0) (b := 4) (Nat.zero_le _) hu (by decide), hN.2.2.2.2.2.2.2.1, decide_eq_false (show ¬ (30 : Int32) ≤ nI (N 2) from nI_ge (b := 30) h (by decide))]
  rfl
theorem K_car_2 (hN : cN σ N) {l u : Nat} (hl : 3 ≤ l) (hl2 : l ≤ 12) (hu : u ≤ 4) (h : N 2 = 30) : K_car σ (nI l) (nI u) = 2 := by
  unfold K_car
  rw [show inB (nI l) 3 12 = true from inB_n (a := 3) (b := 12) hl hl2 (by decide), show inB (nI u) 0 4 = true from inB_n (a := 0) (b := 4) (Nat.zero_le _) hu (by decide), hN.2.2.2.2.2.2.2.1, h, decide_eq_true (show (30 : Int32) ≤ nI 30 from nI_le (a := 30) (Nat.le_refl _) (by decide))]
  rfl
theorem K_cs_0 (hN : cN σ N) {i a : Nat} (hi : i < N 2) (ha : a < 4) : K_countsAs σ (nI i) (nI a) = 0 := by
  unfold K_countsAs
  rw [car_t hN hi, st_t ha]
  rfl
theorem K_sg (hN : cN σ N) {s f t u y : Nat} (hs : s < 4) (hf : f < 60) (ht : t < 60) (hu : u < 32) (hy : y < 10) : K_sign σ (nI s) (nI f) (nI t) (nI u) (nI y) = mcode true (!decide (t < f)) (!decide (30 ≤ N 1)) := by
  have n1 := hN.2.1
  unfold K_sign
  rw [st_t hs, mt_t hf, mt_t ht, show inB (nI u) 0 31 = true from inB_n (a := 0) (b := 31) (Nat.zero_le _) (by omega) (by decide), show inB (nI y) 0 96 = true from inB_n (a := 0) (b := 96) (Nat.zero_le _) (by omega) (by decide), hN.2.2.2.2.2.2.1, show decide ((30 : Int32) ≤ nI (N 1)) = decide (30 ≤ N 1) from decide_eq_decide.2 (nI_leI (a := 30) (by decide) (by omega)), decide_eq_decide.2 (nI_ltI (a := t) (b := f) (by omega) (by omega)), Bool.and_true, Bool.and_true, Bool.and_true, Bool.and_true]
theorem K_sg_0 (hN : cN σ N) {s f t u y : Nat} (hs : s < 4) (hf : f < 60) (ht : t < 60) (hu : u < 32) (hy : y < 10) (h1 : f ≤ t) (h2 : N 1 < 30) : K_sign σ (nI s) (nI f) (nI t) (nI u) (nI y) = 0 := by
  rw [K_sg hN hs hf ht hu hy, decide_eq_false (by omega), decide_eq_false (by omega)]
  rfl
theorem K_sg_2 (hN : cN σ N) {s f t u y : Nat} (hs : s < 4) (hf : f < 60) (ht : t < 60) (hu : u < 32) (hy : y < 10) (h1 : t < f) : K_sign σ (nI s) (nI f) (nI t) (nI u) (nI y) = 2 := by
  rw [K_sg hN hs hf ht hu hy, decide_eq_true h1]
  rfl
theorem K_sg_3 (hN : cN σ N) {s f t u y : Nat} (hs : s < 4) (hf : f < 60) (ht : t < 60) (hu : u < 32) (hy : y < 10) (h1 : f ≤ t) (h2 : 30 ≤ N 1) : K_sign σ (nI s) (nI f) (nI t) (nI u) (nI y) = 3 := by
  rw [K_sg hN hs hf ht hu hy, decide_eq_false (by omega), decide_eq_true h2]
  rfl
theorem K_ti_0 {w f t : Nat} (hw : 1 ≤ w) (hw2 : w ≤ 127) (hf : f ≤ 95) (h : f < t) (ht : t ≤ 96) : K_times (nI w) (nI f) (nI t) = 0 := by
  unfold K_times
  rw [show inB (nI w) 1 127 = true from inB_n (a := 1) (b := 127) hw hw2 (by decide), show inB (nI f) 0 95 = true from inB_n (a := 0) (b := 95) (Nat.zero_le _) hf (by decide), decide_eq_false (nI_ge h (by omega)), decide_eq_false (show ¬ (96 : Int32) < nI t from nI_nlt (a := 96) ht (by decide))]
  rfl
theorem K_da_0 {f t : Nat} (h : f ≤ t) (ht : t ≤ 520) : K_dates (nI f) (nI t) = 0 := by
  unfold K_dates
  rw [show inB (nI f) 0 520 = true from inB_n (a := 0) (b := 520) (Nat.zero_le _) (by omega) (by decide), show inB (nI t) (nI f) 520 = true from inB_n (b := 520) h ht (by decide)]
  rfl
theorem K_le_0 (hN : cN σ N) {i : Nat} (hi : i < N 2) (h : ¬ σ.2.1 25 i = -1) : K_leave σ (nI i) = 0 := by
  have n2 := hN.2.2.1
  unfold K_leave
  rw [car_t hN hi, ix_nI (by omega), decide_eq_false h]
  rfl
theorem K_le_2 (hN : cN σ N) {i : Nat} (hi : i < N 2) (h : σ.2.1 25 i = -1) : K_leave σ (nI i) = 2 := by
  have n2 := hN.2.2.1
  unfold K_leave
  rw [car_t hN hi, ix_nI (by omega), decide_eq_true h]
  rfl
theorem K_pk (hN : cN σ N) {i a b : Nat} (hi : i < N 2) (ha : a < 4) (hb : b < 60) : K_park σ (N 2) (nI i) (nI a) (nI b) = mcode true (decide (σ.2.1 25 i = -1) && gapB σ (nI a) (nI b) (σ.2.1 23 i) (N 2)) true := by
  have n2 := hN.2.2.1
  unfold K_park
  rw [car_t hN hi, st_t ha, mt_t hb, ix_nI (by omega)]
  rfl
theorem K_pk_0 (hN : cN σ N) {i a b : Nat} (hi : i < N 2) (ha : a < 4) (hb : b < 60) (h1 : σ.2.1 25 i = -1) (h2 : gapB σ (nI a) (nI b) (σ.2.1 23 i) (N 2) = true) : K_park σ (N 2) (nI i) (nI a) (nI b) = 0 := by
  rw [K_pk hN hi ha hb, h2, decide_eq_true h1]
  rfl
theorem K_pk_2 (hN : cN σ N) {i a b : Nat} (hi : i < N 2) (ha : a < 4) (hb : b < 60) (h : (decide (σ.2.1 25 i = -1) && gapB σ (nI a) (nI b) (σ.2.1 23 i) (N 2)) = false) : K_park σ (N 2) (nI i) (nI a) (nI b) = 2 := by
  rw [K_pk hN hi ha hb, h]
  rfl
theorem K_gp_0 {a l : Nat} (ha : a < 4) (hl : 3 ≤ l) (hl2 : l ≤ 12) : K_gap (nI a) (nI l) = 0 := by
  unfold K_gap
  rw [st_t ha, show inB (nI l) 3 12 = true from inB_n (a := 3) (b := 12) hl hl2 (by decide)]
  rfl
theorem K_lk_0 {a : Nat} (ha : a < 4) : K_look (nI a) = 0 := by
  unfold K_look
  rw [st_t ha]
  rfl
theorem K_bl_0 {a b : Nat} (ha : a < 4) (hb : b < 60) : K_block (nI a) (nI b) = 0 := by
  unfold K_block
  rw [st_t ha, mt_t hb]
  rfl
theorem K_ps_0 {t q : Nat} (e : σ.1 0 = nI t) (h1 : 1 ≤ q) (h2 : q ≤ 96) (h : t + q ≤ 49999) : K_pass σ (nI q) = 0 := by
  unfold K_pass
  rw [show inB (nI q) 1 96 = true from inB_n (a := 1) (b := 96) h1 h2 (by decide), e, nI_add, decide_eq_false (show ¬ (49999 : Int32) < nI (t + q) from nI_nlt (a := 49999) h (by decide))]
  rfl
theorem K_py (hN : cN σ N) {i a f q t : Nat} (hi : i < N 2) (ha : a < 4) (e : σ.1 0 = nI t) (ht : t ≤ 49999) (hf : f ≤ t) (hq1 : 1 ≤ q) (hq : q ≤ 96) (h4 : N 4 < 200) : K_pay σ (nI i) (nI a) (nI f) (nI q) = if t - f ≤ 96 then 0 else 2 := by
  unfold K_pay
  have e1 : (if (96 : Int32) ≤ σ.1 0 then σ.1 0 - 96 else 0) = nI (t - 96) := by
    rw [e]
    by_cases h : 96 ≤ t
    · rw [if_pos (show (96 : Int32) ≤ nI t from nI_le (a := 96) h (by omega))]
      exact pk_sub h
    · rw [if_neg (show ¬ (96 : Int32) ≤ nI t from nI_ge (b := 96) (by omega) (by decide)), show t - 96 = 0 by omega]
      rfl
  rw [e1, car_t hN hi, st_t ha, e, show inB (nI q) 1 96 = true from inB_n (a := 1) (b := 96) hq1 hq (by decide), hN.2.2.2.2.2.2.2.2.2.1, decide_eq_false (show ¬ (200 : Int32) ≤ nI (N 4) from nI_ge (b := 200) h4 (by decide))]
  by_cases h : t - f ≤ 96
  · rw [if_pos h, inB_n (show t - 96 ≤ f by omega) hf (by omega)]
    rfl
  · rw [if_neg h]
    unfold inB
    rw [decide_eq_true (nI_lt (show f < t - 96 by omega) (by omega))]
    rfl
theorem K_py_n (hN : cN σ N) {i a q : Nat} {f : Int32} (hi : i < N 2) (ha : a < 4) (hf : f < 0) (e : ∃ t, t ≤ 49999 ∧ σ.1 0 = nI t) : K_pay σ (nI i) (nI a) f (nI q) = 2 := by
  obtain ⟨t, ht, e⟩ := e
  unfold K_pay
  have e1 : ∃ y, y < 2 ^ 31 ∧ (if (96 : Int32) ≤ σ.1 0 then σ.1 0 - 96 else 0) = nI y := by
    rw [e]
    by_cases h : 96 ≤ t
    · rw [if_pos (show (96 : Int32) ≤ nI t from nI_le (a := 96) h (by omega))]
      exact ⟨t - 96, by omega, pk_sub h⟩
    · rw [if_neg (show ¬ (96 : Int32) ≤ nI t from nI_ge (b := 96) (by omega) (by decide))]
      exact ⟨0, by decide, rfl⟩
  obtain ⟨y, hy, ey⟩ := e1
  rw [ey, car_t hN hi, st_t ha]
  unfold inB
  have : f < nI y := by
    rw [Int32.lt_iff_toInt_lt, nI_toInt hy]
    rw [Int32.lt_iff_toInt_lt, Int32.toInt_zero] at hf
    omega
  rw [decide_eq_true this]
  rfl
theorem K_ap (hN : cN σ N) {j : Nat} (hj : j < N 5) : K_appeal σ (nI j) = if (!σ.2.2 49 j && !σ.2.2 51 j) = true then 0 else 2 := by
  have n5 := hN.2.2.2.2.2.1
  unfold K_appeal
  rw [fin_t hN hj, ix_nI (by omega)]
  cases σ.2.2 49 j <;> cases σ.2.2 51 j <;> rfl
theorem K_pf (hN : cN σ N) {j : Nat} (hj : j < N 5) : K_payFine σ (nI j) = if (!σ.2.2 51 j && !σ.2.2 50 j) = true then 0 else 2 := by
  have n5 := hN.2.2.2.2.2.1
  unfold K_payFine
  rw [fin_t hN hj, ix_nI (by omega)]
  cases σ.2.2 50 j <;> cases σ.2.2 51 j <;> rfl
theorem K_tw (hN : cN σ N) {i y : Nat} (hi : i < N 2) (hy : y < 2 ^ 31) (e : debtF σ i (N 5) = nI y) : K_tow σ (N 5) (nI i) = if ¬ σ.2.1 25 i = -1 ∧ 200 ≤ y then 0 else 2 := by
  have n2 := hN.2.2.1
  unfold K_tow
  rw [car_t hN hi, ix_nI (by omega), e, show decide (nI y < (200 : Int32)) = decide (y < 200) from decide_eq_decide.2 (nI_ltI (b := 200) hy (by decide))]
  by_cases h1 : σ.2.1 25 i = -1
  · rw [decide_eq_true h1, if_neg (fun z => z.1 h1)]
    rfl
  · rw [decide_eq_false h1]
    by_cases h2 : 200 ≤ y
    · rw [decide_eq_false (by omega), if_pos ⟨h1, h2⟩]
      rfl
    · rw [decide_eq_true (by omega), if_neg (fun z => h2 z.2)]
      rfl
theorem K_pm (hN : cN σ N) {i a m f t : Nat} (hi : i < N 2) (ha : a < 4) (hm : m < 10) (hf : f ≤ t) (ht : t ≤ 520) : K_permit σ (N 3) (nI i) (nI a) (nI m) (nI f) (nI t) = 0 ∨ K_permit σ (N 3) (nI i) (nI a) (nI m) (nI f) (nI t) = 3 := by
  unfold K_permit
  rw [car_t hN hi, st_t ha, show inB (nI m) 0 9 = true from inB_n (a := 0) (b := 9) (Nat.zero_le _) (by omega) (by decide), show inB (nI f) 0 520 = true from inB_n (a := 0) (b := 520) (Nat.zero_le _) (by omega) (by decide), show inB (nI t) (nI f) 520 = true from inB_n (b := 520) hf ht (by decide)]
  generalize (!decide ((40 : Int32) ≤ σ.1 29) && (true && true) && roomF σ (N 3) (nI m) (ix (nI f)) (ix (nI t) + 1 - ix (nI f))) = z
  cases z
  · exact Or.inr rfl
  · exact Or.inl rfl
end
