/-! a look -/
section
variable {σ τ : MS} {F : Nat → Int32} {N : Nat → Nat} {T B k : Nat}
theorem cN_eq {N' : Nat → Nat} (h : cN σ N) (h' : cN σ N') : N' 1 = N 1 ∧ N' 2 = N 2 ∧ N' 3 = N 3 ∧ N' 4 = N 4 ∧ N' 5 = N 5 := by
  obtain ⟨-, n1, n2, n3, n4, n5, e1, e2, e3, e4, e5⟩ := h
  obtain ⟨-, m1, m2, m3, m4, m5, f1, f2, f3, f4, f5⟩ := h'
  refine ⟨?_, ?_, ?_, ?_, ?_⟩
  · exact (nI_eq (by omega) (by omega)).1 (f1.symm.trans e1)
  · exact (nI_eq (by omega) (by omega)).1 (f2.symm.trans e2)
  · exact (nI_eq (by omega) (by omega)).1 (f3.symm.trans e3)
  · exact (nI_eq (by omega) (by omega)).1 (f4.symm.trans e4)
  · exact (nI_eq (by omega) (by omega)).1 (f5.symm.trans e5)
theorem add_m1 (a b c d : Int32) : a + 1 + b + c + d = a + b + c + d + 1 ∧ a + (b + 1) + c + d = a + b + c + d + 1 ∧ a + b + (c + 1) + d = a + b + c + d + 1 ∧ a + b + c + (d + 1) = a + b + c + d + 1 := by
  refine ⟨?_, ?_, ?_, ?_⟩ <;> ac_rfl
theorem xi_giv (hN : cN σ N) (hV : INV σ F N T) (hX : XI σ N B k) {i a : Nat} (hi : i < N 2) (ea : σ.2.1 25 i = nI a) (ha : a < 4) (h60 : N 5 < 60) {w : Int32} : XI (givF σ i w) (va_up N 5 (N 5 + 1)) B k := by
  obtain ⟨hI, hR, hO, hT⟩ := hV
  obtain ⟨n0, n1, n2, n3, n4, n5, e7, e22, e29, e35, e40⟩ := hN
  obtain ⟨⟨t, ht, et, p1, p2⟩, -⟩ := hI
  obtain ⟨x1, x2, x3, x4, x5, x6, x7, x8, x9⟩ := hX
  rw [giv_G (n := N 5) (a := a) (by rw [e40, ix_nI (by omega)]) (by rw [ea, ix_nI (by omega)])]
  refine ⟨x1, x2, x3, ?_, fun f hf => ?_, fun f hf => ?_, fun f hf => ?_, x8, x9⟩
  · show va_up (σ.2.1 54) a (σ.2.1 54 a + 1) 0 + va_up (σ.2.1 54) a (σ.2.1 54 a + 1) 1 + va_up (σ.2.1 54) a (σ.2.1 54 a + 1) 2 + va_up (σ.2.1 54) a (σ.2.1 54 a + 1) 3 = σ.1 40 + 1
    rw [← x4]
    obtain ⟨q0, q1, q2, q3⟩ := add_m1 (σ.2.1 54 0) (σ.2.1 54 1) (σ.2.1 54 2) (σ.2.1 54 3)
    match a, ha with
    | 0, _ => exact q0
    | 1, _ => exact q1
    | 2, _ => exact q2
    | 3, _ => exact q3
  · have hf2 : f + 1 < N 5 + 1 := hf
    show ∃ u v, u ≤ v ∧ v ≤ 49999 ∧ va_up (σ.2.1 46) (N 5) (σ.1 0) f = nI u ∧ va_up (σ.2.1 46) (N 5) (σ.1 0) (f + 1) = nI v
    rw [up_n (show f ≠ N 5 by omega)]
    by_cases e : f + 1 = N 5
    · rw [e, up_s]
      obtain ⟨u, hu, eu⟩ := p2 f (by omega)
      exact ⟨u, t, hu, ht, eu, et⟩
    · rw [up_n e]
      exact x5 f (by omega)
  · have hf2 : f < N 5 + 1 := hf
    show ¬ (σ.2.2 50 f = true ∧ σ.2.2 51 f = true)
    by_cases e : f = N 5
    · rw [e, (hR (N 5) (Nat.le_refl _)).2.1]
      exact fun z => nomatch z.1
    · exact x6 f (by omega)
  · have hf2 : f < N 5 + 1 := hf
    show σ.2.2 50 f = true → σ.2.2 49 f = true
    by_cases e : f = N 5
    · rw [e, (hR (N 5) (Nat.le_refl _)).2.1]
      exact fun z => nomatch z
    · exact x7 f (by omega)
theorem cN_giv (hN : cN σ N) (h60 : N 5 < 60) {i : Nat} {w : Int32} : cN (givF σ i w) (va_up N 5 (N 5 + 1)) := by
  obtain ⟨n0, n1, n2, n3, n4, n5, e7, e22, e29, e35, e40⟩ := hN
  exact ⟨n0, n1, n2, n3, n4, h60, e7, e22, e29, e35, by rw [giv_40, e40, nI_1]; rfl⟩
theorem hf_giv {m n i : Nat} {w : Int32} (e40 : τ.1 40 = nI m) (hm : m < 2 ^ 31) (h : hfF τ i m = true) : hfF (givF τ n w) i (m + 1) = true := by
  rw [hf_iff] at h ⊢
  obtain ⟨f, hf, h1, h2, h3⟩ := h
  have em : ix (τ.1 40) = m := by rw [e40, ix_nI hm]
  have ef : f ≠ ix (τ.1 40) := by omega
  refine ⟨f, by omega, ?_, ?_, ?_⟩
  · show va_up (τ.2.1 41) (ix (τ.1 40)) (nI n) f = nI i
    rw [up_n ef]; exact h1
  · show va_up (τ.2.1 45) (ix (τ.1 40)) (τ.2.1 28 n) f = τ.2.1 28 i
    rw [up_n ef]; exact h2
  · show va_up (τ.2.1 46) (ix (τ.1 40)) (τ.1 0) f / 96 = τ.1 0 / 96
    rw [up_n ef]; exact h3
theorem hf_new {m n : Nat} {w : Int32} (e40 : τ.1 40 = nI m) (hm : m < 2 ^ 31) : hfF (givF τ n w) n (m + 1) = true := by
  rw [hf_iff]
  have em : ix (τ.1 40) = m := by rw [e40, ix_nI hm]
  refine ⟨m, by omega, ?_, ?_, ?_⟩
  · show va_up (τ.2.1 41) (ix (τ.1 40)) (nI n) m = nI n
    rw [em, up_s]
  · show va_up (τ.2.1 45) (ix (τ.1 40)) (τ.2.1 28 n) m = τ.2.1 28 n
    rw [em, up_s]
  · show va_up (τ.2.1 46) (ix (τ.1 40)) (τ.1 0) m / 96 = τ.1 0 / 96
    rw [em, up_s]
/-- how many cars on the street are at fault -/
def mstF (σ : MS) (s : Int32) : Nat → Nat
  | 0 => 0
  | k + 1 => mstF σ s k + (if σ.2.1 25 k = s ∧ ¬ judNow σ k = 0 then 1 else 0)
theorem mst_le {s : Int32} : ∀ n, mstF σ s n ≤ n
  | 0 => Nat.le_refl _
  | n + 1 => by
    have := mst_le (s := s) n
    rw [mstF]
    split <;> omega
def LKp (σ τ : MS) : Prop := (∀ c, judNow τ c = judNow σ c) ∧ τ.2.1 25 = σ.2.1 25 ∧ τ.2.1 23 = σ.2.1 23 ∧ τ.2.1 24 = σ.2.1 24 ∧ τ.1 0 = σ.1 0
theorem look_all (hN : cN σ N) (hV : INV σ F N T) (hX : XI σ N B k) {a : Nat} (ha : a < 4) : ∀ n, n ≤ N 2 → ∃ m F', N 5 ≤ m ∧ m ≤ 60 ∧ m ≤ N 5 + mstF σ (nI a) n ∧ (lookF σ (nI a) n).1 40 = nI m ∧ cN (lookF σ (nI a) n) (va_up N 5 m) ∧ INV (lookF σ (nI a) n) F' (va_up N 5 m) T ∧ XI (lookF σ (nI a) n) (va_up N 5 m) B k ∧ LKp σ (lookF σ (nI a) n) ∧ (N 5 < m → (lookF σ (nI a) n).2.1 42 (m - 1) = nI a ∧ (lookF σ (nI a) n).2.1 46 (m - 1) = σ.1 0) ∧ (∀ i, i < n → σ.2.1 25 i = nI a → judNow σ i = 0 ∨ 60 ≤ m ∨ hfF (lookF σ (nI a) n) i m = true)
  | 0, _ => by
    have eN : va_up N 5 (N 5) = N := funext fun j => by
      by_cases e : j = 5
      · rw [e, up_s]
      · rw [up_n e]
    refine ⟨N 5, F, Nat.le_refl _, hN.2.2.2.2.2.1, Nat.le_refl _, hN.2.2.2.2.2.2.2.2.2.2, ?_, ?_, ?_, ⟨fun _ => rfl, rfl, rfl, rfl, rfl⟩, fun z => absurd z (Nat.lt_irrefl _), fun i hi => absurd hi (Nat.not_lt_zero _)⟩
    · rw [eN]; exact hN
    · rw [eN]; exact hV
    · rw [eN]; exact hX
  | n + 1, hn => by
    obtain ⟨m, F', h1, h2, h3, h4, h5, h6, h7, ⟨k1, k2, k3, k4, k5⟩, h8, h9⟩ := look_all hN hV hX ha n (by omega)
    have em : ix ((lookF σ (nI a) n).1 40) = m := by rw [h4, ix_nI (by omega)]
    show ∃ m F', N 5 ≤ m ∧ m ≤ 60 ∧ m ≤ N 5 + mstF σ (nI a) (n + 1) ∧ (look1 (lookF σ (nI a) n) (nI a) n).1 40 = nI m ∧ cN (look1 (lookF σ (nI a) n) (nI a) n) (va_up N 5 m) ∧ INV (look1 (lookF σ (nI a) n) (nI a) n) F' (va_up N 5 m) T ∧ XI (look1 (lookF σ (nI a) n) (nI a) n) (va_up N 5 m) B k ∧ LKp σ (look1 (lookF σ (nI a) n) (nI a) n) ∧ (N 5 < m → (look1 (lookF σ (nI a) n) (nI a) n).2.1 42 (m - 1) = nI a ∧ (look1 (lookF σ (nI a) n) (nI a) n).2.1 46 (m - 1) = σ.1 0) ∧ (∀ i, i < n + 1 → σ.2.1 25 i = nI a → judNow σ i = 0 ∨ 60 ≤ m ∨ hfF (look1 (lookF σ (nI a) n) (nI a) n) i m = true)
    generalize hτ : lookF σ (nI a) n = τ at *
    unfold look1
    rw [em, k2, k1]
    by_cases c1 : σ.2.1 25 n = nI a
    · by_cases c2 : 60 ≤ m
      · have c2' : (60 : Int32) ≤ τ.1 40 := by rw [h4]; exact nI_le c2 (by omega)
        rw [decide_eq_true c2', Bool.not_true, Bool.and_false, Bool.false_and, Bool.false_and, if_neg (by decide)]
        exact ⟨m, F', h1, h2, Nat.le_trans h3 (Nat.add_le_add_left (Nat.le_add_right _ _) _), h4, h5, h6, h7, ⟨k1, k2, k3, k4, k5⟩, h8, fun i hi e => Or.inr (Or.inl c2)⟩
      · have c2' : ¬ (60 : Int32) ≤ τ.1 40 := by rw [h4]; exact (show ¬ nI 60 ≤ nI m from nI_ge (show m < 60 by omega) (by decide))
        cases c3 : hfF τ n m
        · by_cases c4 : judNow σ n = 0
          · rw [decide_eq_true c4, Bool.not_true, Bool.and_false, if_neg (by decide)]
            refine ⟨m, F', h1, h2, Nat.le_trans h3 (Nat.add_le_add_left (Nat.le_add_right _ _) _), h4, h5, h6, h7, ⟨k1, k2, k3, k4, k5⟩, h8, fun i hi e => ?_⟩
            rcases Nat.lt_or_ge i n with z | z
            · exact h9 i z e
            · obtain rfl : i = n := by omega
              exact Or.inl c4
          · rw [decide_eq_true c1, decide_eq_false c2', decide_eq_false c4]
            rw [if_pos (by decide)]
            have hi2 : n < va_up N 5 m 2 := hn
            have m60 : va_up N 5 m 5 < 60 := by rw [up_s]; omega
            have eM : va_up (va_up N 5 m) 5 (va_up N 5 m 5 + 1) = va_up N 5 (m + 1) := funext fun j => by
              by_cases e : j = 5
              · rw [e, up_s, up_s, up_s]
              · rw [up_n e, up_n e, up_n e]
            have e25 : τ.2.1 25 n = nI a := by rw [k2]; exact c1
            have gI := inv_giv (i := n) h5 h6 hi2 (by rw [e25]; exact nI_nm1 (by omega)) (by rw [k1]; exact c4)
            have gX := xi_giv (w := judNow τ n) h5 h6 h7 hi2 e25 ha m60
            have gN := cN_giv (i := n) (w := judNow τ n) h5 m60
            rw [eM] at gI gX gN
            rw [k1] at gI gX gN
            refine ⟨m + 1, _, by omega, by omega, ?_, ?_, gN, gI, gX, ⟨fun c => judNow_giv.trans (k1 c), k2, k3, k4, k5⟩, fun _ => ?_, fun i hi e => ?_⟩
            · rw [mstF, if_pos ⟨c1, c4⟩]; omega
            · rw [giv_40, h4, nI_1]
            · rw [Nat.add_sub_cancel]
              constructor
              · show va_up (τ.2.1 42) (ix (τ.1 40)) (τ.2.1 25 n) m = nI a
                rw [em, up_s]; exact e25
              · show va_up (τ.2.1 46) (ix (τ.1 40)) (τ.1 0) m = σ.1 0
                rw [em, up_s]; exact k5
            · rcases Nat.lt_or_ge i n with z | z
              · rcases h9 i z e with q | q | q
                · exact Or.inl q
                · exact absurd q c2
                · exact Or.inr (Or.inr (hf_giv h4 (by omega) q))
              · obtain rfl : i = n := by omega
                exact Or.inr (Or.inr (hf_new h4 (by omega)))
        · rw [Bool.not_true, Bool.and_false, Bool.false_and, if_neg (by decide)]
          refine ⟨m, F', h1, h2, Nat.le_trans h3 (Nat.add_le_add_left (Nat.le_add_right _ _) _), h4, h5, h6, h7, ⟨k1, k2, k3, k4, k5⟩, h8, fun i hi e => ?_⟩
          rcases Nat.lt_or_ge i n with z | z
          · exact h9 i z e
          · obtain rfl : i = n := by omega
            exact Or.inr (Or.inr c3)
    · rw [decide_eq_false c1, Bool.false_and, Bool.false_and, Bool.false_and, if_neg (by decide)]
      refine ⟨m, F', h1, h2, Nat.le_trans h3 (Nat.add_le_add_left (Nat.le_add_right _ _) _), h4, h5, h6, h7, ⟨k1, k2, k3, k4, k5⟩, h8, fun i hi e => ?_⟩
      rcases Nat.lt_or_ge i n with z | z
      · exact h9 i z e
      · obtain rfl : i = n := by omega
        exact absurd e c1
/-- a second look at once gives none -/
theorem look_none {s : Int32} : ∀ n, (∀ i, i < n → look1 τ s i = τ) → lookF τ s n = τ
  | 0, _ => rfl
  | n + 1, h => by
    show look1 (lookF τ s n) s n = τ
    rw [look_none n (fun i hi => h i (by omega))]
    exact h n (by omega)
theorem look_again {a n m : Nat} (hm : m ≤ 60) (h40 : τ.1 40 = nI m) (hK : LKp σ τ) (h : ∀ i, i < n → σ.2.1 25 i = nI a → judNow σ i = 0 ∨ 60 ≤ m ∨ hfF τ i m = true) : lookF τ (nI a) n = τ := by
  refine look_none n (fun i hi => ?_)
  obtain ⟨k1, k2, -⟩ := hK
  have em : ix (τ.1 40) = m := by rw [h40, ix_nI (by omega)]
  unfold look1
  rw [em, k1, k2]
  by_cases c1 : σ.2.1 25 i = nI a
  · rcases h i hi c1 with q | q | q
    · rw [decide_eq_true q, Bool.not_true, Bool.and_false, if_neg (by decide)]
    · have : (60 : Int32) ≤ τ.1 40 := by rw [h40]; exact nI_le q (by omega)
      rw [decide_eq_true this, Bool.not_true, Bool.and_false, Bool.false_and, Bool.false_and, if_neg (by decide)]
    · rw [q, Bool.not_true, Bool.and_false, Bool.false_and, if_neg (by decide)]
  · rw [decide_eq_false c1, Bool.false_and, Bool.false_and, Bool.false_and, if_neg (by decide)]
end
