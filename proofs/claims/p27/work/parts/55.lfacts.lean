/-! what the law's arrays become -/
section
variable {E : XE} {own : Nat → Nat} {x ag al au aT k T B w : Nat} {σ : MS} {N : Nat → Nat} {G G' : HP}
theorem lw_up (hk : k < 60) (hW : LW E own x ag al au aT σ N k G) : LW E own x ag al au aT σ N (k + 1) G := by
  obtain ⟨h1, h2, h3, h4, h5, h6⟩ := hW
  exact lw_end hk h1 h2 h3 h4 h5 h6
theorem la_up {l f : Nat → Int32} {n : Nat} {y : Int32} (h : ∀ i, i < n → l i = f i) : ∀ i, i < n + 1 → va_up l n y i = va_up f n y i := fun i hi => by
  by_cases e : i = n
  · rw [e, up_s, up_s]
  · rw [up_n e, up_n e]; exact h i (by omega)
theorem ta_up {t f : Nat → Int32} {n : Nat} {y : Int32} (h : ∀ i, i < n → t i = f i) (h2 : t n = y) : ∀ i, i < n + 1 → t i = va_up f n y i := fun i hi => by
  by_cases e : i = n
  · rw [e, up_s]; exact h2
  · rw [up_n e]; exact h i (by omega)
theorem ta_set {t f : Nat → Int32} {n c : Nat} {y : Int32} (h : ∀ i, i < n → t i = f i) : ∀ i, i < n → va_up t c y i = va_up f c y i := fun i hi => by
  by_cases e : i = c
  · rw [e, up_s, up_s]
  · rw [up_n e, up_n e]; exact h i hi
theorem ta_out {t : Nat → Int32} {n c : Nat} {y : Int32} (hc : c < n) (h : ∀ i, i < 30 → n ≤ i → t i = -1) : ∀ i, i < 30 → n ≤ i → va_up t c y i = -1 := fun i hi h2 => by
  rw [up_n (show i ≠ c by omega)]; exact h i hi h2
theorem ta_same {t f : Nat → Int32} {n c : Nat} {y : Int32} (h : ∀ i, i < n → t i = f i) (hy : y = f c) : ∀ i, i < n → va_up t c y i = f i := fun i hi => by
  by_cases e : i = c
  · rw [e, up_s]; exact hy
  · rw [up_n e]; exact h i hi
theorem off_of (hI : PI σ N T) {i : Nat} (hi : i < N 2) (h : σ.2.1 25 i < 0) : σ.2.1 25 i = -1 := by
  obtain ⟨-, -, p4, -⟩ := hI
  rcases Decidable.em (σ.2.1 25 i = -1) with z | z
  · exact z
  · obtain ⟨a, m, ha, ea, -⟩ := (p4 i hi).2 z
    rw [ea] at h
    exact absurd h (nI_pos (by omega))
theorem c_ans (hN : cN σ N) {i a : Nat} (hi : i < N 2) (ha : a < 4) {v : Int32} (e : userOnF σ i (nI a) (σ.1 0 / 96) (N 3) = v) : v = rsO (K_countsAs σ (nI i) (nI a)) (userOnF σ (ix (nI i)) (nI a) (σ.1 0 / 96) (N 3)) := by
  have n2 := hN.2.2.1
  rw [rsO_0 (K_cs_0 hN hi ha), ix_nI (by omega), e]
/-- a new car has no permit -/
theorem cs_new (hX : XI σ N B w) (h2 : N 2 ≤ 30) {l u s day : Int32} : userOnF (carF σ (N 2) l u) (N 2) s day (N 3) = if u = 0 then 4 else u := by
  have h : ∀ n, n ≤ N 3 → userF (carF σ (N 2) l u) (N 2) s day n = !decide (u = 0) := by
    intro n
    induction n with
    | zero =>
      intro _
      show (!decide (va_up (σ.2.1 24) (N 2) u (N 2) = 0)) = _
      rw [up_s]
    | succ n ih =>
      intro hn
      rw [userF, ih (by omega)]
      obtain ⟨c, hc, e⟩ := hX.2.2.2.2.2.2.2.1 n (by omega)
      show (_ || decide (σ.2.1 30 n = nI (N 2)) && _ && _) = _
      have hne : ¬ nI c = nI (N 2) := fun z => by
        have := (nI_eq (show c < 2 ^ 31 by omega) (show N 2 < 2 ^ 31 by omega)).1 z
        omega
      rw [e, decide_eq_false hne, Bool.false_and, Bool.false_and, Bool.or_false]
  unfold userOnF
  rw [h (N 3) (Nat.le_refl _)]
  show (if (!decide (u = 0)) = true then va_up (σ.2.1 24) (N 2) u (N 2) else 4) = _
  rw [up_s]
  by_cases z : u = 0
  · rw [decide_eq_true z, if_pos z, if_neg (by decide)]
  · rw [decide_eq_false z, if_neg z, if_pos (by decide)]
/-- who has a permit of today's counts as what it is -/
theorem cs_per {i a f t : Nat} {h : Int32} (hf : σ.1 0 / 96 = nI f) (hft : f ≤ t) (ht : t < 2 ^ 31) : userOnF (perF σ (N 3) (nI i) (nI a) h (nI f) (nI t)) i (nI a) (σ.1 0 / 96) (N 3 + 1) = σ.2.1 24 i := by
  unfold userOnF
  rw [if_pos ?_]
  · rfl
  · rw [userF]
    show (_ || decide (va_up (σ.2.1 30) (N 3) (nI i) (N 3) = nI i) && decide (va_up (σ.2.1 31) (N 3) (nI a) (N 3) = nI a) && inB (σ.1 0 / 96) (va_up (σ.2.1 33) (N 3) (nI f) (N 3)) (va_up (σ.2.1 34) (N 3) (nI t) (N 3))) = true
    rw [up_s, up_s, up_s, up_s, hf, inB_n (Nat.le_refl _) hft ht, decide_eq_true rfl, decide_eq_true rfl, Bool.and_self, Bool.and_self, Bool.or_true]
end
