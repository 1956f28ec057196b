/-! a quarter passes: what becomes of each street -/
theorem tk_o {σ : MS} {nc j : Nat} (h : j ≠ 55) : ∀ k, (tkF σ nc k).2.1 j = σ.2.1 j
  | 0 => rfl
  | k + 1 => by
    show va_up (tkF σ nc k).2.1 55 _ j = _
    rw [up_n h, tk_o h k]
theorem tk_b {σ : MS} {nc : Nat} : ∀ k, (tkF σ nc k).2.2 = σ.2.2
  | 0 => rfl
  | k + 1 => tk_b (σ := σ) (nc := nc) k
theorem tk_55 {σ : MS} {nc a : Nat} : ∀ k, (tkF σ nc k).2.1 55 a = if a < k then σ.2.1 55 a + takenF σ (nI a) nc else σ.2.1 55 a
  | 0 => by rw [if_neg (Nat.not_lt_zero _)]; rfl
  | k + 1 => by
    show va_up (tkF σ nc k).2.1 55 (va_up ((tkF σ nc k).2.1 55) k _) 55 a = _
    rw [up_s]
    by_cases e : a = k
    · subst e
      rw [up_s, if_pos (Nat.lt_succ_self _), tk_55 (nc := nc) a, if_neg (Nat.lt_irrefl _), taken_c (tk_o (by decide) a) (tk_o (by decide) a)]
    · rw [up_n e, tk_55 (nc := nc) k]
      by_cases c : a < k
      · rw [if_pos c, if_pos (by omega)]
      · rw [if_neg c, if_neg (by omega)]
def prF2 (p t : Int32) : Int32 := p + (if !decide (100 * t ≤ 460800) && !decide (20 ≤ p) then 1 else if !decide (230400 ≤ 100 * t) && !decide (p ≤ 0) then -1 else 0)
theorem bg_o {σ : MS} {j : Nat} (h : j ≠ 55) (h2 : j ≠ 52) : ∀ k, (bgF σ k).2.1 j = σ.2.1 j
  | 0 => rfl
  | k + 1 => by
    show va_up (va_up (bgF σ k).2.1 52 _) 55 _ j = _
    rw [up_n h, up_n h2, bg_o h h2 k]
theorem bg_b {σ : MS} : ∀ k, (bgF σ k).2.2 = σ.2.2
  | 0 => rfl
  | k + 1 => bg_b (σ := σ) k
theorem bg_55 {σ : MS} {a : Nat} : ∀ k, (bgF σ k).2.1 55 a = if a < k then 0 else σ.2.1 55 a
  | 0 => by rw [if_neg (Nat.not_lt_zero _)]; rfl
  | k + 1 => by
    show (mar (mar (bgF σ k) 52 k _) 55 k 0).2.1 55 a = _
    by_cases e : a = k
    · subst e
      rw [mar_s, if_pos (Nat.lt_succ_self _)]
    · rw [mar_n e]
      show (bgF σ k).2.1 55 a = _
      rw [bg_55 k]
      by_cases c : a < k
      · rw [if_pos c, if_pos (by omega)]
      · rw [if_neg c, if_neg (by omega)]
theorem bg_52 {σ : MS} {a : Nat} : ∀ k, (bgF σ k).2.1 52 a = if a < k then prF2 (σ.2.1 52 a) (σ.2.1 55 a) else σ.2.1 52 a
  | 0 => by rw [if_neg (Nat.not_lt_zero _)]; rfl
  | k + 1 => by
    show (mar (bgF σ k) 52 k (prF2 ((bgF σ k).2.1 52 k) ((bgF σ k).2.1 55 k))).2.1 52 a = _
    by_cases e : a = k
    · subst e
      rw [mar_s, if_pos (Nat.lt_succ_self _), bg_52 a, bg_55 a, if_neg (Nat.lt_irrefl _), if_neg (Nat.lt_irrefl _)]
    · rw [mar_n e, bg_52 k]
      by_cases c : a < k
      · rw [if_pos c, if_pos (by omega)]
      · rw [if_neg c, if_neg (by omega)]
theorem quar_o {σ : MS} {nc j : Nat} (h : j ≠ 55) (h2 : j ≠ 52) : (quarF σ nc).2.1 j = σ.2.1 j := by
  unfold quarF
  split
  · rw [bg_o h h2]; exact tk_o h 4
  · exact tk_o h 4
theorem quar_b {σ : MS} {nc : Nat} : (quarF σ nc).2.2 = σ.2.2 := by
  unfold quarF
  split
  · rw [bg_b]; exact tk_b 4
  · exact tk_b 4
theorem quar_0 {σ : MS} {nc : Nat} : (quarF σ nc).1 0 = σ.1 0 + 1 := by
  unfold quarF
  split
  · rw [bg_1]; rfl
  · rfl
theorem quar_55 {σ : MS} {nc a : Nat} (ha : a < 4) : (quarF σ nc).2.1 55 a = if rem (σ.1 0 + 1) 96 = 0 then 0 else σ.2.1 55 a + takenF σ (nI a) nc := by
  unfold quarF
  split
  · rw [bg_55, if_pos ha]
  · show (tkF σ nc 4).2.1 55 a = _
    rw [tk_55, if_pos ha]
theorem quar_52 {σ : MS} {nc a : Nat} (ha : a < 4) : (quarF σ nc).2.1 52 a = if rem (σ.1 0 + 1) 96 = 0 then prF2 (σ.2.1 52 a) (σ.2.1 55 a + takenF σ (nI a) nc) else σ.2.1 52 a := by
  unfold quarF
  split
  · rw [bg_52, if_pos ha]
    show prF2 ((tkF σ nc 4).2.1 52 a) ((tkF σ nc 4).2.1 55 a) = _
    rw [tk_55, if_pos ha, tk_o (by decide)]
  · show (tkF σ nc 4).2.1 52 a = _
    rw [tk_o (by decide)]
theorem day_pr {p : Nat} {t : Int32} (hp : p ≤ 20) : dayP (nI p) t = prF2 (nI p) t := by
  unfold dayP prF2
  rw [Int32.mul_comm 100 t]
  by_cases h1 : t * 100 ≤ 460800
  · rw [if_pos h1, decide_eq_true h1]
    by_cases h2 : 230400 ≤ t * 100
    · rw [if_pos h2, decide_eq_true h2]
      simp only [Bool.not_true, Bool.false_and, Bool.false_eq_true, if_false, Int32.add_zero]
    · rw [if_neg h2, decide_eq_false h2]
      simp only [Bool.not_true, Bool.false_and, Bool.false_eq_true, if_false, Bool.not_false, Bool.true_and]
      have : ∀ p, p < 21 → (if nI p - 1 < 0 then 0 else nI p - 1) = nI p + (if (!decide (nI p ≤ 0)) = true then -1 else 0) := by decide +kernel
      exact this p (by omega)
  · rw [if_neg h1, decide_eq_false h1]
    have h2 : ¬ ¬ 230400 ≤ t * 100 := fun z => by
      rw [Int32.le_iff_toInt_le] at h1 z
      change ¬ _ ≤ (460800 : Int) at h1
      change ¬ (230400 : Int) ≤ _ at z
      omega
    rw [decide_eq_true (Decidable.not_not.1 h2)]
    simp only [Bool.not_true, Bool.false_and, Bool.false_eq_true, if_false, Bool.not_false, Bool.true_and]
    have : ∀ p, p < 21 → (if 20 < nI p + 1 then 20 else nI p + 1) = nI p + (if (!decide (20 ≤ nI p)) = true then 1 else 0) := by decide +kernel
    exact this p (by omega)
theorem pr2_le {p : Nat} {t : Int32} (hp : p ≤ 20) : ∃ q, q ≤ 20 ∧ prF2 (nI p) t = nI q := by
  rw [← day_pr hp]
  unfold dayP
  have h1 : ∀ p, p < 21 → ∃ q, q < 21 ∧ (if nI p - 1 < 0 then 0 else nI p - 1) = nI q := by decide +kernel
  have h2 : ∀ p, p < 21 → ∃ q, q < 21 ∧ (if 20 < nI p + 1 then 20 else nI p + 1) = nI q := by decide +kernel
  split
  · split
    · exact ⟨p, hp, rfl⟩
    · obtain ⟨q, hq, e⟩ := h1 p (by omega)
      exact ⟨q, by omega, e⟩
  · obtain ⟨q, hq, e⟩ := h2 p (by omega)
    exact ⟨q, by omega, e⟩
