/-! the class: the numbers' bounds behind each step -/
section
variable {σ : MS} {F : Nat → Int32} {N : Nat → Nat} {T : Nat}
theorem inv_zz (h : INV σ F N T) : INV (zz σ) F N T := h
theorem inv_block (h : INV σ F N T) {i : Nat} {x : Bool} : INV (mbr (zz σ) 1 i x) F N T := h
theorem inv_times (h : INV σ F N T) {w f t : Int32} : INV (msc (msc (msc (zz σ) 2 w) 3 f) 4 t) F N T := h
theorem inv_dates (h : INV σ F N T) {f t : Int32} : INV (msc (msc (zz σ) 5 f) 6 t) F N T := h
theorem inv_hand (h : INV σ F N T) {p : Nat} {i : Int32} : INV (mar (zz σ) 30 p i) F N T := h
theorem inv_per (h : INV σ F N T) {n : Nat} {i s g f t : Int32} : INV (perF σ n i s g f t) F (va_up N 3 (N 3 + 1)) T := h
theorem inv_pay (h : INV σ F N T) {n a : Nat} {i s f q : Int32} : INV (payF σ n i s f q a) F (va_up N 4 (N 4 + 1)) T := h
theorem inv_down (h : INV σ F N T) {j : Nat} : INV (mar (zz σ) 21 j (σ.1 0)) F N T := by
  obtain ⟨⟨p0, p3, p4, p5, p6, p7⟩, hR, hO, hT⟩ := h
  refine ⟨⟨p0, fun i hi => ?_, p4, p5, p6, p7⟩, hR, hO, hT⟩
  obtain ⟨t, ht, et, -⟩ := p0
  by_cases e : i = j
  · rw [e, mar_s]
    exact Or.inr ⟨t, ht, et⟩
  · rw [mar_n e]
    exact p3 i hi
theorem inv_off (h : INV σ F N T) {i : Nat} : INV (mar (zz σ) 25 i (-1)) F N T := by
  obtain ⟨⟨p0, p3, p4, p5, p6, p7⟩, hR, hO, hT⟩ := h
  refine ⟨⟨p0, p3, fun k hk => ⟨(p4 k hk).1, fun z => ?_⟩, p5, p6, p7⟩, hR, fun k hk z => ?_, hT⟩
  · by_cases e : k = i
    · rw [e] at z
      exact absurd mar_s z
    · rw [mar_n e] at z ⊢
      exact (p4 k hk).2 z
  · by_cases e : k = i
    · rw [e] at z
      exact absurd mar_s z
    · rw [mar_n e] at z
      exact hO k hk z
theorem inv_sgn (hN : cN σ N) (h : INV σ F N T) {st f t u sy : Int32} {fee tmp : Bool} : INV (sgnF σ (N 1) st f t u sy fee tmp) F (va_up N 1 (N 1 + 1)) T := by
  obtain ⟨⟨⟨t', ht, et, p1, p2⟩, p3, p4, p5, p6, p7⟩, hR, hO, hT⟩ := h
  refine ⟨⟨⟨t', ht, et, fun i hi => ?_, p2⟩, fun i hi => ?_, p4, p5, p6, p7⟩, hR, hO, hT⟩
  · have hi2 : i < N 1 + 1 := hi
    show ∃ u, u ≤ t' ∧ va_up (σ.2.1 20) (N 1) (σ.1 0) i = nI u
    by_cases e : i = N 1
    · rw [e, up_s]; exact ⟨t', Nat.le_refl _, et⟩
    · rw [up_n e]; exact p1 i (by omega)
  · have hi2 : i < N 1 + 1 := hi
    show va_up (σ.2.1 21) (N 1) 50000 i = 50000 ∨ ∃ u, u ≤ 49999 ∧ va_up (σ.2.1 21) (N 1) 50000 i = nI u
    by_cases e : i = N 1
    · rw [e, up_s]; exact Or.inl rfl
    · rw [up_n e]; exact p3 i (by omega)
end
