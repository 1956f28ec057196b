/-! the class: the numbers' bounds behind fines, cars, parking -/
section
variable {σ : MS} {F : Nat → Int32} {N : Nat → Nat} {T : Nat}
theorem inv_flag (h : INV σ F N T) {j k : Nat} {x : Bool} (hj : j < N 5) (hk : k ≠ 48) : INV (mbr σ k j x) F N T := by
  obtain ⟨⟨p0, p3, p4, p5, p6, p7⟩, hR, hO, hT⟩ := h
  refine ⟨⟨p0, p3, p4, p5, fun f hf => ?_, p7⟩, fun i hi => ?_, hO, hT⟩
  · rw [mbr_k (show 48 ≠ k from fun z => hk z.symm)]
    exact p6 f hf
  · rw [mbr_o (show i ≠ j by omega), mbr_o (show i ≠ j by omega), mbr_o (show i ≠ j by omega)]
    exact hR i hi
theorem inv_payFine (h : INV σ F N T) {j : Nat} (hj : j < N 5) : INV (mbr (zz σ) 51 j true) F N T := inv_flag (inv_zz h) hj (by decide)
theorem inv_appeal (h : INV σ F N T) {j : Nat} {b : Bool} (hj : j < N 5) : INV (mbr (mbr (zz σ) 49 j true) 50 j b) F N T := inv_flag (inv_flag (inv_zz h) hj (by decide)) hj (by decide)
theorem inv_car (hN : cN σ N) (h : INV σ F N T) {l u : Int32} (hl : inB l 3 12 = true) : INV (carF σ (N 2) l u) F (va_up N 2 (N 2 + 1)) T := by
  obtain ⟨⟨p0, p3, p4, p5, p6, p7⟩, hR, hO, hT⟩ := h
  obtain ⟨L, hL3, hL12, rfl⟩ := inB_rng (a := 3) (b := 12) hl (by decide) (by decide)
  refine ⟨⟨p0, p3, fun i hi => ?_, p5, fun f hf => ?_, p7⟩, hR, fun k hk z => ?_, hT⟩
  · have hi2 : i < N 2 + 1 := hi
    show (∃ L', 3 ≤ L' ∧ L' ≤ 12 ∧ va_up (σ.2.1 23) (N 2) (nI L) i = nI L') ∧ (¬ va_up (σ.2.1 25) (N 2) (-1) i = -1 → ∃ a m, a < 4 ∧ va_up (σ.2.1 25) (N 2) (-1) i = nI a ∧ σ.2.1 26 i = nI m ∧ m + ix (va_up (σ.2.1 23) (N 2) (nI L) i) ≤ 60)
    by_cases e : i = N 2
    · simp only [e, up_s]
      exact ⟨⟨L, hL3, hL12, rfl⟩, fun z => absurd trivial z⟩
    · simp only [up_n e]
      exact p4 i (by omega)
  · obtain ⟨c, a, m, p, hc, q⟩ := p6 f hf
    refine ⟨c, a, m, p, Nat.lt_succ_of_lt hc, ?_⟩
    show σ.2.1 41 f = nI c ∧ a < 4 ∧ σ.2.1 42 f = nI a ∧ σ.2.1 43 f = nI m ∧ m + ix (va_up (σ.2.1 23) (N 2) (nI L) c) ≤ 60 ∧ _
    rw [up_n (show c ≠ N 2 by omega)]
    exact q
  · have hk2 : k < N 2 + 1 := hk
    by_cases e : k = N 2
    · refine absurd ?_ z
      show va_up (σ.2.1 25) (N 2) (-1) k = -1
      rw [e, up_s]
    · have z2 : ¬ σ.2.1 25 k = -1 := fun w => z (by
        show va_up (σ.2.1 25) (N 2) (-1) k = -1
        rw [up_n e]; exact w)
      exact hO k (by omega) z2
theorem inv_park (hN : cN σ N) (h : INV σ F N T) {i a m : Nat} (hT : T + 1 ≤ 1000) (hi : i < N 2) (ha : a < 4) (hm : m + ix (σ.2.1 23 i) ≤ 60) : INV (parkF σ i (nI a) (nI m)) (va_up F i (-1)) N (T + 1) := by
  obtain ⟨⟨p0, p3, p4, p5, p6, p7⟩, hR, hO, -⟩ := h
  obtain ⟨n0, n1, n2, n3, n4, n5, -⟩ := hN
  obtain ⟨p, hp, ep⟩ := p5 i (by omega)
  refine ⟨⟨p0, p3, fun k hk => ?_, fun k hk => ?_, fun f hf => ?_, p7⟩, hR, fun k hk z => ?_, hT⟩
  · show (∃ L, 3 ≤ L ∧ L ≤ 12 ∧ σ.2.1 23 k = nI L) ∧ (¬ va_up (σ.2.1 25) i (nI a) k = -1 → ∃ a' m', a' < 4 ∧ va_up (σ.2.1 25) i (nI a) k = nI a' ∧ va_up (σ.2.1 26) i (nI m) k = nI m' ∧ m' + ix (σ.2.1 23 k) ≤ 60)
    refine ⟨(p4 k hk).1, ?_⟩
    by_cases e : k = i
    · simp only [e, up_s]
      exact fun _ => ⟨a, m, ha, rfl, rfl, hm⟩
    · simp only [up_n e]
      exact (p4 k hk).2
  · show ∃ p, p ≤ T + 1 ∧ va_up (σ.2.1 28) i (σ.2.1 28 i + 1) k = nI p
    by_cases e : k = i
    · rw [e, up_s, ep, nI_1]
      exact ⟨p + 1, by omega, rfl⟩
    · rw [up_n e]
      obtain ⟨q, hq, eq⟩ := p5 k hk
      exact ⟨q, by omega, eq⟩
  · obtain ⟨c, a', m', p', hc, q1, q2, q3, q4, q5, q6, q7, q8⟩ := p6 f hf
    refine ⟨c, a', m', p', hc, q1, q2, q3, q4, q5, q6, ?_, q8⟩
    show p' ≤ ix (va_up (σ.2.1 28) i (σ.2.1 28 i + 1) c)
    by_cases e : c = i
    · rw [e] at q7
      rw [ep, ix_nI (by omega)] at q7
      rw [e, up_s, ep, nI_1, ix_nI (by omega)]
      omega
    · rw [up_n e]; exact q7
  · show (∀ f, f < N 5 → σ.2.1 41 f = nI k → σ.2.1 45 f = va_up (σ.2.1 28) i (σ.2.1 28 i + 1) k → (σ.2.1 46 f / 96).toInt ≤ (va_up F i (-1) k).toInt) ∧ (va_up F i (-1) k = -1 ∨ ∃ f, f < N 5 ∧ σ.2.1 41 f = nI k ∧ σ.2.1 45 f = va_up (σ.2.1 28) i (σ.2.1 28 i + 1) k ∧ σ.2.1 46 f / 96 = va_up F i (-1) k)
    by_cases e : k = i
    · subst e
      simp only [up_s]
      refine ⟨fun f hf f1 f2 => ?_, Or.inl trivial⟩
      obtain ⟨c, a', m', p', hc, q1, q2, q3, q4, q5, q6, q7, q8⟩ := p6 f hf
      obtain rfl : c = k := (nI_eq (show c < 2 ^ 31 by omega) (show k < 2 ^ 31 by omega)).1 (q1.symm.trans f1)
      rw [ep, ix_nI (by omega)] at q7
      rw [q6, ep, nI_1] at f2
      have := (nI_eq (show p' < 2 ^ 31 by omega) (show p + 1 < 2 ^ 31 by omega)).1 f2
      omega
    · simp only [up_n e]
      refine hO k hk (fun w => z ?_)
      show va_up (σ.2.1 25) i (nI a) k = -1
      rw [up_n e]; exact w
end
