/-! the class: what its numbers keep -/
def FO (σ : MS) (F : Nat → Int32) (N : Nat → Nat) : Prop := ∀ i, i < N 2 → ¬ σ.2.1 25 i = -1 → (∀ f, f < N 5 → σ.2.1 41 f = nI i → σ.2.1 45 f = σ.2.1 28 i → (σ.2.1 46 f / 96).toInt ≤ (F i).toInt) ∧ (F i = -1 ∨ ∃ f, f < N 5 ∧ σ.2.1 41 f = nI i ∧ σ.2.1 45 f = σ.2.1 28 i ∧ σ.2.1 46 f / 96 = F i)
theorem hf_iff {σ : MS} {i : Nat} : ∀ n, hfF σ i n = true ↔ ∃ f, f < n ∧ σ.2.1 41 f = nI i ∧ σ.2.1 45 f = σ.2.1 28 i ∧ σ.2.1 46 f / 96 = σ.1 0 / 96
  | 0 => by
    constructor
    · intro h; exact nomatch h
    · rintro ⟨f, h, -⟩; exact absurd h (Nat.not_lt_zero _)
  | n + 1 => by
    rw [hfF, Bool.or_eq_true, hf_iff n, Bool.and_eq_true, Bool.and_eq_true, decide_eq_true_eq, decide_eq_true_eq, decide_eq_true_eq]
    constructor
    · rintro (⟨f, h1, h2⟩ | ⟨⟨h1, h2⟩, h3⟩)
      · exact ⟨f, by omega, h2⟩
      · exact ⟨n, by omega, h1, h2, h3⟩
    · rintro ⟨f, h1, h2⟩
      rcases Nat.lt_or_ge f n with z | z
      · exact Or.inl ⟨f, z, h2⟩
      · obtain rfl : f = n := by omega
        exact Or.inr ⟨⟨h2.1, h2.2.1⟩, h2.2.2⟩
theorem day_eq {t : Nat} (h : t ≤ 49999) : nI t / 96 = nI (t / 96) := by
  rw [show (96 : Int32) = nI 96 from rfl, pk_div (by omega) (by omega) (by omega)]
theorem hf_eq {σ : MS} {F : Nat → Int32} {N : Nat → Nat} {T i : Nat} (hI : PI σ N T) (hO : FO σ F N) (hi : i < N 2) (hs : ¬ σ.2.1 25 i = -1) : hfF σ i (N 5) = decide (F i = σ.1 0 / 96) := by
  obtain ⟨⟨t, ht, et, -, h46⟩, -⟩ := hI
  obtain ⟨h1, h2⟩ := hO i hi hs
  refine Bool.eq_iff_iff.2 ?_
  rw [hf_iff, decide_eq_true_eq]
  constructor
  · rintro ⟨f, f1, f2, f3, f4⟩
    have h3 := h1 f f1 f2 f3
    rw [f4, et, day_eq ht, nI_toInt (by omega)] at h3
    rcases h2 with e | ⟨g, g1, -, -, g4⟩
    · rw [e] at h3
      change _ ≤ (-1 : Int) at h3
      omega
    · obtain ⟨u, hu, eu⟩ := h46 g g1
      rw [← g4, eu, day_eq (by omega), nI_toInt (by omega)] at h3
      rw [← g4, eu, et, day_eq (by omega), day_eq ht]
      have := Nat.div_le_div_right (c := 96) hu
      exact congrArg nI (by omega)
  · intro e
    rcases h2 with e2 | ⟨g, g1, g2, g3, g4⟩
    · rw [e2, et, day_eq ht] at e
      exact absurd e.symm (nI_nm1 (by omega))
    · exact ⟨g, g1, g2, g3, g4.trans e⟩
theorem jud_v {σ : MS} {i L n np ny : Nat} {s mt fr q : Int32} : judF σ i L n np ny s mt fr q = 0 ∨ judF σ i L n np ny s mt fr q = 2 ∨ judF σ i L n np ny s mt fr q = 3 ∨ judF σ i L n np ny s mt fr q = 4 := by
  unfold judF
  split
  · exact Or.inr (Or.inl rfl)
  · split
    · exact Or.inl rfl
    · split
      · exact Or.inr (Or.inr (Or.inl rfl))
      · split
        · exact Or.inr (Or.inr (Or.inr rfl))
        · exact Or.inl rfl
theorem judNow_v {σ : MS} {i : Nat} (h : ¬ judNow σ i = 0) : judNow σ i = 1 ∨ judNow σ i = 2 ∨ judNow σ i = 3 ∨ judNow σ i = 4 := by
  unfold judNow judNF at h ⊢
  split
  · exact Or.inl rfl
  · next hb =>
    rw [if_neg hb] at h
    rcases jud_v (σ := σ) (i := i) (L := ix (σ.2.1 23 i)) (n := ix (σ.1 7)) (np := ix (σ.1 29)) (ny := ix (σ.1 35)) (s := σ.2.1 25 i) (mt := σ.2.1 26 i) (fr := σ.2.1 27 i) (q := σ.1 0) with z | z
    · exact absurd z h
    · exact Or.inr z
def INV (σ : MS) (F : Nat → Int32) (N : Nat → Nat) (T : Nat) : Prop := PI σ N T ∧ FRs σ N ∧ FO σ F N ∧ T ≤ 1000
theorem inv_giv {σ : MS} {F : Nat → Int32} {N : Nat → Nat} {T i : Nat} (hN : cN σ N) (h : INV σ F N T) (hi : i < N 2) (hs : ¬ σ.2.1 25 i = -1) (hj : ¬ judNow σ i = 0) : INV (givF σ i (judNow σ i)) (va_up F i (σ.1 0 / 96)) (va_up N 5 (N 5 + 1)) T := by
  obtain ⟨hI, hR, hO, hT⟩ := h
  obtain ⟨n0, n1, n2, n3, n4, n5, e7, e22, e29, e35, e40⟩ := hN
  obtain ⟨⟨t, ht, et, p1, p2⟩, p3, p4, p5, p6, p7⟩ := hI
  obtain ⟨-, hst⟩ := p4 i hi
  obtain ⟨a, m, ha, ea, em, hm⟩ := hst hs
  obtain ⟨p, hp, ep⟩ := p5 i (by omega)
  rw [giv_G (n := N 5) (a := a) (by rw [e40, ix_nI (by omega)]) (by rw [ea, ix_nI (by omega)])]
  generalize hw : judNow σ i = w at hj ⊢
  have hwv : w = 1 ∨ w = 2 ∨ w = 3 ∨ w = 4 := by rw [← hw] at hj ⊢; exact judNow_v hj
  refine ⟨⟨⟨t, ht, et, p1, fun f hf => ?_⟩, p3, p4, p5, fun f hf => ?_, fun b hb => p7 b hb⟩, fun f hf => ?_, fun k hk hs2 => ?_, hT⟩
  · have hf2 : f < N 5 + 1 := hf
    show ∃ u, u ≤ t ∧ va_up (σ.2.1 46) (N 5) (σ.1 0) f = nI u
    by_cases e : f = N 5
    · rw [e, up_s]; exact ⟨t, Nat.le_refl _, et⟩
    · rw [up_n e]; exact p2 f (by omega)
  · have hf2 : f < N 5 + 1 := hf
    show ∃ c a m p, c < N 2 ∧ va_up (σ.2.1 41) (N 5) (nI i) f = nI c ∧ a < 4 ∧ va_up (σ.2.1 42) (N 5) (σ.2.1 25 i) f = nI a ∧ va_up (σ.2.1 43) (N 5) (σ.2.1 26 i) f = nI m ∧ m + ix (σ.2.1 23 c) ≤ 60 ∧ va_up (σ.2.1 45) (N 5) (σ.2.1 28 i) f = nI p ∧ p ≤ ix (σ.2.1 28 c) ∧ (va_up (σ.2.1 47) (N 5) w f = 1 ∨ va_up (σ.2.1 47) (N 5) w f = 2 ∨ va_up (σ.2.1 47) (N 5) w f = 3 ∨ va_up (σ.2.1 47) (N 5) w f = 4) ∧ va_up (σ.2.2 48) (N 5) (decide (w = 1)) f = decide (va_up (σ.2.1 47) (N 5) w f = 1)
    by_cases e : f = N 5
    · simp only [e, up_s]
      exact ⟨i, a, m, p, hi, rfl, ha, ea, em, hm, ep, by rw [ep, ix_nI (by omega)]; exact Nat.le_refl _, hwv, trivial⟩
    · simp only [up_n e]
      exact p6 f (by omega)
  · exact hR f (by have : N 5 + 1 ≤ f := hf; omega)
  · show (∀ f, f < N 5 + 1 → va_up (σ.2.1 41) (N 5) (nI i) f = nI k → va_up (σ.2.1 45) (N 5) (σ.2.1 28 i) f = σ.2.1 28 k → (va_up (σ.2.1 46) (N 5) (σ.1 0) f / 96).toInt ≤ (va_up F i (σ.1 0 / 96) k).toInt) ∧ (va_up F i (σ.1 0 / 96) k = -1 ∨ ∃ f, f < N 5 + 1 ∧ va_up (σ.2.1 41) (N 5) (nI i) f = nI k ∧ va_up (σ.2.1 45) (N 5) (σ.2.1 28 i) f = σ.2.1 28 k ∧ va_up (σ.2.1 46) (N 5) (σ.1 0) f / 96 = va_up F i (σ.1 0 / 96) k)
    by_cases ek : k = i
    · subst ek
      rw [up_s]
      refine ⟨fun f hf f1 f2 => ?_, Or.inr ⟨N 5, by omega, up_s, up_s, by rw [up_s]⟩⟩
      by_cases e : f = N 5
      · rw [e, up_s]; exact Int.le_refl _
      · rw [up_n e]
        obtain ⟨u, hu, eu⟩ := p2 f (by omega)
        rw [eu, et, day_eq (by omega), day_eq ht, nI_toInt (by omega), nI_toInt (by omega)]
        have := Nat.div_le_div_right (c := 96) hu
        omega
    · rw [up_n ek]
      obtain ⟨h1, h2⟩ := hO k hk hs2
      refine ⟨fun f hf f1 f2 => ?_, h2.imp id (fun ⟨f, f0, f1, f2, f3⟩ => ⟨f, by omega, ?_⟩)⟩
      · by_cases e : f = N 5
        · rw [e, up_s] at f1
          have k30 : k < N 2 := hk
          exact absurd ((nI_eq (show i < 2 ^ 31 by omega) (show k < 2 ^ 31 by omega)).1 f1).symm ek
        · rw [up_n e] at f1 f2 ⊢
          exact h1 f (by omega) f1 f2
      · have e : f ≠ N 5 := by omega
        rw [up_n e, up_n e, up_n e]
        exact ⟨f1, f2, f3⟩
