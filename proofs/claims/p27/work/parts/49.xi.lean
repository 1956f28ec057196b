/-! what else the class's numbers keep, for the law -/
def XI (σ : MS) (N : Nat → Nat) (B k : Nat) : Prop :=
  (∃ t, t ≤ B ∧ σ.1 0 = nI t ∧ (∀ i, i < N 2 → ¬ σ.2.1 25 i = -1 → ∃ u, u ≤ t ∧ σ.2.1 27 i = nI u) ∧ ∀ a, a < 4 → ∃ q, q ≤ 60 * (t % 96) ∧ σ.2.1 55 a = nI q) ∧
  N 4 ≤ k ∧
  (∀ a, a < 4 → ∃ c, c ≤ 1920 * k ∧ σ.2.1 53 a = nI c) ∧
  σ.2.1 54 0 + σ.2.1 54 1 + σ.2.1 54 2 + σ.2.1 54 3 = σ.1 40 ∧
  (∀ f, f + 1 < N 5 → ∃ u v, u ≤ v ∧ v ≤ 49999 ∧ σ.2.1 46 f = nI u ∧ σ.2.1 46 (f + 1) = nI v) ∧
  (∀ f, f < N 5 → ¬ (σ.2.2 50 f = true ∧ σ.2.2 51 f = true)) ∧
  (∀ f, f < N 5 → σ.2.2 50 f = true → σ.2.2 49 f = true) ∧
  (∀ p, p < N 3 → ∃ c, c < N 2 ∧ σ.2.1 30 p = nI c) ∧
  (∀ i j, i < N 2 → j < N 2 → i ≠ j → ¬ σ.2.1 25 i = -1 → σ.2.1 25 j = σ.2.1 25 i → ix (σ.2.1 26 i) + ix (σ.2.1 23 i) < ix (σ.2.1 26 j) ∨ ix (σ.2.1 26 j) + ix (σ.2.1 23 j) < ix (σ.2.1 26 i))
section
variable {σ : MS} {F : Nat → Int32} {N : Nat → Nat} {T B k : Nat}
theorem xi_up {B' k' : Nat} (hB : B ≤ B') (hk : k ≤ k') (h : XI σ N B k) : XI σ N B' k' := by
  obtain ⟨⟨t, h1, h2⟩, x2, x3, x4⟩ := h
  refine ⟨⟨t, by omega, h2⟩, by omega, fun a ha => ?_, x4⟩
  obtain ⟨c, hc, e⟩ := x3 a ha
  exact ⟨c, by omega, e⟩
theorem xi_N {N' : Nat → Nat} (h2 : N' 2 = N 2) (h3 : N' 3 = N 3) (h4 : N' 4 = N 4) (h5 : N' 5 = N 5) (h : XI σ N B k) : XI σ N' B k := by
  unfold XI at h ⊢
  rw [h2, h3, h4, h5]
  exact h
theorem xi_zz (h : XI σ N B k) : XI (zz σ) N B k := h
theorem xi_block (h : XI σ N B k) {i : Nat} {x : Bool} : XI (mbr (zz σ) 1 i x) N B k := h
theorem xi_times (h : XI σ N B k) {w f t : Int32} : XI (msc (msc (msc (zz σ) 2 w) 3 f) 4 t) N B k := h
theorem xi_dates (h : XI σ N B k) {f t : Int32} : XI (msc (msc (zz σ) 5 f) 6 t) N B k := h
theorem xi_sgn (h : XI σ N B k) {n : Nat} {st f t u sy : Int32} {fee tmp : Bool} : XI (sgnF σ n st f t u sy fee tmp) (va_up N 1 (n + 1)) B k := h
theorem xi_car (h : XI σ N B k) {l u : Int32} : XI (carF σ (N 2) l u) (va_up N 2 (N 2 + 1)) B k := by
  obtain ⟨⟨t, h1, h2, h3, h4⟩, x2, x3, x4, x5, x6, x7, x8, x9⟩ := h
  have e25 : ∀ i, (carF σ (N 2) l u).2.1 25 i = va_up (σ.2.1 25) (N 2) (-1) i := fun i => rfl
  have e23 : ∀ i, (carF σ (N 2) l u).2.1 23 i = va_up (σ.2.1 23) (N 2) l i := fun i => rfl
  refine ⟨⟨t, h1, h2, fun i hi z => ?_, h4⟩, x2, x3, x4, x5, x6, x7, fun p hp => ?_, fun i j hi hj hij z1 z2 => ?_⟩
  · have hi2 : i < N 2 + 1 := hi
    rw [e25] at z
    by_cases e : i = N 2
    · rw [e, up_s] at z; exact absurd rfl z
    · rw [up_n e] at z
      exact h3 i (by omega) z
  · obtain ⟨c, hc, e⟩ := x8 p hp
    exact ⟨c, Nat.lt_succ_of_lt hc, e⟩
  · have hi2 : i < N 2 + 1 := hi
    have hj2 : j < N 2 + 1 := hj
    rw [e25] at z1
    rw [e25, e25] at z2
    by_cases e : i = N 2
    · rw [e, up_s] at z1; exact absurd rfl z1
    · rw [up_n e] at z1 z2
      by_cases e' : j = N 2
      · rw [e', up_s] at z2; exact absurd z2.symm z1
      · rw [up_n e'] at z2
        rw [e23, e23, up_n e, up_n e']
        exact x9 i j (by omega) (by omega) hij z1 z2
theorem xi_per (h : XI σ N B k) {c : Nat} (hc : c < N 2) {s g f t : Int32} : XI (perF σ (N 3) (nI c) s g f t) (va_up N 3 (N 3 + 1)) B k := by
  obtain ⟨x1, x2, x3, x4, x5, x6, x7, x8, x9⟩ := h
  refine ⟨x1, x2, x3, x4, x5, x6, x7, fun p hp => ?_, x9⟩
  have hp2 : p < N 3 + 1 := hp
  show ∃ c', c' < N 2 ∧ va_up (σ.2.1 30) (N 3) (nI c) p = nI c'
  by_cases e : p = N 3
  · rw [e, up_s]; exact ⟨c, hc, rfl⟩
  · rw [up_n e]; exact x8 p (by omega)
theorem xi_pay (h : XI σ N B k) {n a m p : Nat} {i s f : Int32} (hm : m ≤ 96) (hp : p ≤ 20) (e52 : σ.2.1 52 a = nI p) (ha : a < 4) : XI (payF σ n i s f (nI m) a) (va_up N 4 (N 4 + 1)) B (k + 1) := by
  obtain ⟨x1, x2, x3, x4, x5, x6, x7, x8, x9⟩ := h
  refine ⟨x1, Nat.succ_le_succ x2, fun b hb => ?_, x4, x5, x6, x7, x8, x9⟩
  obtain ⟨c, hc, e⟩ := x3 b hb
  show ∃ c', c' ≤ 1920 * (k + 1) ∧ va_up (σ.2.1 53) a (σ.2.1 53 a + nI m * σ.2.1 52 a) b = nI c'
  by_cases eb : b = a
  · subst eb
    rw [up_s, e52, pk_mul, e, nI_add]
    refine ⟨c + m * p, ?_, rfl⟩
    have : m * p ≤ 96 * 20 := Nat.mul_le_mul hm hp
    omega
  · rw [up_n eb]
    exact ⟨c, by omega, e⟩
theorem gapB_at {s mt many : Int32} : ∀ {n i : Nat}, gapB σ s mt many n = true → i < n → awayB σ i s mt many = true
  | 0, _, _, h => absurd h (Nat.not_lt_zero _)
  | n + 1, i, h, hi => by
    rw [gapB, Bool.and_eq_true] at h
    rcases Nat.lt_or_ge i n with z | z
    · exact gapB_at h.1 z
    · obtain rfl : i = n := by omega
      exact h.2
theorem xi_park (hI : PI σ N T) (hn : N 2 ≤ 30) (h : XI σ N B k) {i a m : Nat} (hi : i < N 2) (ha : a < 4) (hm : m + ix (σ.2.1 23 i) ≤ 60) (hg : gapB σ (nI a) (nI m) (σ.2.1 23 i) (N 2) = true) : XI (parkF σ i (nI a) (nI m)) N B k := by
  obtain ⟨⟨t, h1, h2, h3, h4⟩, x2, x3, x4, x5, x6, x7, x8, x9⟩ := h
  have e25 : ∀ j, (parkF σ i (nI a) (nI m)).2.1 25 j = va_up (σ.2.1 25) i (nI a) j := fun j => rfl
  have e26 : ∀ j, (parkF σ i (nI a) (nI m)).2.1 26 j = va_up (σ.2.1 26) i (nI m) j := fun j => rfl
  have e23 : ∀ j, (parkF σ i (nI a) (nI m)).2.1 23 j = σ.2.1 23 j := fun j => rfl
  have e27 : ∀ j, (parkF σ i (nI a) (nI m)).2.1 27 j = va_up (σ.2.1 27) i (σ.1 0) j := fun j => rfl
  obtain ⟨-, -, p4, -⟩ := hI
  obtain ⟨⟨L, hL3, hL12, eL⟩, -⟩ := p4 i hi
  have apart : ∀ j, j < N 2 → j ≠ i → σ.2.1 25 j = nI a → m + L < ix (σ.2.1 26 j) ∨ ix (σ.2.1 26 j) + ix (σ.2.1 23 j) < m := by
    intro j hj hji ej
    have g := gapB_at hg hj
    obtain ⟨⟨L', hL3', hL12', eL'⟩, hst⟩ := p4 j hj
    obtain ⟨a', m', ha', ea', em', hm'⟩ := hst (by rw [ej]; exact nI_nm1 (by omega))
    rw [eL', ix_nI (by omega)] at hm'
    unfold awayB at g
    rw [ej, em', eL', eL, nI_add, nI_add] at g
    rw [em', eL', ix_nI (by omega), ix_nI (by omega)]
    rw [eL, ix_nI (by omega)] at hm
    simp only [decide_true, Bool.not_true, Bool.false_or, Bool.or_eq_true, Bool.not_eq_true', decide_eq_true_eq, decide_eq_false_iff_not] at g
    rw [nI_ltI (by omega) (by omega), nI_leI (by omega) (by omega)] at g
    omega
  refine ⟨⟨t, h1, h2, fun j hj z => ?_, h4⟩, x2, x3, x4, x5, x6, x7, x8, fun j l hj hl hjl z1 z2 => ?_⟩
  · rw [e27]
    rw [e25] at z
    by_cases e : j = i
    · rw [e, up_s]; exact ⟨t, Nat.le_refl _, h2⟩
    · rw [up_n e] at z ⊢
      exact h3 j hj z
  · rw [e25] at z1
    rw [e25, e25] at z2
    rw [e26, e26, e23, e23]
    by_cases e : j = i
    · subst e
      have el : l ≠ j := fun z => hjl z.symm
      rw [up_s, up_n el] at z2
      rw [up_s, up_n el, eL, ix_nI (show m < 2 ^ 31 by omega), ix_nI (show L < 2 ^ 31 by omega)]
      exact apart l hl el z2
    · rw [up_n e] at z1 z2
      by_cases e' : l = i
      · subst e'
        rw [up_s] at z2
        rw [up_s, up_n e, eL, ix_nI (show m < 2 ^ 31 by omega), ix_nI (show L < 2 ^ 31 by omega)]
        exact (apart j hj e z2.symm).symm
      · rw [up_n e'] at z2
        rw [up_n e, up_n e']
        exact x9 j l hj hl hjl z1 z2
theorem xi_off (h : XI σ N B k) {i : Nat} : XI (mar (zz σ) 25 i (-1)) N B k := by
  obtain ⟨⟨t, h1, h2, h3, h4⟩, x2, x3, x4, x5, x6, x7, x8, x9⟩ := h
  have e25 : ∀ j, (mar (zz σ) 25 i (-1)).2.1 25 j = va_up (σ.2.1 25) i (-1) j := fun j => rfl
  refine ⟨⟨t, h1, h2, fun j hj z => ?_, h4⟩, x2, x3, x4, x5, x6, x7, x8, fun j l hj hl hjl z1 z2 => ?_⟩
  · rw [e25] at z
    by_cases e : j = i
    · rw [e, up_s] at z; exact absurd rfl z
    · rw [up_n e] at z; exact h3 j hj z
  · rw [e25] at z1
    rw [e25, e25] at z2
    by_cases e : j = i
    · rw [e, up_s] at z1; exact absurd rfl z1
    · rw [up_n e] at z1 z2
      by_cases e' : l = i
      · rw [e', up_s] at z2; exact absurd z2.symm z1
      · rw [up_n e'] at z2
        exact x9 j l hj hl hjl z1 z2
theorem xi_appeal (h : XI σ N B k) {j : Nat} {b : Bool} (h51 : σ.2.2 51 j = false) : XI (mbr (mbr (zz σ) 49 j true) 50 j b) N B k := by
  obtain ⟨x1, x2, x3, x4, x5, x6, x7, x8, x9⟩ := h
  have e50 : ∀ f, (mbr (mbr (zz σ) 49 j true) 50 j b).2.2 50 f = va_up (σ.2.2 50) j b f := fun f => rfl
  have e49 : ∀ f, (mbr (mbr (zz σ) 49 j true) 50 j b).2.2 49 f = va_up (σ.2.2 49) j true f := fun f => rfl
  have e51 : ∀ f, (mbr (mbr (zz σ) 49 j true) 50 j b).2.2 51 f = σ.2.2 51 f := fun f => rfl
  refine ⟨x1, x2, x3, x4, x5, fun f hf z => ?_, fun f hf z => ?_, x8, x9⟩
  · rw [e50, e51] at z
    by_cases e : f = j
    · rw [e, h51] at z; exact nomatch z.2
    · rw [up_n e] at z; exact x6 f hf z
  · rw [e50] at z
    rw [e49]
    by_cases e : f = j
    · rw [e, up_s]
    · rw [up_n e] at z ⊢; exact x7 f hf z
theorem xi_payFine (h : XI σ N B k) {j : Nat} (h50 : σ.2.2 50 j = false) : XI (mbr (zz σ) 51 j true) N B k := by
  obtain ⟨x1, x2, x3, x4, x5, x6, x7, x8, x9⟩ := h
  have e51 : ∀ f, (mbr (zz σ) 51 j true).2.2 51 f = va_up (σ.2.2 51) j true f := fun f => rfl
  have e50 : ∀ f, (mbr (zz σ) 51 j true).2.2 50 f = σ.2.2 50 f := fun f => rfl
  refine ⟨x1, x2, x3, x4, x5, fun f hf z => ?_, x7, x8, x9⟩
  rw [e50, e51] at z
  by_cases e : f = j
  · rw [e, h50] at z; exact nomatch z.1
  · rw [up_n e] at z; exact x6 f hf z
/-! taken metres: a street has 60 -/
def sumT (f : Nat → Nat) : Nat → Nat
  | 0 => 0
  | n + 1 => sumT f n + f n
theorem sumT_add {f g : Nat → Nat} : ∀ n, sumT (fun p => f p + g p) n = sumT f n + sumT g n
  | 0 => rfl
  | n + 1 => by rw [sumT, sumT, sumT, sumT_add n]; omega
theorem sumT_0 : ∀ n, sumT (fun _ => 0) n = 0
  | 0 => rfl
  | n + 1 => by rw [sumT, sumT_0 n]
theorem sumT_in {a L : Nat} : ∀ n, sumT (fun p => if a ≤ p ∧ p < a + L then 1 else 0) n = if n ≤ a then 0 else if n ≤ a + L then n - a else L
  | 0 => by rw [if_pos (Nat.zero_le _)]; rfl
  | n + 1 => by
    rw [sumT, sumT_in n]
    by_cases h1 : n ≤ a <;> by_cases h2 : n ≤ a + L <;> by_cases h3 : n + 1 ≤ a <;> by_cases h4 : n + 1 ≤ a + L <;> by_cases h5 : a ≤ n ∧ n < a + L <;> simp only [h1, h2, h3, h4, h5, if_true, if_false, and_self] <;> omega
theorem sumT_le {f : Nat → Nat} : ∀ n, (∀ p, p < n → f p ≤ 1) → sumT f n ≤ n
  | 0, _ => Nat.le_refl _
  | n + 1, h => by
    have h1 := sumT_le n (fun p hp => h p (by omega))
    have h2 := h n (by omega)
    rw [sumT]; omega
/-- how many cars on the street take the metre p -/
def cvr (σ : MS) (s : Int32) (p : Nat) : Nat → Nat
  | 0 => 0
  | k + 1 => cvr σ s p k + (if σ.2.1 25 k = s then (if ix (σ.2.1 26 k) ≤ p ∧ p < ix (σ.2.1 26 k) + ix (σ.2.1 23 k) then 1 else 0) else 0)
theorem cvr_pos {s : Int32} {p : Nat} : ∀ {n : Nat}, 0 < cvr σ s p n → ∃ i, i < n ∧ σ.2.1 25 i = s ∧ ix (σ.2.1 26 i) ≤ p ∧ p < ix (σ.2.1 26 i) + ix (σ.2.1 23 i)
  | 0, h => absurd h (Nat.lt_irrefl _)
  | n + 1, h => by
    rw [cvr] at h
    rcases Nat.eq_zero_or_pos (cvr σ s p n) with z | z
    · rw [z] at h
      by_cases h1 : σ.2.1 25 n = s
      · rw [if_pos h1] at h
        by_cases h2 : ix (σ.2.1 26 n) ≤ p ∧ p < ix (σ.2.1 26 n) + ix (σ.2.1 23 n)
        · exact ⟨n, by omega, h1, h2⟩
        · rw [if_neg h2] at h; omega
      · rw [if_neg h1] at h; omega
    · obtain ⟨i, hi, q⟩ := cvr_pos z
      exact ⟨i, by omega, q⟩
theorem cvr_le (h : XI σ N B k) {a p : Nat} (ha : a < 4) : ∀ n, n ≤ N 2 → cvr σ (nI a) p n ≤ 1
  | 0, _ => Nat.zero_le _
  | n + 1, hn => by
    have ih := cvr_le h (p := p) ha n (by omega)
    rw [cvr]
    by_cases h1 : σ.2.1 25 n = nI a
    · rw [if_pos h1]
      by_cases h2 : ix (σ.2.1 26 n) ≤ p ∧ p < ix (σ.2.1 26 n) + ix (σ.2.1 23 n)
      · rw [if_pos h2]
        rcases Nat.eq_zero_or_pos (cvr σ (nI a) p n) with z | z
        · omega
        · obtain ⟨i, hi, e1, e2⟩ := cvr_pos z
          have := h.2.2.2.2.2.2.2.2 n i (by omega) (by omega) (by omega) (by rw [h1]; exact nI_nm1 (by omega)) (e1.trans h1.symm)
          omega
      · rw [if_neg h2]; omega
    · rw [if_neg h1]; omega
theorem taken_sum (hI : PI σ N T) {a : Nat} (ha : a < 4) : ∀ n, n ≤ N 2 → takenF σ (nI a) n = nI (sumT (fun p => cvr σ (nI a) p n) 60)
  | 0, _ => by
    show (0 : Int32) = nI (sumT (fun _ => 0) 60)
    rw [sumT_0, nI_0]
  | n + 1, hn => by
    rw [takenF, taken_sum hI ha n (by omega)]
    show _ = nI (sumT (fun p => cvr σ (nI a) p n + _) 60)
    rw [sumT_add, ← nI_add]
    congr 1
    obtain ⟨-, -, p4, -⟩ := hI
    obtain ⟨⟨L, hL3, hL12, eL⟩, hst⟩ := p4 n (by omega)
    by_cases h1 : σ.2.1 25 n = nI a
    · obtain ⟨a', m, ha', ea', em, hm⟩ := hst (by rw [h1]; exact nI_nm1 (by omega))
      simp only [if_pos h1]
      rw [sumT_in, eL, ix_nI (by omega), em, ix_nI (by rw [eL, ix_nI (by omega)] at hm; omega)]
      rw [eL, ix_nI (by omega)] at hm
      rw [if_neg (by omega)]
      by_cases h6 : 60 ≤ m + L
      · rw [if_pos h6, show 60 - m = L by omega]
      · rw [if_neg h6]
    · simp only [if_neg h1]
      rw [sumT_0, nI_0]
theorem taken_60 (hI : PI σ N T) (h : XI σ N B k) {a : Nat} (ha : a < 4) : ∃ w, w ≤ 60 ∧ takenF σ (nI a) (N 2) = nI w :=
  ⟨_, sumT_le 60 (fun p _ => cvr_le h ha (N 2) (Nat.le_refl _)), taken_sum hI ha (N 2) (Nat.le_refl _)⟩
/-! time goes by -/
theorem xi_quar (hI : PI σ N T) (h : XI σ N B k) (hB : B < 49999) : XI (quarF σ (N 2)) N (B + 1) k := by
  have htk := fun a ha => taken_60 hI h (a := a) ha
  obtain ⟨⟨t, h1, h2, h3, h4⟩, x2, x3, x4, x5, x6, x7, x8, x9⟩ := h
  have hr : rem (σ.1 0 + 1) 96 = nI ((t + 1) % 96) := by
    rw [h2, nI_1]
    exact pk_rem (by omega) (by decide) (by decide)
  refine ⟨⟨t + 1, by omega, by rw [quar_0, h2, nI_1], fun i hi z => ?_, fun a ha => ?_⟩, x2, fun a ha => ?_, ?_, fun f hf => ?_, fun f hf => ?_, fun f hf => ?_, fun p hp => ?_, fun i j hi hj hij => ?_⟩
  · rw [quar_o (by decide) (by decide)] at z ⊢
    obtain ⟨u, hu, e⟩ := h3 i hi z
    exact ⟨u, by omega, e⟩
  · rw [quar_55 ha, hr]
    obtain ⟨q, hq, eq⟩ := h4 a ha
    obtain ⟨w, hw, ew⟩ := htk a ha
    by_cases z : (t + 1) % 96 = 0
    · rw [z, if_pos nI_0]; exact ⟨0, Nat.zero_le _, nI_0.symm⟩
    · rw [if_neg (nI_ne0 (by omega) (by omega)), eq, ew, nI_add]
      refine ⟨q + w, ?_, rfl⟩
      have : (t + 1) % 96 = t % 96 + 1 := by omega
      omega
  · rw [quar_o (by decide) (by decide)]; exact x3 a ha
  · rw [quar_o (by decide) (by decide), quar_1 40 (by decide)]; exact x4
  · rw [quar_o (by decide) (by decide)]; exact x5 f hf
  · rw [quar_b]; exact x6 f hf
  · rw [quar_b]; exact x7 f hf
  · rw [quar_o (by decide) (by decide)]; exact x8 p hp
  · rw [quar_o (by decide) (by decide), quar_o (by decide) (by decide), quar_o (by decide) (by decide)]; exact x9 i j hi hj hij
theorem pass_0 {nc : Nat} : ∀ n, (passF σ nc n).1 0 = σ.1 0 + nI n
  | 0 => by rw [nI_0, Int32.add_zero]; rfl
  | n + 1 => by
    show (quarF (passF σ nc n) nc).1 0 = _
    rw [quar_0, pass_0 n, nI_succ, Int32.add_assoc]
end
