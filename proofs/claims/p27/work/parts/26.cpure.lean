/-! the class: what its ways of counting have in common with the reference's -/
theorem aheadC_iff {σ : MS} {k f : Nat} (hk : k < 2 ^ 31) (hf : f < 2 ^ 31) : aheadC σ k f = true ↔ (σ.2.2 14 k = true ∧ σ.2.2 14 f = false) ∨ (σ.2.2 14 k = σ.2.2 14 f ∧ ((σ.2.1 10 k - σ.2.1 9 k).toInt < (σ.2.1 10 f - σ.2.1 9 f).toInt ∨ ((σ.2.1 10 k - σ.2.1 9 k).toInt = (σ.2.1 10 f - σ.2.1 9 f).toInt ∧ f < k))) := by
  unfold aheadC
  generalize σ.2.1 10 f - σ.2.1 9 f = x
  generalize σ.2.1 10 k - σ.2.1 9 k = y
  by_cases e : b2i (σ.2.2 14 k) = b2i (σ.2.2 14 f)
  · rw [if_pos e]
    have e2 := b2i_inj.1 e
    by_cases w : y = x
    · subst w
      rw [if_pos rfl, Bool.not_eq_true', decide_eq_false_iff_not, nI_leI hk hf, e2]
      constructor
      · intro h; exact Or.inr ⟨rfl, Or.inr ⟨rfl, by omega⟩⟩
      · rintro (⟨h, h'⟩ | ⟨-, h | ⟨-, h⟩⟩)
        · rw [h] at h'; exact nomatch h'
        · omega
        · omega
    · rw [if_neg w, Bool.not_eq_true', decide_eq_false_iff_not, e2]
      have w2 : y.toInt ≠ x.toInt := fun z => w (Int32.toInt_inj.1 z)
      rw [Int32.le_iff_toInt_le]
      constructor
      · intro h; exact Or.inr ⟨rfl, Or.inl (by omega)⟩
      · rintro (⟨h, h'⟩ | ⟨-, h | ⟨h, -⟩⟩)
        · rw [h] at h'; exact nomatch h'
        · omega
        · exact absurd h w2
  · rw [if_neg e]
    have e2 : ¬ σ.2.2 14 k = σ.2.2 14 f := fun z => e (by rw [z])
    cases h1 : σ.2.2 14 k <;> cases h2 : σ.2.2 14 f
    · rw [h1, h2] at e2; exact absurd rfl e2
    · simp
    · simp
    · rw [h1, h2] at e2; exact absurd rfl e2
theorem ahead_tr {σ : MS} {a b c : Nat} (ha : a < 2 ^ 31) (hb : b < 2 ^ 31) (hc : c < 2 ^ 31) (h1 : aheadC σ a b = true) (h2 : aheadC σ b c = true) : aheadC σ a c = true := by
  rw [aheadC_iff ha hb] at h1
  rw [aheadC_iff hb hc] at h2
  rw [aheadC_iff ha hc]
  generalize (σ.2.1 10 a - σ.2.1 9 a).toInt = x at *
  generalize (σ.2.1 10 b - σ.2.1 9 b).toInt = y at *
  generalize (σ.2.1 10 c - σ.2.1 9 c).toInt = z at *
  cases h3 : σ.2.2 14 a <;> cases h4 : σ.2.2 14 b <;> cases h5 : σ.2.2 14 c <;> simp only [h3, h4, h5, Bool.false_eq_true, Bool.true_eq_false, false_and, and_false, true_and, and_true, false_or, or_false, and_self, true_or, or_true, reduceCtorEq] at h1 h2 ⊢ <;> omega
theorem ahead_to {σ : MS} {a b : Nat} (ha : a < 2 ^ 31) (hb : b < 2 ^ 31) (h : a ≠ b) (h1 : ¬ aheadC σ a b = true) : aheadC σ b a = true := by
  rw [aheadC_iff ha hb] at h1
  rw [aheadC_iff hb ha]
  generalize (σ.2.1 10 a - σ.2.1 9 a).toInt = x at *
  generalize (σ.2.1 10 b - σ.2.1 9 b).toInt = y at *
  cases h3 : σ.2.2 14 a <;> cases h4 : σ.2.2 14 b <;> simp only [h3, h4, Bool.false_eq_true, Bool.true_eq_false, false_and, and_false, true_and, and_true, false_or, or_false, and_self, true_or, or_true, reduceCtorEq, not_true_eq_false] at h1 ⊢ <;> omega
theorem ahead_no {σ : MS} {a b : Nat} (ha : a < 2 ^ 31) (hb : b < 2 ^ 31) (h1 : aheadC σ a b = true) (h2 : aheadC σ b a = true) : False := by
  rw [aheadC_iff ha hb] at h1
  rw [aheadC_iff hb ha] at h2
  generalize (σ.2.1 10 a - σ.2.1 9 a).toInt = x at *
  generalize (σ.2.1 10 b - σ.2.1 9 b).toInt = y at *
  cases h3 : σ.2.2 14 a <;> cases h4 : σ.2.2 14 b <;> simp only [h3, h4, Bool.false_eq_true, Bool.true_eq_false, false_and, and_false, true_and, and_true, false_or, or_false, and_self, true_or, or_true, reduceCtorEq] at h1 h2 <;> omega
theorem ite_some {c : Bool} {a b : Nat} : ¬ (if c = true then some a else some b) = none := by
  cases c <;> simp
theorem rule_best {σ : MS} {s mt q : Int32} : ∀ {n f : Nat}, n < 2 ^ 31 → ruleO σ s mt q n = some f → holdsB σ f s mt q = true ∧ ∀ k, k < n → k ≠ f → holdsB σ k s mt q = true → aheadC σ f k = true
  | 0, f, _, h => by cases h
  | n + 1, f, hn, h => by
    rw [ruleO] at h
    cases hh : holdsB σ n s mt q with
    | false =>
      rw [hh] at h
      obtain ⟨h1, h2⟩ := rule_best (n := n) (by omega) (by simpa using h)
      refine ⟨h1, fun k hk hne hold => ?_⟩
      rcases Nat.lt_or_ge k n with z | z
      · exact h2 k z hne hold
      · obtain rfl : k = n := by omega
        rw [hh] at hold; exact nomatch hold
    | true =>
      rw [hh, Bool.true_and] at h
      cases hr : ruleO σ s mt q n with
      | none =>
        rw [hr] at h
        obtain rfl : n = f := by simpa using h
        refine ⟨hh, fun k hk hne hold => ?_⟩
        exfalso
        have : ∀ m, k < m → m ≤ n → ruleO σ s mt q m ≠ none := by
          intro m
          induction m with
          | zero => intro z; omega
          | succ m ih =>
            intro hkm hmn hz
            rw [ruleO] at hz
            rcases Nat.lt_or_ge k m with w | w
            · cases hr2 : ruleO σ s mt q m with
              | none => exact ih w (by omega) hr2
              | some g =>
                rw [hr2] at hz
                exact absurd hz ite_some
            · obtain rfl : k = m := by omega
              rw [hold] at hz
              cases hr2 : ruleO σ s mt q k with
              | none => rw [hr2] at hz; simp at hz
              | some g =>
                rw [hr2] at hz
                exact absurd hz ite_some
        exact this n (by omega) (Nat.le_refl _) hr
      | some g =>
        rw [hr] at h
        have hg := ruleO_lt hr
        obtain ⟨h1, h2⟩ := rule_best (n := n) (by omega) hr
        have e : aheadB σ n g = aheadC σ n g := (ahead_eq hg (by omega)).symm
        change (if aheadB σ n g = true then some n else some g) = some f at h
        rw [e] at h
        by_cases ha : aheadC σ n g = true
        · rw [if_pos ha] at h
          obtain rfl := Option.some.inj h
          refine ⟨hh, fun k hk hne hold => ?_⟩
          by_cases hkg : k = g
          · subst hkg; exact ha
          · exact ahead_tr (by omega) (by omega) (by omega) ha (h2 k (by omega) hkg hold)
        · rw [if_neg ha] at h
          obtain rfl := Option.some.inj h
          refine ⟨h1, fun k hk hne hold => ?_⟩
          rcases Nat.lt_or_ge k n with z | z
          · exact h2 k z hne hold
          · obtain rfl : k = n := by omega
            exact ahead_to (by omega) (by omega) hne ha
theorem rule_none {σ : MS} {s mt q : Int32} : ∀ {n : Nat}, ruleO σ s mt q n = none → ∀ k, k < n → holdsB σ k s mt q = false
  | 0, _, k, hk => by omega
  | n + 1, h, k, hk => by
    rw [ruleO] at h
    cases hr : ruleO σ s mt q n with
    | some g =>
      rw [hr] at h
      exact absurd h ite_some
    | none =>
      rw [hr] at h
      rcases Nat.lt_or_ge k n with z | z
      · exact rule_none hr k z
      · obtain rfl : k = n := by omega
        cases hh : holdsB σ k s mt q with
        | false => rfl
        | true => rw [hh] at h; simp at h
theorem any_no {X : Nat → Bool} {k n : Nat} (h : anyF X n = false) (hk : k < n) : X k = false := by
  cases hx : X k with
  | false => rfl
  | true => rw [any_t hk hx] at h; exact nomatch h
theorem any_ex {X : Nat → Bool} : ∀ {n : Nat}, anyF X n = true → ∃ k, k < n ∧ X k = true
  | 0, h => nomatch h
  | n + 1, h => by
    change (anyF X n || X n) = true at h
    rw [Bool.or_eq_true] at h
    rcases h with z | z
    · obtain ⟨k, hk, hx⟩ := any_ex z
      exact ⟨k, by omega, hx⟩
    · exact ⟨n, by omega, z⟩
/-- a sign that holds and is not left out is the rule -/
theorem anew_t {σ : MS} {s mt q : Int32} {n i : Nat} (hn : n < 2 ^ 31) (hi : i < n) (hh : holdsB σ i s mt q = true) (hl : anyF (fun k => holdsB σ k s mt q && aheadC σ k i) n = false) : ruleO σ s mt q n = some i := by
  cases hr : ruleO σ s mt q n with
  | none => rw [rule_none hr i hi] at hh; exact nomatch hh
  | some f =>
    have hf := ruleO_lt hr
    obtain ⟨h1, h2⟩ := rule_best hn hr
    by_cases e : i = f
    · rw [e]
    · have h3 := h2 i hi e hh
      have h4 := any_no hl hf
      change (holdsB σ f s mt q && aheadC σ f i) = false at h4
      rw [h1, h3] at h4; exact nomatch h4
theorem anew_f {σ : MS} {s mt q : Int32} {n : Nat} (hn : n < 2 ^ 31) (h : ∀ i, i < n → (holdsB σ i s mt q && !anyF (fun k => holdsB σ k s mt q && aheadC σ k i) n) = false) : ruleO σ s mt q n = none := by
  cases hr : ruleO σ s mt q n with
  | none => rfl
  | some f =>
    have hf := ruleO_lt hr
    obtain ⟨h1, h2⟩ := rule_best hn hr
    have h3 := h f hf
    rw [h1, Bool.true_and, Bool.not_eq_false'] at h3
    obtain ⟨k, hk, hx⟩ := any_ex h3
    rw [Bool.and_eq_true] at hx
    by_cases e : k = f
    · subst e; exact (ahead_no (by omega) (by omega) hx.2 hx.2).elim
    · exact (ahead_no (by omega) (by omega) hx.2 (h2 k hk e hx.1)).elim
theorem holds_street {σ : MS} {i : Nat} {s mt q : Int32} (h : holdsB σ i s mt q = true) : σ.2.1 8 i = s := by
  unfold holdsB at h
  simp only [Bool.and_eq_true, decide_eq_true_eq] at h
  exact h.1.1.1.1.1
/-- the permits of a home on a day, counted -/
def ofN (σ : MS) (h day : Int32) : Nat → Nat
  | 0 => 0
  | k + 1 => ofN σ h day k + (if decide (σ.2.1 32 k = h) && inB day (σ.2.1 33 k) (σ.2.1 34 k) then 1 else 0)
theorem ofN_le {σ : MS} {h day : Int32} : ∀ n, ofN σ h day n ≤ n
  | 0 => Nat.le_refl _
  | n + 1 => by
    have := ofN_le (σ := σ) (h := h) (day := day) n
    rw [ofN]
    split <;> omega
theorem ofN_nI {σ : MS} {h day : Int32} : ∀ n, ofHomeF σ h day n = nI (ofN σ h day n)
  | 0 => nI_0.symm
  | n + 1 => by
    rw [ofHomeF, ofN, ofN_nI n]
    split
    · exact nI_1 _
    · exact Int32.add_zero _
theorem inB_iff {v lo hi : Int32} : inB v lo hi = true ↔ lo.toInt ≤ v.toInt ∧ v.toInt ≤ hi.toInt := by
  unfold inB
  rw [Bool.and_eq_true, Bool.not_eq_true', Bool.not_eq_true', decide_eq_false_iff_not, decide_eq_false_iff_not, Int32.lt_iff_toInt_lt, Int32.lt_iff_toInt_lt]
  omega
theorem ofN_day {σ : MS} {h : Int32} {e : Nat} (he : e < 1000) : ∀ n, (∀ k, k < n → ¬ (σ.2.1 33 k = nI (e + 1))) → ofN σ h (nI (e + 1)) n ≤ ofN σ h (nI e) n
  | 0, _ => Nat.le_refl _
  | n + 1, hk => by
    have ih := ofN_day (σ := σ) (h := h) he n (fun k h => hk k (by omega))
    rw [ofN, ofN]
    by_cases c : (decide (σ.2.1 32 n = h) && inB (nI (e + 1)) (σ.2.1 33 n) (σ.2.1 34 n)) = true
    · have c2 : (decide (σ.2.1 32 n = h) && inB (nI e) (σ.2.1 33 n) (σ.2.1 34 n)) = true := by
        rw [Bool.and_eq_true] at c ⊢
        refine ⟨c.1, ?_⟩
        have c3 := inB_iff.1 c.2
        refine inB_iff.2 ?_
        have hne : (σ.2.1 33 n).toInt ≠ (nI (e + 1)).toInt := fun z => hk n (by omega) (Int32.toInt_inj.1 z)
        rw [nI_toInt (by omega)] at c3 hne
        rw [nI_toInt (by omega)]
        omega
      rw [if_pos c, if_pos c2]; omega
    · rw [if_neg c]; omega
theorem room_iff {σ : MS} {n a : Nat} {h : Int32} : ∀ j, roomF σ n h a j = true ↔ ∀ i, i < j → ¬ (2 : Int32) ≤ ofHomeF σ h (nI (a + i)) n
  | 0 => ⟨fun _ i hi => by omega, fun _ => rfl⟩
  | j + 1 => by
    rw [roomF, Bool.and_eq_true, room_iff j, Bool.not_eq_true', decide_eq_false_iff_not]
    constructor
    · rintro ⟨h1, h2⟩ i hi
      rcases Nat.lt_or_ge i j with z | z
      · exact h1 i z
      · obtain rfl : i = j := by omega
        exact h2
    · intro hh
      exact ⟨fun i hi => hh i (by omega), hh j (by omega)⟩
theorem of2 {σ : MS} {h day : Int32} {n : Nat} (hn : n ≤ 40) : (ofHomeF σ h day n < 2) ↔ ofN σ h day n < 2 := by
  have := ofN_le (σ := σ) (h := h) (day := day) n
  rw [ofN_nI, show (2 : Int32) = nI 2 from rfl, nI_ltI (by omega) (by omega)]
theorem of2' {σ : MS} {h day : Int32} {n : Nat} (hn : n ≤ 40) : ((2 : Int32) ≤ ofHomeF σ h day n) ↔ 2 ≤ ofN σ h day n := by
  have := ofN_le (σ := σ) (h := h) (day := day) n
  rw [ofN_nI, show (2 : Int32) = nI 2 from rfl, nI_leI (by omega) (by omega)]
theorem full_eq {σ : MS} {n a b : Nat} {h : Int32} (hn : n ≤ 40) (hab : a ≤ b) (hb : b ≤ 520) : (!decide (ofHomeF σ h (nI a) n < 2) || anyF (fun k => inB (σ.2.1 33 k) (nI a) (nI b) && !decide (ofHomeF σ h (σ.2.1 33 k) n < 2)) n) = !roomF σ n h a (b + 1 - a) := by
  cases hr : roomF σ n h a (b + 1 - a) with
  | true =>
    rw [room_iff] at hr
    have h0 := hr 0 (by omega)
    rw [Nat.add_zero, of2' hn] at h0
    rw [decide_eq_true ((of2 hn).2 (by omega)), Bool.not_true, Bool.false_or]
    cases ha : anyF _ n with
    | false => rfl
    | true =>
      obtain ⟨k, hk, hx⟩ := any_ex ha
      rw [Bool.and_eq_true, Bool.not_eq_true', decide_eq_false_iff_not, of2 hn] at hx
      obtain ⟨x1, x2⟩ := hx
      have x3 := inB_iff.1 x1
      rw [nI_toInt (by omega), nI_toInt (by omega)] at x3
      obtain ⟨c, hc1, hc2⟩ : ∃ c, c < 2 ^ 31 ∧ σ.2.1 33 k = nI c := nI_of (fun z => by rw [Int32.lt_iff_toInt_lt] at z; change _ < (0 : Int) at z; omega)
      rw [hc2, nI_toInt hc1] at x3
      have x4 := hr (c - a) (by omega)
      rw [show a + (c - a) = c from by omega, of2' hn, ← hc2] at x4
      omega
  | false =>
    by_cases h0 : ofHomeF σ h (nI a) n < 2
    · rw [decide_eq_true h0, Bool.not_true, Bool.false_or]
      -- the first day that is full is no first day, so a permit begins on it
      have hx : ∃ i, i < b + 1 - a ∧ 2 ≤ ofN σ h (nI (a + i)) n ∧ ∀ j, j < i → ofN σ h (nI (a + j)) n < 2 := by
        clear hab hb
        generalize b + 1 - a = J at hr
        induction J with
        | zero => exact nomatch hr
        | succ J ih =>
          cases hr2 : roomF σ n h a J with
          | false =>
            obtain ⟨i, h1, h2, h3⟩ := ih hr2
            exact ⟨i, by omega, h2, h3⟩
          | true =>
            rw [roomF, hr2, Bool.true_and, Bool.not_eq_false', decide_eq_true_eq, of2' hn] at hr
            rw [room_iff] at hr2
            exact ⟨J, by omega, hr, fun j hj => by have := hr2 j hj; rw [of2' hn] at this; omega⟩
      obtain ⟨i, h1, h2, h3⟩ := hx
      obtain ⟨e, rfl⟩ : ∃ e, i = e + 1 := by
        cases i with
        | zero => rw [of2 hn] at h0; rw [Nat.add_zero] at h2; omega
        | succ e => exact ⟨e, rfl⟩
      have h4 := h3 e (by omega)
      obtain ⟨k, hk1, hk2⟩ : ∃ k, k < n ∧ σ.2.1 33 k = nI (a + e + 1) := by
        apply Classical.byContradiction
        intro hno
        have := ofN_day (σ := σ) (h := h) (e := a + e) (by omega) n (fun k hk z => hno ⟨k, hk, z⟩)
        rw [show a + e + 1 = a + (e + 1) from by omega] at this
        omega
      refine any_t hk1 ?_
      show (inB (σ.2.1 33 k) (nI a) (nI b) && !decide (ofHomeF σ h (σ.2.1 33 k) n < 2)) = true
      rw [hk2, Bool.and_eq_true]
      refine ⟨inB_iff.2 (by rw [nI_toInt (by omega), nI_toInt (by omega), nI_toInt (by omega)]; omega), ?_⟩
      rw [Bool.not_eq_true', decide_eq_false_iff_not, of2 hn, show a + e + 1 = a + (e + 1) from by omega]
      omega
    · rw [decide_eq_false h0]
      rfl
