/-! fines and debts -/
section
variable {σ : MS} {F : Nat → Int32} {N : Nat → Nat} {T B k : Nat}
/-- all fines that are open, together -/
def opnF (σ : MS) : Nat → Int32
  | 0 => 0
  | k + 1 => opnF σ k + (if !σ.2.2 51 k && !σ.2.2 50 k then amoF σ k else 0)
def dsm (f : Nat → Int32) : Nat → Int32
  | 0 => 0
  | n + 1 => dsm f n + f n
theorem add4 (a b c e : Int32) : a + b + (c + e) = a + c + (b + e) := by
  rw [Int32.add_assoc, Int32.add_assoc, ← Int32.add_assoc b c e, Int32.add_comm b c, Int32.add_assoc c b e]
theorem dsm_add {f g : Nat → Int32} : ∀ n, dsm (fun i => f i + g i) n = dsm f n + dsm g n
  | 0 => by rw [dsm, dsm, dsm, Int32.add_zero]
  | n + 1 => by rw [dsm, dsm, dsm, dsm_add n, add4]
theorem dsm_0 : ∀ n, dsm (fun _ => 0) n = 0
  | 0 => rfl
  | n + 1 => by rw [dsm, dsm_0 n, Int32.add_zero]
theorem dsm_one {c : Nat} {y : Int32} : ∀ n, n < 2 ^ 31 → c < 2 ^ 31 → dsm (fun i => if nI c = nI i then y else 0) n = if c < n then y else 0
  | 0, _, _ => by rw [if_neg (Nat.not_lt_zero _)]; rfl
  | n + 1, hn, hc => by
    rw [dsm, dsm_one n (by omega) hc]
    by_cases e : c = n
    · subst e
      rw [if_neg (Nat.lt_irrefl _), if_pos rfl, if_pos (Nat.lt_succ_self _), Int32.zero_add]
    · rw [if_neg (fun z => e ((nI_eq hc (by omega)).1 z)), Int32.add_zero]
      by_cases h : c < n
      · rw [if_pos h, if_pos (by omega)]
      · rw [if_neg h, if_neg (by omega)]
theorem dsm_ext {f g : Nat → Int32} : ∀ n, (∀ i, i < n → f i = g i) → dsm f n = dsm g n
  | 0, _ => rfl
  | n + 1, h => by rw [dsm, dsm, dsm_ext n (fun i hi => h i (by omega)), h n (by omega)]
theorem debts_open (hN : cN σ N) (hI : PI σ N T) : ∀ n, n ≤ N 5 → dsm (fun i => debtF σ i n) (N 2) = opnF σ n
  | 0, _ => dsm_0 _
  | n + 1, hn => by
    obtain ⟨n0, n1, n2, -⟩ := id hN
    obtain ⟨-, -, -, -, p6, -⟩ := id hI
    obtain ⟨c, a, m, p, hc, e41, -⟩ := p6 n (by omega)
    show dsm (fun i => debtF σ i n + (if decide (σ.2.1 41 n = nI i) && !σ.2.2 51 n && !σ.2.2 50 n then amoF σ n else 0)) (N 2) = opnF σ n + (if !σ.2.2 51 n && !σ.2.2 50 n then amoF σ n else 0)
    rw [dsm_add, debts_open hN hI n (by omega)]
    congr 1
    cases h : (!σ.2.2 51 n && !σ.2.2 50 n)
    · rw [dsm_ext (g := fun _ => 0) (N 2) (fun i _ => by rw [Bool.and_assoc, h, Bool.and_false]; rfl), dsm_0]
      rfl
    · rw [dsm_ext (g := fun i => if nI c = nI i then amoF σ n else 0) (N 2) (fun i _ => by rw [Bool.and_assoc, h, Bool.and_true, e41]; by_cases z : nI c = nI i <;> simp [z]), dsm_one (N 2) (by omega) (by omega), if_pos hc]
      rfl
theorem amo_v {f : Nat} : amoF σ f = 100 ∨ amoF σ f = 60 ∨ amoF σ f = 30 ∨ amoF σ f = 40 := by
  unfold amoF
  split
  · exact Or.inl rfl
  · split
    · exact Or.inr (Or.inl rfl)
    · split
      · exact Or.inr (Or.inr (Or.inl rfl))
      · exact Or.inr (Or.inr (Or.inr rfl))
theorem amo_n {f : Nat} : ∃ y, y ≤ 100 ∧ amoF σ f = nI y := by
  rcases amo_v (σ := σ) (f := f) with e | e | e | e
  · exact ⟨100, by decide, e⟩
  · exact ⟨60, by decide, e⟩
  · exact ⟨30, by decide, e⟩
  · exact ⟨40, by decide, e⟩
theorem amo_30 {f : Nat} : ¬ amoF σ f < 30 := by
  rcases amo_v (σ := σ) (f := f) with e | e | e | e <;> rw [e] <;> decide
theorem debt_n {i : Nat} : ∀ n, ∃ y, y ≤ 100 * n ∧ debtF σ i n = nI y
  | 0 => ⟨0, Nat.le_refl _, nI_0.symm⟩
  | n + 1 => by
    obtain ⟨y, hy, e⟩ := debt_n (i := i) n
    rw [debtF, e]
    split
    · obtain ⟨z, hz, e2⟩ := amo_n (σ := σ) (f := n)
      rw [e2, nI_add]
      exact ⟨y + z, by omega, rfl⟩
    · rw [Int32.add_zero]
      exact ⟨y, by omega, rfl⟩
theorem debt_zz {i : Nat} : ∀ n, debtF (zz σ) i n = debtF σ i n
  | 0 => rfl
  | n + 1 => by
    rw [debtF, debtF, debt_zz n]
    rfl
theorem debt_off {i c : Nat} {y : Int32} : ∀ n, debtF (mar (zz σ) 25 c y) i n = debtF σ i n
  | 0 => rfl
  | n + 1 => by
    rw [debtF, debtF, debt_off n]
    rfl
/-- a fine is paid: the debt is so much less -/
theorem debt_pay {c j : Nat} (e41 : σ.2.1 41 j = nI c) (h50 : σ.2.2 50 j = false) (h51 : σ.2.2 51 j = false) : ∀ n, debtF (mbr (zz σ) 51 j true) c n + (if j < n then amoF σ j else 0) = debtF σ c n
  | 0 => by rw [if_neg (Nat.not_lt_zero _)]; rfl
  | n + 1 => by
    have ih := debt_pay e41 h50 h51 n
    rw [debtF, debtF, ← ih]
    show _ + (if decide (σ.2.1 41 n = nI c) && !va_up (σ.2.2 51) j true n && !σ.2.2 50 n then amoF σ n else 0) + _ = _
    by_cases e : n = j
    · subst e
      rw [up_s, if_neg (Nat.lt_irrefl _), if_pos (Nat.lt_succ_self _), e41, h50, h51]
      simp
    · rw [up_n e]
      by_cases h : j < n
      · rw [if_pos (show j < n + 1 by omega), if_pos h, Int32.add_assoc, Int32.add_assoc]
        congr 1
        exact Int32.add_comm _ _
      · rw [if_neg (show ¬ j < n + 1 by omega), if_neg h, Int32.add_zero, Int32.add_zero]
/-- a fine is taken back, or not: the debt is no more than it was -/
theorem debt_back {c j : Nat} {b : Bool} (h50 : σ.2.2 50 j = false) : ∀ n, ∃ y z, y + z ≤ 100 * n ∧ debtF (mbr (mbr (zz σ) 49 j true) 50 j b) c n = nI y ∧ debtF σ c n = nI (y + z) ∧ (b = false → z = 0)
  | 0 => ⟨0, 0, Nat.le_refl _, nI_0.symm, nI_0.symm, fun _ => rfl⟩
  | n + 1 => by
    obtain ⟨y, z, hyz, e1, e2, h0⟩ := debt_back (c := c) (b := b) h50 n
    rw [debtF, debtF, e1, e2]
    show ∃ y' z', y' + z' ≤ 100 * (n + 1) ∧ nI y + (if decide (σ.2.1 41 n = nI c) && !σ.2.2 51 n && !va_up (σ.2.2 50) j b n then amoF σ n else 0) = nI y' ∧ _
    obtain ⟨q, hq, eq⟩ := amo_n (σ := σ) (f := n)
    rw [eq]
    by_cases e : n = j
    · subst e
      rw [up_s, h50]
      cases hx : (decide (σ.2.1 41 n = nI c) && !σ.2.2 51 n)
      · simp only [Bool.false_and, Bool.false_eq_true, if_false, Int32.add_zero]
        exact ⟨y, z, by omega, rfl, rfl, h0⟩
      · cases b
        · simp only [Bool.true_and, Bool.not_false, if_true, nI_add]
          exact ⟨y + q, z, by omega, rfl, by rw [Nat.add_right_comm], fun _ => h0 rfl⟩
        · simp only [Bool.true_and, Bool.not_false, Bool.not_true, Bool.false_eq_true, if_true, if_false, Int32.add_zero, nI_add]
          exact ⟨y, z + q, by omega, rfl, by rw [Nat.add_assoc], fun w => nomatch w⟩
    · rw [up_n e]
      split
      · simp only [nI_add]
        exact ⟨y + q, z, by omega, rfl, by rw [Nat.add_right_comm], h0⟩
      · simp only [Int32.add_zero]
        exact ⟨y, z, by omega, rfl, rfl, h0⟩
/-! gaps -/
theorem gap_spec {s l : Int32} {n : Nat} : ∀ J, J ≤ 60 → (gapF σ s l n J = -1 ∧ ∀ m, 60 - J ≤ m → m < 60 → gapB σ s (nI m) l n = false) ∨ ∃ m, 60 - J ≤ m ∧ m < 60 ∧ gapF σ s l n J = nI m ∧ gapB σ s (nI m) l n = true ∧ ∀ m', 60 - J ≤ m' → m' < m → gapB σ s (nI m') l n = false
  | 0, _ => Or.inl ⟨rfl, fun m h1 h2 => by omega⟩
  | J + 1, h => by
    have e60 : 60 - (J + 1) = 59 - J := by omega
    rw [e60, gapF]
    cases hg : gapB σ s (nI (59 - J)) l n
    · rw [if_neg (by decide)]
      rcases gap_spec (s := s) (l := l) (n := n) J (by omega) with ⟨h1, h2⟩ | ⟨m, h1, h2, h3, h4, h5⟩
      · refine Or.inl ⟨h1, fun m q1 q2 => ?_⟩
        by_cases e : m = 59 - J
        · rw [e]; exact hg
        · exact h2 m (by omega) q2
      · refine Or.inr ⟨m, by omega, h2, h3, h4, fun m' q1 q2 => ?_⟩
        by_cases e : m' = 59 - J
        · rw [e]; exact hg
        · exact h5 m' (by omega) q2
    · rw [if_pos rfl]
      exact Or.inr ⟨59 - J, Nat.le_refl _, by omega, rfl, hg, fun m' q1 q2 => by omega⟩
/-! what a fine leaves of the judgements -/
theorem rule_giv {i : Nat} {w s mt q : Int32} : ∀ n, ruleO (givF σ i w) s mt q n = ruleO σ s mt q n
  | 0 => rfl
  | n + 1 => by
    rw [ruleO, ruleO, rule_giv n]
    rfl
theorem forb_giv {i n : Nat} {w s mt q as : Int32} : ∀ L, forbF (givF σ i w) n s mt q as L = forbF σ n s mt q as L
  | 0 => rfl
  | L + 1 => by
    rw [forbF, forbF, forb_giv L, rule_giv]
    rfl
theorem user_giv {i c : Nat} {w s day : Int32} : ∀ n, userF (givF σ i w) c s day n = userF σ c s day n
  | 0 => rfl
  | n + 1 => by
    rw [userF, userF, user_giv n]
    rfl
theorem cov_giv {i c : Nat} {w s q : Int32} : ∀ n, covF (givF σ i w) c s q n = covF σ c s q n
  | 0 => rfl
  | n + 1 => by
    rw [covF, covF, cov_giv n]
    rfl
theorem blk_giv {i o : Nat} {w : Int32} : ∀ n, blkF (givF σ i w) o n = blkF σ o n
  | 0 => rfl
  | n + 1 => by
    rw [blkF, blkF, blk_giv n]
    rfl
theorem jud_giv {i c L n np ny : Nat} {w s mt fr q : Int32} : judF (givF σ i w) c L n np ny s mt fr q = judF σ c L n np ny s mt fr q := by
  unfold judF userOnF
  rw [user_giv, forb_giv, rule_giv, cov_giv]
  rfl
theorem judNow_giv {i c : Nat} {w : Int32} : judNow (givF σ i w) c = judNow σ c := by
  show judNF (givF σ i w) c (ix (σ.2.1 23 c)) (ix (σ.1 7)) (ix (σ.1 29)) (ix (σ.1 35)) (ix (60 * σ.2.1 25 c + σ.2.1 26 c)) = _
  unfold judNow judNF
  rw [blk_giv, jud_giv]
  rfl
theorem judNow_c (h : ∀ i, i < N 2 → True) {c : Nat} : judNow σ c = 0 ∨ judNow σ c = 1 ∨ judNow σ c = 2 ∨ judNow σ c = 3 ∨ judNow σ c = 4 := by
  by_cases z : judNow σ c = 0
  · exact Or.inl z
  · exact Or.inr (judNow_v z)
theorem judNow_pos {c : Nat} : ¬ judNow σ c < 0 := by
  rcases judNow_c (σ := σ) (N := fun _ => 0) (fun _ _ => trivial) (c := c) with e | e | e | e | e <;> rw [e] <;> decide
end
