/-! the law's arrays beside the class -/
def GA (ag : Nat) (σ : MS) (N : Nat → Nat) (G : HP) : Prop := ∃ g, G ag = some (hI 6 g) ∧ g 0 = σ.1 0 ∧ g 1 = nI (N 1) ∧ g 2 = nI (N 2) ∧ g 3 = nI (N 3) ∧ g 4 = nI (N 4) ∧ g 5 = nI (N 5)
def LA (al : Nat) (f : Nat → Int32) (N : Nat → Nat) (G : HP) : Prop := ∃ l, G al = some (hI 30 l) ∧ ∀ i, i < N 2 → l i = f i
def TA (aT : Nat) (f : Nat → Int32) (N : Nat → Nat) (G : HP) : Prop := ∃ t, G aT = some (hI 30 t) ∧ (∀ i, i < N 2 → t i = f i) ∧ ∀ i, i < 30 → N 2 ≤ i → t i = -1
def OWN (own : Nat → Nat) (ag al au aT : Nat) : Prop := own ag ≠ 0 ∧ own al ≠ 0 ∧ own au ≠ 0 ∧ own aT ≠ 0 ∧ ag ≠ al ∧ ag ≠ au ∧ ag ≠ aT ∧ al ≠ au ∧ al ≠ aT ∧ au ≠ aT
def LW (E : XE) (own : Nat → Nat) (x ag al au aT : Nat) (σ : MS) (N : Nat → Nat) (k : Nat) (G : HP) : Prop := TK E own x σ N k G ∧ XI σ N (60 * k) k ∧ GA ag σ N G ∧ LA al (σ.2.1 23) N G ∧ LA au (σ.2.1 24) N G ∧ TA aT (σ.2.1 25) N G
section
variable {E : XE} {own : Nat → Nat} {x ag al au aT k T : Nat} {σ : MS} {N : Nat → Nat} {G G' : HP}
theorem tk_put {o : Nat} {e : HE} (ho : own o ≠ 0) (hw : G' o = some e) (hr : ∀ q, q ≠ o → G' q = G q) (h : TK E own x σ N T G) : TK E own x σ N T G' := by
  obtain ⟨A, F, h1, h2, h3⟩ := h
  refine ⟨A, F, ch_to h1 (fun a e' ha h0 => ⟨(hr a (fun z => by rw [z] at h0; exact ho h0)).trans ha, h0⟩) (fun q hq z => ?_), h2, h3⟩
  by_cases eq : q = o
  · rw [eq, hw] at z; exact nomatch z
  · rw [hr q eq] at z; exact h1.1 q hq z
theorem lw_end (hk : k < 60) (h1 : TK E own x σ N k G) (h2 : XI σ N (60 * k) k) (h3 : GA ag σ N G) (h4 : LA al (σ.2.1 23) N G) (h5 : LA au (σ.2.1 24) N G) (h6 : TA aT (σ.2.1 25) N G) : LW E own x ag al au aT σ N (k + 1) G :=
  ⟨tk_T h1 (by omega), xi_up (by omega) (by omega) h2, h3, h4, h5, h6⟩
theorem lw_end1 (h1 : TK E own x σ N (k + 1) G) (h2 : XI σ N (60 * k) k) (h3 : GA ag σ N G) (h4 : LA al (σ.2.1 23) N G) (h5 : LA au (σ.2.1 24) N G) (h6 : TA aT (σ.2.1 25) N G) : LW E own x ag al au aT σ N (k + 1) G :=
  ⟨h1, xi_up (by omega) (by omega) h2, h3, h4, h5, h6⟩
theorem tk_N (h : TK E own x σ N T G) : cN σ N := by
  obtain ⟨A, F, h1, -, -⟩ := h
  exact h1.2.1
theorem tk_I (h : TK E own x σ N T G) : PI σ N T := by
  obtain ⟨A, F, -, h2, -⟩ := h
  exact h2.1
end
section
variable {E : XE} {d : Nat} {M : ME} {mc ms : Nat} {P : Ps} {pc pc' : Nat} {ls : List (Option Value)} {st : List Value} {G : HP} {k n : Nat}
theorem wp_iaw {a N j : Nat} {f : Nat → Int32} {i x : Int32} (hd : decode M.2.1 pc = .ok (.iastore, 1)) (hg : G a = some (hI N f)) (hi : i = nI j) (hj : j < N) (hN : N < 2 ^ 31) (hq : pc + 1 = pc') (h : ∀ G', G' a = some (hI N (va_up f j x)) → (∀ q, q ≠ a → G' q = G q) → WX E d M mc ms P pc' ls st G' k n) : WX E d M mc ms P pc ls (.int x :: .int i :: .ref a :: st) G k n :=
  wp_iast hd hg hi hj hN hq (h _ hu_s (fun q hq => hu_n hq))
end
