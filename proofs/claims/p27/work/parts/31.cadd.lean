/-! the class: one more in a list -/
def aAdd (A : Nat → Nat → Nat) (k ar b n : Nat) : Nat → Nat → Nat := fun r => if r = 2 then va_up (A 2) k ar else if r = 3 + k then va_up (A (3 + k)) n b else A r
theorem up_s {α : Type} {f : Nat → α} {i : Nat} {x : α} : va_up f i x i = x := if_pos rfl
theorem up_n {α : Type} {f : Nat → α} {i j : Nat} {x : α} (h : j ≠ i) : va_up f i x j = f j := if_neg h
theorem add_L {E : XE} {own : Nat → Nat} {A : Nat → Nat → Nat} {N : Nat → Nat} {G G' : HP} (hL : cL E own A N G) (hD : cD A N) (hON : ∀ q, own q ≠ 0 → G q ≠ none) {k b ar : Nat} (hk : k < 6) (hb : ∀ j, j < N k → A (3 + k) j ≠ b) (h1 : AL E G' (A 1 k) ar (N k + 1) (va_up (A (3 + k)) (N k) b)) (h2 : (0 < N k ∧ ar = A 2 k) ∨ G ar = none) (h3 : ∀ q, q ≠ A 1 k → (0 < N k → q ≠ A 2 k) → G q ≠ none → G' q = G q) {A' : Nat → Nat → Nat} (a1 : A' 1 = A 1) (a2 : A' 2 = va_up (A 2) k ar) (a3 : ∀ i, i < 6 → A' (3 + i) = if i = k then va_up (A (3 + k)) (N k) b else A (3 + i)) (a11 : A' 11 = A 11) : cL E own A' (va_up N k (N k + 1)) G' ∧ cD A' (va_up N k (N k + 1)) ∧ Kp (fun t => t == 0 || t == 20) G G' ∧ Fr0 own G G' := by
  have hlk := hL k hk
  obtain ⟨⟨mo, hl⟩, hlb⟩ := hlk.1
  have har : 0 < N k → ∃ cap f, G (A 2 k) = some (hR cap f) := fun z => by
    rcases hlb with ⟨-, w⟩ | ⟨-, cap, f, w, -⟩
    · omega
    · exact ⟨cap, f, w⟩
  have hoar : own ar = 0 := by
    rcases h2 with ⟨z, rfl⟩ | z
    · exact hlk.2.2 z
    · exact own_new hON z
  have hkp : Kp (fun t => t == 0 || t == 20) G G' := fun a e ha ht => by
    refine (h3 a (fun z => ?_) (fun z w => ?_) (by rw [ha]; exact fun z => nomatch z)).trans ha
    · rw [z, hl] at ha
      rw [← Option.some.inj ha] at ht
      exact nomatch ht
    · obtain ⟨cap, f, v⟩ := har z
      rw [w, v] at ha
      rw [← Option.some.inj ha] at ht
      exact nomatch ht
  have hfr : Fr0 own G G' := fun a ha => h3 a (fun z => ha (by rw [z]; exact hlk.2.1)) (fun z w => ha (by rw [w]; exact hlk.2.2 z)) (hON a ha)
  have hars : ∀ i, i < 6 → i ≠ k → 0 < N i → ar ≠ A 2 i := fun i hi hik hn z => by
    rcases h2 with ⟨y, w⟩ | y
    · exact (hD.1 k i hk hi (fun v => hik v.symm)).2 y hn (w.symm.trans z)
    · rcases (hL i hi).1.2 with ⟨-, w⟩ | ⟨-, cap, f, w, -⟩
      · omega
      · rw [z, w] at y; exact nomatch y
  refine ⟨fun i hi => ?_, ⟨fun i j hi hj hij => ?_, fun i hi => ?_, by rw [a11]; exact hD.2.2⟩, hkp, hfr⟩
  · rw [a1, a2, a3 i hi]
    by_cases e : i = k
    · subst e
      rw [if_pos rfl, up_s, up_s]
      exact ⟨h1, hlk.2.1, fun _ => hoar⟩
    · rw [if_neg e, up_n e, up_n e]
      obtain ⟨⟨⟨mo2, q1⟩, q2⟩, q3⟩ := hL i hi
      refine ⟨⟨⟨mo2, ?_⟩, q2.imp id (fun ⟨y, cap, f, z, w⟩ => ⟨y, cap, f, ?_, w⟩)⟩, q3⟩
      · rw [h3 _ (hD.1 i k hi hk e).1 (fun z w => by
          obtain ⟨cap, f, v⟩ := har z
          rw [w, v] at q1
          exact hO_hR (Option.some.inj q1).symm) (by rw [q1]; exact fun z => nomatch z)]
        exact q1
      · rw [h3 _ (fun v => by rw [v, hl] at z; exact hO_hR (Option.some.inj z)) (fun v => (hD.1 i k hi hk e).2 y v) (by rw [z]; exact fun z => nomatch z)]
        exact z
  · rw [a1, a2]
    refine ⟨(hD.1 i j hi hj hij).1, fun n1 n2 => ?_⟩
    by_cases e : i = k
    · subst e
      have e2 : j ≠ i := fun z => hij z.symm
      rw [up_n e2] at n2
      rw [up_s, up_n e2]
      exact hars j hj e2 n2
    · rw [up_n e] at n1
      rw [up_n e]
      by_cases e2 : j = k
      · subst e2
        rw [up_s]
        exact fun z => hars i hi e n1 z.symm
      · rw [up_n e2] at n2
        rw [up_n e2]
        exact (hD.1 i j hi hj hij).2 n1 n2
  · rw [a3 i hi]
    by_cases e : i = k
    · subst e
      rw [if_pos rfl, up_s]
      intro x y hx hy hxy
      by_cases ex : x = N i <;> by_cases ey : y = N i
      · omega
      · rw [ex, up_s, up_n ey] at hxy
        exact absurd hxy.symm (hb y (by omega))
      · rw [ey, up_s, up_n ex] at hxy
        exact absurd hxy (hb x (by omega))
      · rw [up_n ex, up_n ey] at hxy
        exact hD.2.1 i hi x y (by omega) (by omega) hxy
    · rw [if_neg e, up_n e]
      exact hD.2.1 i hi
