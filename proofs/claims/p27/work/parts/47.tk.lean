/-! the law's world: the class's objects and what the law's wrappers answer -/
theorem mcode_0 {a b c : Bool} (h : mcode a b c = 0) : a = true ∧ b = true ∧ c = true := by
  cases a <;> cases b <;> cases c <;> first | exact ⟨rfl, rfl, rfl⟩ | exact absurd h (by decide)
theorem mcode_2 {a c : Bool} (h : mcode a true c = 2) : False := by
  cases a <;> cases c <;> exact absurd h (by decide)
theorem mcode_3 {a b : Bool} (h : mcode a b true = 3) : False := by
  cases a <;> cases b <;> exact absurd h (by decide)
/-- what a wrapper answers: its own value, or a number for what was thrown -/
def rsO (k y : Int32) : Int32 := if k = 0 then y else if k = 1 then -1000001 else if k = 2 then -1000002 else -1000003
def rsP (k y : Int32) : Int32 := if k = 0 then y else if k = 1 then -1000002 else -1000003
def rsQ (k y : Int32) : Int32 := if k = 0 then y else if k = 1 then -1000001 else -1000003
/-- the class stands in the heap at the state σ, its object at x -/
def TK (E : XE) (own : Nat → Nat) (x : Nat) (σ : MS) (N : Nat → Nat) (T : Nat) (G : HP) : Prop := ∃ A F, CH E own A F σ N G ∧ INV σ F N T ∧ A 0 0 = x
section
variable {E : XE} {own own' : Nat → Nat} {A : Nat → Nat → Nat} {F : Nat → Int32} {σ σ' : MS} {N : Nat → Nat} {G G' : HP} {o x T : Nat}
theorem ch_to (h : CH E own A F σ N G) (hs : ∀ a e, G a = some e → own a = 0 → G' a = some e ∧ own' a = 0) (hON : ∀ q, own' q ≠ 0 → G' q ≠ none) : CH E own' A F σ N G' := by
  obtain ⟨-, hN, hK, hL, hD, hT, hS, hW, hC, hPm, hY, hF⟩ := h
  have cl : ∀ {a e}, Cl own G a e → Cl own' G' a e := fun z => hs _ _ z.1 z.2
  refine ⟨hON, hN, cl hK, fun k hk => ?_, hD, fun a ha => ⟨cl (hT a ha).1, (hT a ha).2.imp (fun _ z => ⟨cl z.1, z.2⟩)⟩, fun i hi => ⟨cl (hS i hi).1, cl (hS i hi).2.1, (hS i hi).2.2⟩, cl hW, fun i hi => ⟨cl (hC i hi).1, fun z => cl ((hC i hi).2 z)⟩, fun i hi => cl (hPm i hi), fun i hi => cl (hY i hi), fun i hi => ⟨cl (hF i hi).1, (hF i hi).2.imp (fun _ z => cl z)⟩⟩
  obtain ⟨⟨⟨mo, q1⟩, q2⟩, q3, q4⟩ := hL k hk
  obtain ⟨z1, z2⟩ := hs _ _ q1 q3
  refine ⟨⟨⟨mo, z1⟩, ?_⟩, z2, fun n0 => ?_⟩
  · exact q2.imp id (fun ⟨y, cap, f, z, w⟩ => ⟨y, cap, f, (hs _ _ z (q4 y)).1, w⟩)
  · rcases q2 with ⟨-, z⟩ | ⟨y, cap, f, z, w⟩
    · omega
    · exact (hs _ _ z (q4 n0)).2
theorem ch_56 {c : Int32} (h : CH E own A F σ N G) : CH E own A F (msc σ 56 c) N G := by
  obtain ⟨h1, h2, h3, h4, h5, h6, h7, h8, h9, h10, h11, h12⟩ := h
  exact ⟨h1, h2, h3, h4, h5, fun a ha => by rw [taken_c (σ := σ) (σ' := msc σ 56 c) rfl rfl]; exact h6 a ha, h7, h8, h9, h10, h11, h12⟩
theorem inv_T (h : INV σ F N T) (hT : T + 1 ≤ 1000) : INV σ F N (T + 1) := by
  obtain ⟨⟨p0, p3, p4, p5, p6, p7⟩, hR, hO, -⟩ := h
  exact ⟨⟨p0, p3, p4, fun i hi => by obtain ⟨p, hp, e⟩ := p5 i hi; exact ⟨p, by omega, e⟩, p6, p7⟩, hR, hO, hT⟩
theorem tk_T (h : TK E own x σ N T G) (hT : T + 1 ≤ 1000) : TK E own x σ N (T + 1) G := by
  obtain ⟨A, F, h1, h2, h3⟩ := h
  exact ⟨A, F, h1, inv_T h2 hT, h3⟩
theorem tk_zz (h : TK E own x σ N T G) : TK E own x (zz σ) N T G := by
  obtain ⟨A, F, h1, h2, h3⟩ := h
  exact ⟨A, F, ch_56 h1, h2, h3⟩
theorem ch_out (ho : own o ≠ 0) (h : CH E own A F σ N G) {e : HE} : CH E own A F σ N (hu G o e) :=
  ch_to h (fun a e' ha h0 => ⟨(hu_n (fun z => by rw [z] at h0; exact ho h0)).trans ha, h0⟩) (fun q hq z => by
    by_cases eq : q = o
    · rw [eq, hu_s] at z; exact nomatch z
    · rw [hu_n eq] at z; exact h.1 q hq z)
theorem tk_out (ho : own o ≠ 0) (h : TK E own x σ N T G) {e : HE} : TK E own x σ N T (hu G o e) := by
  obtain ⟨A, F, h1, h2, h3⟩ := h
  exact ⟨A, F, ch_out ho h1, h2, h3⟩
theorem gapB_0 {s mt many : Int32} : ∀ n, gapB σ s mt many n = true → gapB σ s mt many 0 = true
  | 0, h => h
  | n + 1, h => by
    rw [gapB, Bool.and_eq_true] at h
    exact gapB_0 n h.1
theorem kt_h {d : Nat} {M : ME} {mc ms : Nat} {P : Ps} {pc : Nat} {ls : List (Option Value)} {st : List Value} {k n : Nat} {X : String} (t : Nat) (hf : HF M.1.cls pc X M.2.2.2 (some t)) (h : ∀ q, WX E d M mc ms P t ls [.ref q] G k n) : KT M P (WX E d M mc ms P) pc ls st k n (.inr X) G := Or.inr ⟨t, hf, h⟩
theorem hf_1 {nm : String} {own : String} {pc : Nat} {X : String} {s e t c : Nat} {hs : List (Nat × Nat × Nat × Nat)} (h : (decide (s ≤ pc) && decide (pc < e)) = true) (hc : c ≠ 0) (hw : tW (.classLink own c nm)) (ha : tW (.castable X nm)) : HF own pc X ((s, e, t, c) :: hs) (some t) := Or.inr ⟨h, hc, nm, hw, Or.inl ⟨ha, rfl⟩⟩
theorem hf_n {nm : String} {own : String} {pc : Nat} {X : String} {s e t c : Nat} {hs : List (Nat × Nat × Nat × Nat)} {r : Option Nat} (h : (decide (s ≤ pc) && decide (pc < e)) = true) (hc : c ≠ 0) (hw : tW (.classLink own c nm)) (hn : (X, nm) ∈ nc_list) (hr : HF own pc X hs r) : HF own pc X ((s, e, t, c) :: hs) r := Or.inr ⟨h, hc, nm, hw, Or.inr ⟨hn, hr⟩⟩
end
