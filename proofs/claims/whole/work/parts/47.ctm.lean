/-! from heap to heap; the state between two turns -/
theorem mcode_0 {a b c : Bool} (h : mcode a b c = 0) : a = true ∧ b = true ∧ c = true := by
  cases a <;> cases b <;> cases c <;> first | exact ⟨rfl, rfl, rfl⟩ | exact absurd h (by decide)
theorem mcode_2 {a c : Bool} (h : mcode a true c = 2) : False := by
  cases a <;> cases c <;> exact absurd h (by decide)
theorem mcode_3 {a b : Bool} (h : mcode a b true = 3) : False := by
  cases a <;> cases b <;> exact absurd h (by decide)
section
variable {E : XE} {own own' aM : Nat → Nat} {A : Nat → Nat → Nat} {F : Nat → Int32} {σ σ' : MS} {N : Nat → Nat} {G G' : HP} {m o x T : Nat} {Q : (Nat → Int64) → Prop}
theorem ch_to (h : CH E own A F σ N G) (hs : ∀ a e, G a = some e → own a = 0 → G' a = some e ∧ own' a = 0) (hON : ∀ q, own' q ≠ 0 → G' q ≠ none) : CH E own' A F σ N G' := by
  obtain ⟨-, hN, hK, hL, hD, hT, hS, hW, hC, hPm, hY, hF⟩ := h
  have cl : ∀ {a e}, Cl own G a e → Cl own' G' a e := fun z => hs _ _ z.1 z.2
  refine ⟨hON, hN, cl hK, fun k hk => ?_, hD, fun a ha => ⟨cl (hT a ha).1, (hT a ha).2.imp (fun _ z => ⟨cl z.1, z.2⟩)⟩, fun i hi => ⟨cl (hS i hi).1, cl (hS i hi).2.1, (hS i hi).2.2⟩, cl hW, fun i hi => ⟨cl (hC i hi).1, fun z => cl ((hC i hi).2 z)⟩, fun i hi => cl (hPm i hi), fun i hi => cl (hY i hi), fun i hi => ⟨cl (hF i hi).1, (hF i hi).2.imp (fun _ z => cl z)⟩⟩
  obtain ⟨⟨⟨mo, q1⟩, q2⟩, q3, q4⟩ := hL k hk
  obtain ⟨z1, z2⟩ := hs _ _ q1 q3
  refine ⟨⟨⟨mo, z1⟩, ?_⟩, z2, fun n0 => ?_⟩
  · exact q2.imp id (fun ⟨y, cap, f, z, w⟩ => ⟨y, cap, f, (hs _ _ z (q4 y)).1, w⟩)
  · rcases q2 with ⟨-, z⟩ | ⟨y, cap, f, z, w⟩
    · omega
    · exact (hs _ _ z (q4 n0)).2
theorem ch_56 {c : Int32} (h : CH E own A F σ N G) : CH E own A F (msc σ 56 c) N G := by
  obtain ⟨h1, h2, h3, h4, h5, h6, h7, h8, h9, h10, h11, h12⟩ := h
  exact ⟨h1, h2, h3, h4, h5, fun a ha => by rw [taken_c (σ := σ) (σ' := msc σ 56 c) rfl rfl]; exact h6 a ha, h7, h8, h9, h10, h11, h12⟩
theorem inv_56 {c : Int32} (h : INV σ F N T) : INV (msc σ 56 c) F N T := h
theorem inv_T (h : INV σ F N T) (hT : T + 1 ≤ 1000) : INV σ F N (T + 1) := by
  obtain ⟨⟨p0, p3, p4, p5, p6, p7⟩, hR, hO, -⟩ := h
  exact ⟨⟨p0, p3, p4, fun i hi => by obtain ⟨p, hp, e⟩ := p5 i hi; exact ⟨p, by omega, e⟩, p6, p7⟩, hR, hO, hT⟩
theorem mh_to (h : MH m aM own σ G) (hf : ∀ a, own a = 1 → G' a = G a) : MH m aM own σ G' := ⟨(hf _ h.2.2.1.1).trans h.1, fun k hk => (hf _ (h.2.2.1.2 k hk)).trans (h.2.1 k hk), h.2.2.1, h.2.2.2⟩
/-- the cell of the law's long[] and the cells of the reference -/
def OW (m o : Nat) (aM own : Nat → Nat) : Prop := own o = 2 ∧ ∀ q, own q = 1 → q = m ∨ ∃ k, marr k = true ∧ aM k = q
theorem ch_m (hOW : OW m o aM own) (h : CH E own A F σ N G) (hM : MH m aM own σ' G') (hf : Fr1 own G G') : CH E own A F σ N G' :=
  ch_to h (fun a e ha h0 => ⟨(hf a (by rw [h0]; decide)).trans ha, h0⟩) (fun q hq z => by
    by_cases e : own q = 1
    · rcases hOW.2 q e with rfl | ⟨k, hk, rfl⟩
      · rw [hM.1] at z; exact nomatch z
      · rw [hM.2.1 k hk] at z; exact nomatch z
    · rw [hf q e] at z; exact h.1 q hq z)
theorem ch_out (hOW : OW m o aM own) (h : CH E own A F σ N G) {e : HE} : CH E own A F σ N (hu G o e) :=
  ch_to h (fun a e' ha h0 => ⟨(hu_n (fun z => by rw [z, hOW.1] at h0; exact absurd h0 (by decide))).trans ha, h0⟩) (fun q hq z => by
    by_cases eq : q = o
    · rw [eq, hu_s] at z; exact nomatch z
    · rw [hu_n eq] at z; exact h.1 q hq z)
/-- between two turns: the reference at σ, the class at σ', the law's long[] as Q says -/
def TM (E : XE) (own aM : Nat → Nat) (m o x : Nat) (σ σ' : MS) (T : Nat) (Q : (Nat → Int64) → Prop) (G : HP) : Prop := MH m aM own σ G ∧ (∃ f, G o = some (hJ 1 f) ∧ Q f) ∧ ∃ A F N, CH E own A F σ' N G ∧ INV σ' F N T ∧ A 0 0 = x
theorem tm_m (hOW : OW m o aM own) (hT : TM E own aM m o x σ σ' T Q G) (hM : MH m aM own σ' G') (hF : Fr1 own G G') : TM E own aM m o x σ' σ' T Q G' := by
  obtain ⟨-, ⟨f, ho, hq⟩, A, F, N, hH, hV, hx⟩ := hT
  exact ⟨hM, ⟨f, (hF o (by rw [hOW.1]; decide)).trans ho, hq⟩, A, F, N, ch_m hOW hH hM hF, hV, hx⟩
theorem tm_bad (hM : MH m aM own σ G) {f : Nat → Int64} (ho : G o = some (hJ 1 f)) (hH : CH E own A F σ N G) (hV : INV σ F N T) (hTb : T + 1 ≤ 1000) {K : Int32} {S1 : MS} (h0 : ¬ K = 0) (hq : Q f) : TM E own aM m o (A 0 0) σ (if K = 0 then S1 else msc σ 56 K) (T + 1) Q G := by
  rw [if_neg h0]
  exact ⟨hM, ⟨f, ho, hq⟩, A, F, N, ch_56 hH, inv_T (inv_56 hV) hTb, rfl⟩
theorem tm_ok (hOW : OW m o aM own) (hM : MH m aM own σ G) {f : Nat → Int64} {S1 : MS} (hH : CH E own A F S1 N G') (hF : Fr0 own G G') (hV : INV S1 F N (T + 1)) (h0 : A 0 0 = x) {K : Int32} (hK : K = 0) {v V : Int64} (hv : v = V) : TM E own aM m o x σ (if K = 0 then S1 else msc σ 56 K) (T + 1) (fun f => K = 0 → f 0 = V) (hu G' o (hJ 1 (va_up f 0 v))) := by
  rw [if_pos hK]
  refine ⟨mh_to hM (fun a ha => ?_), ⟨_, hu_s, fun _ => up_s.trans hv⟩, A, F, N, ch_out hOW hH, hV, h0⟩
  have hao : a ≠ o := fun z => by rw [z, hOW.1] at ha; exact absurd ha (by decide)
  rw [hu_n hao]
  exact hF a (by rw [ha]; decide)
theorem tm_okV (hOW : OW m o aM own) (hM : MH m aM own σ G) {f : Nat → Int64} (ho : G o = some (hJ 1 f)) {S1 : MS} (hH : CH E own A F S1 N G') (hF : Fr0 own G G') (hV : INV S1 F N (T + 1)) (h0 : A 0 0 = x) {K : Int32} (hK : K = 0) : TM E own aM m o x σ (if K = 0 then S1 else msc σ 56 K) (T + 1) (fun _ => True) G' := by
  rw [if_pos hK]
  exact ⟨mh_to hM (fun a ha => hF a (by rw [ha]; decide)), ⟨f, (hF o (by rw [hOW.1]; decide)).trans ho, trivial⟩, A, F, N, hH, hV, h0⟩
theorem gapB_0 {s mt many : Int32} : ∀ n, gapB σ s mt many n = true → gapB σ s mt many 0 = true
  | 0, h => h
  | n + 1, h => by
    rw [gapB, Bool.and_eq_true] at h
    exact gapB_0 n h.1
theorem debt_off {i c : Nat} {y : Int32} : ∀ n, debtF (mar (zz σ) 25 c y) i n = debtF σ i n
  | 0 => rfl
  | n + 1 => by
    rw [debtF, debtF, debt_off n]
    rfl
theorem look_56 {s : Int32} : ∀ n, (lookF σ s n).1 56 = σ.1 56
  | 0 => rfl
  | n + 1 => by
    show (look1 (lookF σ s n) s n).1 56 = _
    unfold look1
    split
    · exact look_56 n
    · exact look_56 n
theorem pass_56 {nc : Nat} : ∀ n, (passF σ nc n).1 56 = σ.1 56
  | 0 => rfl
  | n + 1 => by
    show (quarF (passF σ nc n) nc).1 56 = _
    rw [quar_1 56 (by decide)]
    exact pass_56 n
theorem kt_h {d : Nat} {M : ME} {mc ms : Nat} {P : Ps} {pc : Nat} {ls : List (Option Value)} {st : List Value} {k n : Nat} {X : String} (t : Nat) (hf : HF M.1.cls pc X M.2.2.2 (some t)) (h : ∀ q, WX E d M mc ms P t ls [.ref q] G k n) : KT M P (WX E d M mc ms P) pc ls st k n (.inr X) G := Or.inr ⟨t, hf, h⟩
theorem hf_1 {nm : String} {own : String} {pc : Nat} {X : String} {s e t c : Nat} {hs : List (Nat × Nat × Nat × Nat)} (h : (decide (s ≤ pc) && decide (pc < e)) = true) (hc : c ≠ 0) (hw : tW (.classLink own c nm)) (ha : tW (.castable X nm)) : HF own pc X ((s, e, t, c) :: hs) (some t) := Or.inr ⟨h, hc, nm, hw, Or.inl ⟨ha, rfl⟩⟩
theorem hf_n {nm : String} {own : String} {pc : Nat} {X : String} {s e t c : Nat} {hs : List (Nat × Nat × Nat × Nat)} {r : Option Nat} (h : (decide (s ≤ pc) && decide (pc < e)) = true) (hc : c ≠ 0) (hw : tW (.classLink own c nm)) (hn : (X, nm) ∈ nc_list) (hr : HF own pc X hs r) : HF own pc X ((s, e, t, c) :: hs) r := Or.inr ⟨h, hc, nm, hw, Or.inr ⟨hn, hr⟩⟩
theorem wp_b01 {d : Nat} {M : ME} {mc ms : Nat} {P : Ps} {pc : Nat} {ls : List (Option Value)} {st : List Value} {k n : Nat} {y : Int32} {off1 off2 : Int} {p1 p2 L0 L1 : Nat} (d0 : decode M.2.1 pc = .ok (.ifCond .eq off1, 3)) (t0 : (pc : Int) + off1 = (L0 : Int)) (q0 : pc + 3 = p1) (d1 : decode M.2.1 p1 = .ok (.iconst 1, 1)) (q1 : p1 + 1 = p2) (d2 : decode M.2.1 p2 = .ok (.goto off2, 3)) (t2 : (p2 : Int) + off2 = (L1 : Int)) (d3 : decode M.2.1 L0 = .ok (.iconst 0, 1)) (q3 : L0 + 1 = L1) (h : WX E d M mc ms P L1 ls (.int (b2i (!decide (y = 0))) :: st) G k n) : WX E d M mc ms P pc ls (.int y :: st) G k n := by
  refine wp_if_eq L0 d0 t0 q0 (fun z => ?_) (fun z => ?_)
  · rw [decide_eq_true z] at h
    exact wp_iconst 0 d3 rfl q3 h
  · rw [decide_eq_false z] at h
    exact wp_iconst 1 d1 rfl q1 (wp_goto L1 d2 t2 h)
theorem p_thrown {d mc ms : Nat} {P : Ps} (hM : MH m aM own σ G) (hP : P (.inl (some (.int (σ.1 56)))) G) : Sp E (d + 1) yX9_thrown mc ms [.ref m] G P := by
  refine sp_intro bd_X9_thrown (v1_all rfl) (Nat.le_of_ble_eq_true rfl) ?_
  change WX _ _ _ _ _ _ 0 [some (.ref m)] [] _ 0 0
  refine wp_load (pc' := 1) (j := 0) dX9_thrown_0 rfl rfl rfl ?_
  refine wp_get (pc' := 4) dX9_thrown_1 fl_X9_149 hM.1 rfl rfl ?_
  exact wp_iret dX9_thrown_4 rfl rfl hP
end
