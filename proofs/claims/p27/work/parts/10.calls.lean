/-! calls, ends, and the soundness of the whole -/
theorem HF_none {own : String} {pc : Nat} {X : String} {hh : List (Nat × Nat × Nat × Nat)} (h : HF own pc X hh none) : ∀ z ∈ tableOf hh, covers z pc = false ∨ (z.catchType ≠ 0 ∧ ∃ nm : String, tW (.classLink own z.catchType nm) ∧ (X, nm) ∈ nc_list) := by
  induction hh with
  | nil => intro z hz; cases hz
  | cons q hs ih =>
    intro z hz
    rcases h with ⟨h1, h2⟩ | ⟨h1, h2, nm, h3, h4⟩
    · rcases List.mem_cons.mp hz with rfl | hz
      · exact Or.inl h1
      · exact ih h2 z hz
    · rcases h4 with ⟨-, h4⟩ | ⟨h4, h5⟩
      · cases h4
      · rcases List.mem_cons.mp hz with rfl | hz
        · exact Or.inr ⟨h2, nm, h3, h4⟩
        · exact ih h5 z hz
theorem HF_some {own : String} {pc : Nat} {X : String} {hh : List (Nat × Nat × Nat × Nat)} {t : Nat} (h : HF own pc X hh (some t)) : ∃ (pre : List ExceptionTableEntry) (x : ExceptionTableEntry) (suf : List ExceptionTableEntry), tableOf hh = pre ++ x :: suf ∧
    (∀ z ∈ pre, covers z pc = false ∨ (z.catchType ≠ 0 ∧ ∃ nm : String, tW (.classLink own z.catchType nm) ∧ (X, nm) ∈ nc_list)) ∧ covers x pc = true ∧ x.catchType ≠ 0 ∧ x.handlerPc = t ∧ ∃ nm : String, tW (.classLink own x.catchType nm) ∧ tW (.castable X nm) := by
  induction hh with
  | nil => cases h
  | cons q hs ih =>
    rcases h with ⟨h1, h2⟩ | ⟨h1, h2, nm, h3, h4⟩
    · obtain ⟨pre, x, suf, g1, g2, g3⟩ := ih h2
      refine ⟨⟨q.1, q.2.1, q.2.2.1, q.2.2.2⟩ :: pre, x, suf, by rw [List.cons_append, ← g1]; rfl, fun z hz => ?_, g3⟩
      rcases List.mem_cons.mp hz with rfl | hz
      · exact Or.inl h1
      · exact g2 z hz
    · rcases h4 with ⟨h4, h5⟩ | ⟨h4, h5⟩
      · cases h5
        exact ⟨[], ⟨q.1, q.2.1, q.2.2.1, q.2.2.2⟩, tableOf hs, rfl, (fun z hz => by cases hz), h1, h2, rfl, nm, h3, h4⟩
      · obtain ⟨pre, x, suf, g1, g2, g3⟩ := ih h5
        refine ⟨⟨q.1, q.2.1, q.2.2.1, q.2.2.2⟩ :: pre, x, suf, by rw [List.cons_append, ← g1]; rfl, fun z hz => ?_, g3⟩
        rcases List.mem_cons.mp hz with rfl | hz
        · exact Or.inr ⟨h2, nm, h3, h4⟩
        · exact g2 z hz
def rmOf (d mc ms : Nat) : Room := { frames := d, cells := mc, slots := ms, locals := 31 * d }
def PcOf (D : va_G) (c4 : C4) (A : Nat → Prop) (E : XE) (as : List Value) (G : HP) : Array Value → State → Prop := va_Pc as (fun U => KS D c4 A E U U.heap ∧ Rep D c4 A G U.heap)
def QcOf (D : va_G) (c4 : C4) (A : Nat → Prop) (P : Ps) : Array Value → State → Outcome → State → Prop := fun _ st o t => ∃ (v : Option Value) (G' : HP), o = .returned v ∧ P (.inl v) G' ∧ Rep D c4 A G' t.heap ∧ va_F A st t
def XcOf (D : va_G) (c4 : C4) (A : Nat → Prop) (P : Ps) : String → State → State → Prop := fun X st t => ∃ G' : HP, P (.inr X) G' ∧ Rep D c4 A G' t.heap ∧ va_F A st t
/-- a method's contract over the machine -/
def MetOK (l : Launch) (D : va_G) (c4 : C4) (A : Nat → Prop) (E : XE) (d : Nat) : SPt := fun y mc ms as G P => ∃ cc maxL ret hh, Body y cc maxL ret hh ∧ vx_Met l y [codeW y cc maxL ret hh] (rmOf d mc ms) (PcOf D c4 A E as G) (QcOf D c4 A P) (XcOf D c4 A P) mc ms A
section CALLS
variable {p : Program} {l : Launch} {e : Env} {R : Room} {s : State} {m : MethodId} {args : Array Value} {below : List Frame} {meth : Method} {c : Code} {Q : State → Prop} {D : va_G} {c4 : C4} {A : Nat → Prop} {E : XE} {d : Nat} {M : ME} {nL mc ms : Nat} {P : Ps} {Φ : SPt}
/-- what the end of a body owes when something flies out of it -/
def HOut (p : Program) (l : Launch) (e : Env) (R : Room) (s : State) (m : MethodId) (args : Array Value) (below : List Frame) (meth : Method) (c : Code) (Q : State → Prop) (D : va_G) (c4 : C4) (A : Nat → Prop) (M : ME) (mc ms : Nat) (P : Ps) : Prop :=
  ∀ (pc k n : Nat) (arr : Array Slot) (rest : List Value) (G : HP) (X : String) (q : Addr) (ce : Cell) (H : Heap) (locs : List Loc), HF M.1.cls pc X M.2.2.2 none → P (.inr X) G → k ≤ mc → n ≤ ms → Rep D c4 A G H → va_S A s.heap H locs → H[q]? = some ce → ce.vm = .none → s.vm.findClass X = some ce.cls → vx_W p l e R s m args below meth c H locs k n Q (F0 m pc arr rest) q
theorem call_go (C : Cx p l R s m meth c D c4 A E d M nL mc ms) (hO : HOut p l e R s m args below meth c Q D c4 A M mc ms P) {pc : Nat} {ls : List (Option Value)} {rest st0 : List Value} {k n mc' ms' : Nat} {H : Heap} {locs : List Loc} {arr : Array Slot} {a : Array Value} (hk : k + mc' ≤ mc) (hn : n + ms' ≤ ms) (hL : LR arr nL ls) (hS : va_S A s.heap H locs)
    (hr : vx_Run p l e R s m args below meth c H locs k n mc' ms' (F0 m pc arr st0) rest (QcOf D c4 A (KT M P (SM p l e R s m args below meth c Q D c4 A nL mc ms) pc ls rest (k + mc') (n + ms')) a) (XcOf D c4 A (KT M P (SM p l e R s m args below meth c Q D c4 A nL mc ms) pc ls rest (k + mc') (n + ms'))) A) :
    W p l e R s m args below meth c H locs k n Q (F0 m pc arr st0) := by
  obtain ⟨hx, hb, -, -, hlk, ho, -, htb, hK, -⟩ := C
  intro T hT X
  rcases hr T hT X with ⟨v, st₀, t, T', L, h0, X', hL', e1, e2, ⟨v', G', hv, hP, hRp, hF⟩, st⟩ | ⟨q, st₀, t, T', L, X0, ce, h0, X', hL', e1, e2, ⟨G', hP, hRp, hF⟩, hce, hcv, hcl, st⟩
  · cases hv
    obtain ⟨k1, k2, k3⟩ := vx_keep h0 e1 hS (fun _ _ h => h) (fun _ h => h) hL' hF
    obtain ⟨t2, a1, b1⟩ := hP hk hn T'.heap (locs ++ L) arr (by rw [e1]; exact hRp) hL k3 T' rfl X'
    exact ⟨t2, st t2 a1, b1⟩
  · obtain ⟨k1, k2, k3⟩ := vx_keep h0 e1 hS (fun _ _ h => h) (fun _ h => h) hL' hF
    rcases hP with ⟨g1, g2⟩ | ⟨hd, g1, g2⟩
    · obtain ⟨t2, a1, b1⟩ := hO pc (k + mc') (n + ms') arr rest G' X0 q ce T'.heap (locs ++ L) g1 g2 hk hn (by rw [e1]; exact hRp) k3 (by rw [e1]; exact hce) hcv hcl T' rfl X'
      exact ⟨t2, st.trans a1, b1⟩
    · obtain ⟨pre, x, suf, f1, f2, f3, f4, f5, nm, f6, f7⟩ := HF_some g1
      have K := g2 q hk hn T'.heap (locs ++ L) arr (by rw [e1]; exact hRp) hL k3
      rw [← f5] at K
      obtain ⟨t2, a1, b1⟩ := vx_catch (rest := rest) ho pre x suf (htb.trans f1) (fun z hz => by
        rcases f2 z hz with h | ⟨h1, nm2, h2, h3⟩
        · exact Or.inl h
        · exact Or.inr ⟨h1, nm2, hK.w h2, hK.2.2.2.2.2.2.2.2.2.1 (X0, nm2) h3⟩) f3 f4 (hK.w f6) (hK.w f7) (by rw [e1]; exact hce) hcv hcl K T' rfl X'
      exact ⟨t2, st.trans a1, b1⟩
theorem pcOf_blind {as : List Value} {G : HP} : FrameBlind (PcOf D c4 A E as G) := fun a U g mk h => ⟨h.1, KS.moved (s := U) (State.WarmedH.refl U) (Nat.le_refl _) (fun _ _ _ => rfl) h.2.1, h.2.2⟩
theorem pcOf_at (C : Cx p l R s m meth c D c4 A E d M nL mc ms) {as : List Value} {G : HP} {H : Heap} {locs : List Loc} (hRp : Rep D c4 A G H) (hS : va_S A s.heap H locs) (U : State) (hU : U.heap = H) (hW : s.WarmedH U.vm) : PcOf D c4 A E as G as.toArray U := by
  obtain ⟨-, -, -, -, -, -, -, -, hK, -⟩ := C
  refine ⟨rfl, ?_, by rw [hU]; exact hRp⟩
  rw [hU]
  exact KS.moved hW hS.1 hS.2.1 hK
theorem codeW_warm {y : MethodName} {cc : ByteArray} {maxL : Nat} {ret : Option FieldType} {hh : List (Nat × Nat × Nat × Nat)} (hB : Body y cc maxL ret hh) (hb : (codeW y cc maxL ret hh).before #[] s = true) : ∀ w ∈ [codeW y cc maxL ret hh], ∀ (a' : Array Value) (U : State), s.WarmedH U.vm → w.before a' U = true := by
  intro w hw a' U hW
  rcases List.mem_cons.mp hw with rfl | hw
  · exact kW_use hB.1.2 (kW_warm hB.1.2 hW hb)
  · cases hw
theorem nmh_len {y : MethodName} {n : Nat} (h : nmh y n) : ∀ sig, parseMethodDescriptor y.desc = some sig → n = sig.parameters.length := fun sig hs => by
  have h2 := h.2
  rw [hs] at h2
  exact (Option.some.inj h2).symm
theorem s_invS (hΦ : ∀ y mc ms as G P, Φ y mc ms as G P → MetOK l D c4 A E d y mc ms as G P) (C : Cx p l R s m meth c D c4 A E d M nL mc ms) (hO : HOut p l e R s m args below meth c Q D c4 A M mc ms P) : r_invS Φ M mc ms P (SM p l e R s m args below meth c Q D c4 A nL mc ms) := by
  intro pc ls st G k n i y as mc' ms' hd hcl hst hk1 hn1 hf hk hn H locs arr hRp hL hS
  obtain ⟨hx, hb, -, hml, -, ho, -, -, hK, hRc, hRs, hfr, hlo, -⟩ := id C
  obtain ⟨cc, maxL, ret, hh, hB, hM⟩ := hΦ _ _ _ _ _ _ hf
  have hcw := codeW_warm (s := s) hB (hK.1 _ hB.1)
  have hlc : 8 + (maxL + 11) + (rmOf d mc' ms').locals ≤ R.locals := by show 8 + (maxL + 11) + 31 * d ≤ _; have := hB.2.2.1; omega
  have hst' : 2 * (F0 m pc arr (as.reverse ++ st)).monitorRoom + (st.map fun v => v.category).sum ≤ 8 := lv_room hst
  refine call_go C hO hk1 hn1 hL hS (a := as.toArray) (rest := st) ?_
  cases hh with
  | nil =>
    rcases hcl with ⟨h1, h2, h3, h4⟩ | ⟨h1, ⟨host, h2⟩, h3, h4, -⟩
    · exact vx_runS (own := M.1.cls) (Ts := []) ⟨hx, hb, hml, ho, fun _ h => nomatch h⟩ hM ⟨⟨rfl, rfl, hfr, hlc, hcw, List.mem_cons_self, hK.w hB.1, hK.w h4, h1.1, nmh_len h1, hK.w h2⟩, hK.w h3⟩ ⟨pcOf_blind, pcOf_at C hRp hS⟩ rfl rfl hL.2.1 rfl hst' hd ⟨by rw [hRc]; exact hk1, by rw [hRs]; exact hn1⟩
    · exact vx_runSN (own := M.1.cls) (Ts := []) ⟨hx, hb, hml, ho, fun _ h => nomatch h⟩ hM ⟨⟨⟨rfl, rfl, hfr, hlc, hcw, List.mem_cons_self⟩, hK.w hB.1, hK.w h4, h1.1, nmh_len h1, hK.w h2⟩, hK.w h3, trivial⟩ ⟨pcOf_blind, pcOf_at C hRp hS⟩ rfl rfl hL.2.1 rfl hst' hd ⟨by rw [hRc]; exact hk1, by rw [hRs]; exact hn1⟩
  | cons q hs =>
    rcases hcl with ⟨h1, h2, h3, h4⟩ | ⟨h1, ⟨host, h2⟩, h3, h4, h5⟩
    · exact vx_runSX (hh := q :: hs) (own := M.1.cls) (Ts := []) ⟨hx, hb, hml, ho, fun _ h => nomatch h⟩ hM ⟨⟨rfl, rfl, hfr, hlc, hcw, List.mem_cons_self⟩, hK.w hB.1, hK.w h4, h1.1, nmh_len h1, hK.w h2, hK.w h3⟩ ⟨pcOf_blind, pcOf_at C hRp hS⟩ rfl rfl hL.2.1 rfl hst' hd ⟨by rw [hRc]; exact hk1, by rw [hRs]; exact hn1⟩
    · rcases hB.2.2.2.1 with h | h
      · cases h
      · exact absurd h h5
theorem s_invV (hΦ : ∀ y mc ms as G P, Φ y mc ms as G P → MetOK l D c4 A E d y mc ms as G P) (C : Cx p l R s m meth c D c4 A E d M nL mc ms) (hO : HOut p l e R s m args below meth c Q D c4 A M mc ms P) : r_invV Φ M mc ms P (SM p l e R s m args below meth c Q D c4 A nL mc ms) := by
  intro pc ls st G k n i y b as mc' ms' ci fs hd hcl hbb hst hk1 hn1 hf hk hn H locs arr hRp hL hS
  obtain ⟨hx, hb, -, hml, -, ho, -, -, hK, hRc, hRs, hfr, hlo, -⟩ := id C
  obtain ⟨cc, maxL, ret, hh, hB, hM⟩ := hΦ _ _ _ _ _ _ hf
  have hcw := codeW_warm (s := s) hB (hK.1 _ hB.1)
  have hlc : 8 + (maxL + 11) + (rmOf d mc' ms').locals ≤ R.locals := by show 8 + (maxL + 11) + 31 * d ≤ _; have := hB.2.2.1; omega
  have hst' : 2 * (F0 m pc arr (as.reverse ++ .ref b :: st)).monitorRoom + (st.map fun v => v.category).sum ≤ 8 := lv_room hst
  refine call_go C hO hk1 hn1 hL hS (a := (Value.ref b :: as).toArray) (rest := st) ?_
  obtain ⟨h1, h2, h3, h4, h5, q, hq, h6⟩ := hcl
  obtain ⟨ws, q0, r1, r2, r3, r4, r5⟩ := hRp.at hbb
  rcases hB.2.2.2.1 with rfl | h
  · exact vx_runV (own := M.1.cls) (Ts := []) ⟨hx, hb, hml, ho, fun _ h => nomatch h⟩ hM ⟨⟨rfl, rfl, hfr, hlc, hcw, List.mem_cons_self, hK.w hB.1, hK.w h4, h1.1, nmh_len h1, hK.w h2⟩, hK.w h3, hK.w h6⟩ ⟨pcOf_blind, va_recv hK.2.1 r1 hq r5, pcOf_at C hRp hS⟩ rfl rfl hL.2.1 rfl hst' hd ⟨by rw [hRc]; exact hk1, by rw [hRs]; exact hn1⟩
  · exact absurd h h5
theorem s_invI (hΦ : ∀ y mc ms as G P, Φ y mc ms as G P → MetOK l D c4 A E d y mc ms as G P) (C : Cx p l R s m meth c D c4 A E d M nL mc ms) (hO : HOut p l e R s m args below meth c Q D c4 A M mc ms P) : r_invI Φ M mc ms P (SM p l e R s m args below meth c Q D c4 A nL mc ms) := by
  intro pc ls st G k n i y b as mc' ms' hd hcl hst hk1 hn1 hf hk hn H locs arr hRp hL hS
  obtain ⟨hx, hb, -, hml, -, ho, -, -, hK, hRc, hRs, hfr, hlo, -⟩ := id C
  obtain ⟨cc, maxL, ret, hh, hB, hM⟩ := hΦ _ _ _ _ _ _ hf
  have hcw := codeW_warm (s := s) hB (hK.1 _ hB.1)
  have hlc : 8 + (maxL + 11) + (rmOf d mc' ms').locals ≤ R.locals := by show 8 + (maxL + 11) + 31 * d ≤ _; have := hB.2.2.1; omega
  have hst' : 2 * (F0 m pc arr (as.reverse ++ .ref b :: st)).monitorRoom + (st.map fun v => v.category).sum ≤ 8 := lv_room hst
  refine call_go C hO hk1 hn1 hL hS (a := (Value.ref b :: as).toArray) (rest := st) ?_
  have hhn : hh = [] := by
    rcases hB.2.2.2.1 with h | h
    · exact h
    · rcases hcl with ⟨-, -, -, -, h5, -⟩ | ⟨-, -, -, -, h5, -⟩ <;> exact absurd h h5
  subst hhn
  rcases hcl with ⟨h1, h2, h3, h4, h5, h6⟩ | ⟨h1, ⟨host, h2⟩, h3, h4, h5, h6⟩
  · have hrn := hB.2.2.2.2 h6
    subst hrn
    exact vx_runI (own := M.1.cls) (Ts := []) ⟨hx, hb, hml, ho, fun _ h => nomatch h⟩ hM ⟨⟨rfl, rfl, hfr, hlc, hcw, List.mem_cons_self, hK.w hB.1, hK.w h4, h1.1, nmh_len h1, hK.w h2⟩, h6, hK.w h3⟩ ⟨pcOf_blind, pcOf_at C hRp hS⟩ rfl rfl hL.2.1 rfl hst' hd ⟨by rw [hRc]; exact hk1, by rw [hRs]; exact hn1⟩
  · have hrn := hB.2.2.2.2 h6
    subst hrn
    exact vx_runIN (own := M.1.cls) (Ts := []) ⟨hx, hb, hml, ho, fun _ h => nomatch h⟩ hM ⟨⟨⟨rfl, rfl, hfr, hlc, hcw, List.mem_cons_self⟩, hK.w hB.1, hK.w h4, h1.1, nmh_len h1, hK.w h2⟩, h6, hK.w h3⟩ ⟨pcOf_blind, pcOf_at C hRp hS⟩ rfl rfl hL.2.1 rfl hst' hd ⟨by rw [hRc]; exact hk1, by rw [hRs]; exact hn1⟩
theorem s_obj (C : Cx p l R s m meth c D c4 A E d M nL mc ms) : r_obj M (SM p l e R s m args below meth c Q D c4 A nL mc ms) := by
  obtain ⟨hx, hb, -, hml, -, ho, -, -, hK, hRc, hRs, hf, hlo, -⟩ := C
  intro pc ls st G k n i a hd hw hst h hk hn H locs arr hRp hL hS
  refine W.objInit (g := F0 m pc arr (.ref a :: st)) (a := a) (rest := st) hx hb ho (hK.w hw) (hK.w tw_oi1) (hK.w tw_oi2) rfl (hL.2.1.trans hml.symm) rfl hd (by omega) ?_ (h hk hn H locs arr hRp hL hS)
  have : 2 * (F0 m pc arr (.ref a :: st)).monitorRoom + (st.map fun v => v.category).sum ≤ 8 := lv_room hst
  omega
-- the ends
def HRet (p : Program) (l : Launch) (e : Env) (R : Room) (s : State) (m : MethodId) (args : Array Value) (below : List Frame) (meth : Method) (c : Code) (Q : State → Prop) (D : va_G) (c4 : C4) (A : Nat → Prop) (M : ME) (mc ms : Nat) (P : Ps) : Prop :=
  ∀ (pc k n : Nat) (arr : Array Slot) (G : HP) (H : Heap) (locs : List Loc), k ≤ mc → n ≤ ms → Rep D c4 A G H → va_S A s.heap H locs →
    (∀ (v : Int32) (ty : FieldType), decode M.2.1 pc = .ok (.ireturn, 1) → M.2.2.1 = some ty → narrow ty (.int v) = .int v → P (.inl (some (.int v))) G → W p l e R s m args below meth c H locs k n Q (F0 m pc arr [.int v])) ∧
    (∀ (v : Value) (rt : FieldType), decode M.2.1 pc = .ok (.areturn, 1) → M.2.2.1 = some rt → ((∃ n, rt = .object n) ∨ ∃ t, rt = .array t) → (v = .null ∨ ∃ a, v = .ref a) → P (.inl (some v)) G → W p l e R s m args below meth c H locs k n Q (F0 m pc arr [v])) ∧
    (decode M.2.1 pc = .ok (.return_, 1) → M.2.2.1 = none → P (.inl none) G → W p l e R s m args below meth c H locs k n Q (F0 m pc arr []))
theorem s_iret (hr : HRet p l e R s m args below meth c Q D c4 A M mc ms P) : r_iret M P (SM p l e R s m args below meth c Q D c4 A nL mc ms) := by
  intro pc ls G k n v ty hd h1 h2 hP hk hn H locs arr hRp hL hS
  exact (hr pc k n arr G H locs hk hn hRp hS).1 v ty hd h1 h2 hP
theorem s_aret (hr : HRet p l e R s m args below meth c Q D c4 A M mc ms P) : r_aret M P (SM p l e R s m args below meth c Q D c4 A nL mc ms) := by
  intro pc ls G k n v ty hd h1 h2 h3 hP hk hn H locs arr hRp hL hS
  exact (hr pc k n arr G H locs hk hn hRp hS).2.1 v ty hd h1 h2 h3 hP
theorem s_vret (hr : HRet p l e R s m args below meth c Q D c4 A M mc ms P) : r_vret M P (SM p l e R s m args below meth c Q D c4 A nL mc ms) := by
  intro pc ls G k n hd h1 hP hk hn H locs arr hRp hL hS
  exact (hr pc k n arr G H locs hk hn hRp hS).2.2 hd h1 hP
/-- THE SOUNDNESS -/
theorem wp_sound (hΦ : ∀ y mc ms as G P, Φ y mc ms as G P → MetOK l D c4 A E d y mc ms as G P) (C : Cx p l R s m meth c D c4 A E d M nL mc ms) (hO : HOut p l e R s m args below meth c Q D c4 A M mc ms P) (hr : HRet p l e R s m args below meth c Q D c4 A M mc ms P)
    (ht : r_thr d M mc ms P (SM p l e R s m args below meth c Q D c4 A nL mc ms)) {pc : Nat} {ls : List (Option Value)} {st : List Value} {G : HP} {k n : Nat} (h : WP E Φ d M mc ms P pc ls st G k n) : SM p l e R s m args below meth c Q D c4 A nL mc ms pc ls st G k n :=
  h _ (s_xr1 C) (s_xr2 C) ⟨s_invS hΦ C hO, s_invV hΦ C hO, s_invI hΦ C hO, s_obj C, s_iret hr, s_aret hr, s_vret hr, ht⟩
end CALLS
