section HEAP
variable {p : Program} {l : Launch} {e : Env} {R : Room} {s : State} {m : MethodId} {args : Array Value} {below : List Frame} {meth : Method} {c : Code} {Q : State → Prop} {D : va_G} {c4 : C4} {A : Nat → Prop} {E : XE} {d : Nat} {M : ME} {nL mc ms : Nat}
theorem KS.w {D : va_G} {c4 : C4} {A : Nat → Prop} {E : XE} {s : State} {H : Heap} (h : KS D c4 A E s H) {w : Jvm.Cond} (hw : tW w) {args : Array Value} : w.before args s = true := kW_use hw.2 (h.1 _ hw)
theorem Rep.at {G : HP} {H : Heap} (h : Rep D c4 A G H) {a : Nat} {e : HE} (ha : G a = some e) : ∃ (ws : va_W) (k : Nat), va_P D vwCl ws H ∧ va_D A ws ∧ (∀ a e, G a = some e → ∃ k : Nat, ws[k]? = some (a, eW c4 e)) ∧ (∀ (k : Nat) (q : Nat × va_E), ws[k]? = some q → G q.1 ≠ none) ∧ ws[k]? = some (a, eW c4 e) := by
  obtain ⟨ws, h1, h2, h3, h4⟩ := h
  obtain ⟨k, hk⟩ := h3 a e ha
  exact ⟨ws, k, h1, h2, h3, h4, hk⟩
theorem s_get (C : Cx p l R s m meth c D c4 A E d M nL mc ms) : r_get M (SM p l e R s m args below meth c Q D c4 A nL mc ms) := by
  obtain ⟨hx, hb, -, -, -, ho, -, -, hK, -⟩ := C
  intro pc ls st G k n i ci kf t fin de a fs v hd hF ha hv h hk hn H locs arr hRp hL hS
  obtain ⟨q, ty, ref, ⟨c1, c2, c3, c5, -, -⟩, f1, f2, f3, -⟩ := hF
  obtain ⟨ws, q0, r1, r2, r3, r4, r5⟩ := hRp.at ha
  exact va_get (Ts := u_ws q.1 q.2.1 q.2.2) hx hb (fun w hw => hK.w (c2 w hw)) (fun _ h => h) ho hK.2.1 r1 q0 r5 c1 kf f1 (hK.w f2) (fun x hxx => by
    rcases f3 with f3 | f3
    · rw [f3]; exact hxx
    · exact u_same (hK.w (args := args) f3) x hxx) hv hd (h hk hn H locs arr hRp hL hS)
theorem s_put (C : Cx p l R s m meth c D c4 A E d M nL mc ms) : r_put M (SM p l e R s m args below meth c Q D c4 A nL mc ms) := by
  obtain ⟨hx, hb, -, -, -, ho, hnm, -, hK, -⟩ := C
  intro pc ls st G k n i ci kf t fin de a fs v hd hF hfi ha hl hn1 hn2 h hk hn H locs arr hRp hL hS
  obtain ⟨q, ty, ref, ⟨c1, c2, c3, c5, -, -⟩, f1, f2, f3, f4, f5, f6⟩ := hF
  obtain ⟨ws, q0, r1, r2, r3, r4, r5⟩ := hRp.at ha
  have hsame : ∀ x, s.fieldFound? (q.2.1 kf).1 (q.2.1 kf).2.1 (q.2.1 kf).2.2.1 = some x → s.fieldFound? ref (q.2.1 kf).2.1 (q.2.1 kf).2.2.1 = some x := fun x hxx => by
    rcases f3 with f3 | f3
    · rw [f3]; exact hxx
    · exact u_same (hK.w (args := args) f3) x hxx
  have hd9 : parseFieldDescriptor (q.2.1 kf).2.2.1 = some t := by rw [← f4]; exact c3 kf f1
  have kk : ∀ (H1 : Heap) (locs1 : List Loc), va_P D vwCl (ws.set q0 (a, .inr (ci, fs.set kf v))) H1 → va_D A (ws.set q0 (a, .inr (ci, fs.set kf v))) → va_S A s.heap H1 locs1 → W p l e R s m args below meth c H1 locs1 k n Q (F0 m (pc + 3) arr st) := fun H1 locs1 g1 g2 g3 => by
    obtain ⟨w1, w2⟩ := rep_set (e := hO ci (fs.set kf v)) r2 r3 r4 r5
    exact h hk hn H1 locs1 arr ⟨_, g1, g2, w1, w2⟩ hL g3
  rcases hfi with hfi | ⟨hfi, h7, h8⟩
  · exact va_put (Ts := u_ws q.1 q.2.1 q.2.2) hx hb (fun w hw => hK.w (c2 w hw)) (fun _ h => h) ty c3 c5 ho hK.2.1 r1 r2 hS q0 r5 c1 kf f1 (hK.w f2) hsame (by rw [f5]; exact hfi) hd9 hn1 hn2 hl hd kk
  · exact va_putF (Ts := u_ws q.1 q.2.1 q.2.2) hx hb (fun w hw => hK.w (c2 w hw)) (fun _ h => h) ty c3 c5 ho hK.2.1 r1 r2 hS q0 r5 c1 kf f1 (hK.w f2) hsame (by rw [f5]; exact hfi) (hnm.trans h7) (f6.trans h8) hd9 hn1 hn2 hl hd kk
theorem s_new (C : Cx p l R s m meth c D c4 A E d M nL mc ms) : r_new M mc ms (SM p l e R s m args below meth c Q D c4 A nL mc ms) := by
  obtain ⟨hx, hb, -, -, -, ho, hnm, -, hK, hRc, hRs, -⟩ := C
  intro pc ls st G k n i ci fs hd hF hk1 hn1 h hk hn H locs arr hRp hL hS
  obtain ⟨q, ty, ⟨c1, c2, c3, c5, c6, c7⟩, f1, f2, f3⟩ := hF
  obtain ⟨ws, r1, r2, r3, r4⟩ := hRp
  refine va_new (Ts := u_ws q.1 q.2.1 q.2.2) hx hb (fun w hw => hK.w (c2 w hw)) (fun _ h => h) ty c3 ho (hK.w f1) (hK.w c6) (hK.w c7) hK.2.1 r1 r2 hS (fun q h => hK.2.2.2.2.2.2.2.2.2.2.2.2.2 q h) c1 f2 (by rw [hRc]; exact hk1) (by rw [hRs, ← f3]; exact hn1) hd (fun a H1 g1 g2 g3 => ?_)
  rw [← f3]
  obtain ⟨w1, w2⟩ := rep_push (a := a) (e := hO ci fs) r3 r4
  exact h a (rep_none (D := D) g2 r3) hk1 hn1 H1 locs arr ⟨_, g1, g2, w1, w2⟩ hL g3
theorem arZ_spec {i : ArrayType} {N : Nat} {ee : HE} (h : arZ i N = some ee) : ∃ a0 : vp_A, (∀ cA : ClassId, vp_cell cA a0 = arrV cA N (fun _ => defaultValue (newarray.typeOf i))) ∧ (∃ (t0 : Nat) (cA : ClassId), (ty4 c4)[t0]? = some (cA, newarray.typeOf i) ∧ eW c4 ee = .inl (cA, a0)) ∧ componentBytes (newarray.typeOf i) ≤ 8 := by
  cases i <;> simp only [arZ] at h <;> first | cases h | skip
  · exact ⟨(N, .inl (fun _ => 0)), fun _ => rfl, ⟨1, _, rfl, rfl⟩, by decide⟩
  · exact ⟨(N, .inl (fun _ => 0)), fun _ => rfl, ⟨0, _, rfl, rfl⟩, by decide⟩
theorem s_newA (C : Cx p l R s m meth c D c4 A E d M nL mc ms) : r_newA M mc ms (SM p l e R s m args below meth c Q D c4 A nL mc ms) := by
  obtain ⟨hx, hb, -, -, -, ho, hnm, -, hK, hRc, hRs, -⟩ := C
  intro pc ls st G k n i x N ee hd hw ha h0 hN hbig hk1 hn1 h hk hn H locs arr hRp hL hS
  obtain ⟨ws, r1, r2, r3, r4⟩ := hRp
  obtain ⟨a0, g1, ⟨t0, cA, g2, g3⟩, g4⟩ := arZ_spec (c4 := c4) ha
  have hbytes : N * componentBytes (newarray.typeOf i) ≤ 536870912 := Nat.le_trans (Nat.mul_le_mul hbig g4) (by decide)
  refine va_newa hx hb (hK.w hw) rfl hK.2.1 r1 r2 hS (fun q h => hK.2.2.2.2.2.2.2.2.2.2.2.2.2 q h) g1 h0 hN hbytes (by rw [hRc]; exact hk1) (by rw [hRs]; exact hn1) hd (fun a cB H1 k1 k2 k3 k4 => ?_)
  have hc : cB = cA := by
    have e1 := (k1.2 (ty4 c4).length (cB, newarray.typeOf i) (by rw [List.getElem?_append_right (Nat.le_refl _), Nat.sub_self]; rfl)).2
    have e2 := (hK.2.1.2 t0 _ g2).2
    cases i <;> simp only [arZ] at ha <;> first | cases ha | skip
    all_goals exact Option.some.inj (Eq.trans (Eq.symm e1) e2)
  subst hc
  obtain ⟨w1, w2⟩ := rep_push (a := a) (e := ee) r3 r4
  rw [g3] at w1 w2
  exact h a (rep_none (D := D) k3 r3) hk1 hn1 H1 locs arr ⟨_, k2, k3, w1, w2⟩ hL k4
theorem s_newO (C : Cx p l R s m meth c D c4 A E d M nL mc ms) : r_newO M mc ms (SM p l e R s m args below meth c Q D c4 A nL mc ms) := by
  obtain ⟨hx, hb, -, -, -, ho, hnm, -, hK, hRc, hRs, -⟩ := C
  intro pc ls st G k n i x N hd hw h0 hN hbig hk1 hn1 h hk hn H locs arr hRp hL hS
  obtain ⟨ws, r1, r2, r3, r4⟩ := hRp
  refine va_newq hx hb ho (hK.w hw) hK.2.2.2.2.2.2.2.2.1 hK.2.1 r1 r2 hS (fun q h => hK.2.2.2.2.2.2.2.2.2.2.2.2.2 q h) h0 hN (by omega) (by rw [hRc]; exact hk1) (by rw [hRs]; exact hn1) hd (fun a cB H1 k1 k2 k3 k4 => ?_)
  have hc : cB = c4.2.2.2 := by
    obtain ⟨kA, co, -, -, -, e1⟩ := (k1.2 (ty4 c4).length (cB, .object "java/lang/Object") (by rw [List.getElem?_append_right (Nat.le_refl _), Nat.sub_self]; rfl)).2
    obtain ⟨kA2, co2, -, -, -, e2⟩ := (hK.2.1.2 3 (c4.2.2.2, .object "java/lang/Object") rfl).2
    exact Option.some.inj (e1.symm.trans e2)
  subst hc
  obtain ⟨w1, w2⟩ := rep_push (a := a) (e := hR N (fun _ => none)) r3 r4
  exact h a (rep_none (D := D) k3 r3) hk1 hn1 H1 locs arr ⟨_, k2, k3, w1, w2⟩ hL k4
theorem s_iald (C : Cx p l R s m meth c D c4 A E d M nL mc ms) : r_iald M (SM p l e R s m args below meth c Q D c4 A nL mc ms) := by
  obtain ⟨hx, hb, -, -, -, ho, -, -, hK, -⟩ := C
  intro pc ls st G k n a N f i hd ha hi h hk hn H locs arr hRp hL hS
  obtain ⟨ws, q0, r1, r2, r3, r4, r5⟩ := hRp.at ha
  exact va_iald hx hb hK.2.1 r1 q0 0 r5 rfl hi hd (h hk hn H locs arr hRp hL hS)
theorem s_zald (C : Cx p l R s m meth c D c4 A E d M nL mc ms) : r_zald M (SM p l e R s m args below meth c Q D c4 A nL mc ms) := by
  obtain ⟨hx, hb, -, -, -, ho, -, -, hK, -⟩ := C
  intro pc ls st G k n a N f i hd ha hi h hk hn H locs arr hRp hL hS
  obtain ⟨ws, q0, r1, r2, r3, r4, r5⟩ := hRp.at ha
  exact va_zald hx hb hK.2.1 r1 q0 1 r5 rfl hi hd (h hk hn H locs arr hRp hL hS)
theorem s_lald (C : Cx p l R s m meth c D c4 A E d M nL mc ms) : r_lald M (SM p l e R s m args below meth c Q D c4 A nL mc ms) := trivial
theorem s_aald (C : Cx p l R s m meth c D c4 A E d M nL mc ms) : r_aald M (SM p l e R s m args below meth c Q D c4 A nL mc ms) := by
  obtain ⟨hx, hb, -, -, -, ho, -, -, hK, -⟩ := C
  intro pc ls st G k n a N f i hd ha hi h hk hn H locs arr hRp hL hS
  obtain ⟨ws, q0, r1, r2, r3, r4, r5⟩ := hRp.at ha
  exact va_aldq hx hb hK.2.1 r1 q0 3 r5 rfl hi hd (h hk hn H locs arr hRp hL hS)
theorem s_iast (C : Cx p l R s m meth c D c4 A E d M nL mc ms) : r_iast M (SM p l e R s m args below meth c Q D c4 A nL mc ms) := by
  obtain ⟨hx, hb, -, -, -, ho, -, -, hK, -⟩ := C
  intro pc ls st G k n a N f i x hd ha hi h hk hn H locs arr hRp hL hS
  obtain ⟨ws, q0, r1, r2, r3, r4, r5⟩ := hRp.at ha
  refine va_iast hx hb hK.2.1 r1 r2 hS q0 0 r5 rfl hi hd (fun H1 locs1 g1 g2 g3 => ?_)
  obtain ⟨w1, w2⟩ := rep_set (e := hI N (va_up f i.toNatClampNeg x)) r2 r3 r4 r5
  exact h hk hn H1 locs1 arr ⟨_, g1, g2, w1, w2⟩ hL g3
theorem s_zast (C : Cx p l R s m meth c D c4 A E d M nL mc ms) : r_zast M (SM p l e R s m args below meth c Q D c4 A nL mc ms) := by
  obtain ⟨hx, hb, -, -, -, ho, -, -, hK, -⟩ := C
  intro pc ls st G k n a N f i x hd ha hi hz h hk hn H locs arr hRp hL hS
  obtain ⟨ws, q0, r1, r2, r3, r4, r5⟩ := hRp.at ha
  refine va_zast hx hb hK.2.1 r1 r2 hS q0 1 r5 rfl hi hd (fun H1 locs1 g1 g2 g3 => ?_)
  rw [hz] at g1 g2
  obtain ⟨w1, w2⟩ := rep_set (e := hZ N (va_up f i.toNatClampNeg x)) r2 r3 r4 r5
  exact h hk hn H1 locs1 arr ⟨_, g1, g2, w1, w2⟩ hL g3
theorem s_last (C : Cx p l R s m meth c D c4 A E d M nL mc ms) : r_last M (SM p l e R s m args below meth c Q D c4 A nL mc ms) := trivial
theorem s_aast (C : Cx p l R s m meth c D c4 A E d M nL mc ms) : r_aast M (SM p l e R s m args below meth c Q D c4 A nL mc ms) := by
  obtain ⟨hx, hb, -, -, -, ho, -, -, hK, -⟩ := C
  intro pc ls st G k n a N f i b ci fs q hd ha hi hbb hc hca h hk hn H locs arr hRp hL hS
  obtain ⟨ws, q0, r1, r2, r3, r4, r5⟩ := hRp.at ha
  obtain ⟨qk, r6⟩ := r3 b _ hbb
  refine va_astqO hx hb hK.2.1 r1 r2 hS q0 3 qk ci r5 rfl (hK.1 _ hca) r6 hc hi hd (fun H1 locs1 g1 g2 g3 => ?_)
  obtain ⟨w1, w2⟩ := rep_set (e := hR N (va_up f i.toNatClampNeg (some b))) r2 r3 r4 r5
  exact h hk hn H1 locs1 arr ⟨_, g1, g2, w1, w2⟩ hL g3
end HEAP
