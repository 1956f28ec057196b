/-! fixed words -/
theorem tw_gc1 : tW (.declares ⟨"java/lang/Object", "getClass", "()Ljava/lang/Class;"⟩) := ⟨List.mem_of_getElem? (i := 899) (by decide +kernel), by decide +kernel⟩
theorem tw_gc2 : tW (.selects "[Ljava/lang/Object;" ⟨"java/lang/Object", "getClass", "()Ljava/lang/Class;"⟩ ⟨"java/lang/Object", "getClass", "()Ljava/lang/Class;"⟩) := ⟨List.mem_of_getElem? (i := 898) (by decide +kernel), by decide +kernel⟩
theorem tw_gc3 : tW (.instanceMethod ⟨"java/lang/Object", "getClass", "()Ljava/lang/Class;"⟩) := ⟨List.mem_of_getElem? (i := 171) (by decide +kernel), by decide +kernel⟩
theorem tw_gc4 : tW (.native ⟨"java/lang/Object", "getClass", "()Ljava/lang/Class;"⟩) := ⟨List.mem_of_getElem? (i := 186) (by decide +kernel), by decide +kernel⟩
theorem tw_ac1 : tW (.native arraycopyName) := ⟨List.mem_of_getElem? (i := 198) (by decide +kernel), by decide +kernel⟩
theorem tw_ac2 : tW (.static arraycopyName) := ⟨List.mem_of_getElem? (i := 197) (by decide +kernel), by decide +kernel⟩
theorem tw_ac3 : tW (.initialized "java/lang/System") := ⟨List.mem_of_getElem? (i := 34) (by decide +kernel), by decide +kernel⟩
theorem tw_mx1 : tW (.static Lib.Math.max.name) := ⟨List.mem_of_getElem? (i := 161) (by decide +kernel), by decide +kernel⟩
theorem tw_mx2 : tW (.initialized "java/lang/Math") := ⟨List.mem_of_getElem? (i := 32) (by decide +kernel), by decide +kernel⟩
theorem tw_mx3 : tW (.code Lib.Math.max.name Lib.Math.max.code 2 (some .int)) := ⟨List.mem_of_getElem? (i := 162) (by decide +kernel), by decide +kernel⟩
theorem tw_mn1 : tW (.static Lib.Math.min.name) := ⟨List.mem_of_getElem? (i := 194) (by decide +kernel), by decide +kernel⟩
theorem tw_mn3 : tW (.code Lib.Math.min.name Lib.Math.min.code 2 (some .int)) := ⟨List.mem_of_getElem? (i := 195) (by decide +kernel), by decide +kernel⟩
theorem tw_oi1 : tW (.instanceMethod Lib.objectInit) := ⟨List.mem_of_getElem? (i := 55) (by decide +kernel), by decide +kernel⟩
theorem tw_oi2 : tW (.code Lib.objectInit ⟨#[0xb1]⟩ 1 none) := ⟨List.mem_of_getElem? (i := 56) (by decide +kernel), by decide +kernel⟩
section HEAP2
variable {p : Program} {l : Launch} {e : Env} {R : Room} {s : State} {m : MethodId} {args : Array Value} {below : List Frame} {meth : Method} {c : Code} {Q : State → Prop} {D : va_G} {c4 : C4} {A : Nat → Prop} {E : XE} {d : Nat} {M : ME} {nL mc ms : Nat}
theorem s_alen (C : Cx p l R s m meth c D c4 A E d M nL mc ms) : r_alen M (SM p l e R s m args below meth c Q D c4 A nL mc ms) := by
  obtain ⟨hx, hb, -, -, -, ho, -, -, hK, -⟩ := C
  intro pc ls st G k n a ee N hd ha hN h hk hn H locs arr hRp hL hS
  obtain ⟨ws, q0, r1, r2, r3, r4, r5⟩ := hRp.at ha
  have K := h hk hn H locs arr hRp hL hS
  rcases ee with o | ⟨n1, f⟩ | ⟨n1, f⟩ | ⟨n1, f⟩ | ⟨n1, f⟩
  · cases hN
  · cases hN; exact va_alen hx hb hK.2.1 r1 q0 0 r5 (ty := .int) rfl rfl hd K
  · cases hN; exact va_alen hx hb hK.2.1 r1 q0 1 r5 (ty := .boolean) rfl rfl hd K
  · cases hN; exact va_alen hx hb hK.2.1 r1 q0 2 r5 (ty := .int) rfl rfl hd K
  · cases hN; exact va_alen hx hb hK.2.1 r1 q0 3 r5 (ty := .object "java/lang/Object") rfl rfl hd K
theorem s_alen0 (C : Cx p l R s m meth c D c4 A E d M nL mc ms) : r_alen0 E M (SM p l e R s m args below meth c Q D c4 A nL mc ms) := by
  obtain ⟨hx, hb, -, -, -, ho, -, -, hK, -⟩ := C
  intro pc ls st G k n hd h hk hn H locs arr hRp hL hS
  obtain ⟨cell, h1, h2, h3, h4, h5, h6, h7⟩ := hK.2.2.2.1
  exact W.alen hx hb (cell := cell) (by rw [hS.2.1 _ (Array.getElem?_eq_some_iff.mp h1).1 h7]; exact h1) h2 (n := 0) h5 rfl rfl hd (h hk hn H locs arr hRp hL hS)
theorem s_sld (C : Cx p l R s m meth c D c4 A E d M nL mc ms) : r_sld E M (SM p l e R s m args below meth c Q D c4 A nL mc ms) := by
  obtain ⟨hx, hb, -, -, -, ho, -, -, hK, -⟩ := C
  intro pc ls st G k n i hd hi h hk hn H locs arr hRp hL hS
  obtain ⟨-, -, -, -, -, -, -, -, -, -, g1, g2, g3, -⟩ := hK
  exact va_sld hx hb g1 g3 g2 hS hi hd (h hk hn H locs arr hRp hL hS)
theorem s_slen (C : Cx p l R s m meth c D c4 A E d M nL mc ms) : r_slen E M (SM p l e R s m args below meth c Q D c4 A nL mc ms) := by
  obtain ⟨hx, hb, -, -, -, ho, -, -, hK, -⟩ := C
  intro pc ls st G k n hd h hk hn H locs arr hRp hL hS
  obtain ⟨-, -, -, -, -, -, -, -, -, -, g1, g2, g3, -⟩ := hK
  exact va_slen hx hb g1 g3 g2 hS hd (h hk hn H locs arr hRp hL hS)
theorem s_cast (C : Cx p l R s m meth c D c4 A E d M nL mc ms) : r_cast M (SM p l e R s m args below meth c Q D c4 A nL mc ms) := by
  obtain ⟨hx, hb, -, -, -, ho, -, -, hK, -⟩ := C
  intro pc ls st G k n i a ci fs q nm hd hw ha hc hq h hk hn H locs arr hRp hL hS
  subst hq
  obtain ⟨ws, q0, r1, r2, r3, r4, r5⟩ := hRp.at ha
  exact va_castS hx hb ho (hK.w hw) (hK.2.1.1 ci q hc).2 (va_recv hK.2.1 r1 hc r5) hd (h hk hn H locs arr hRp hL hS)
theorem s_gets (C : Cx p l R s m meth c D c4 A E d M nL mc ms) : r_gets E M (SM p l e R s m args below meth c Q D c4 A nL mc ms) := by
  obtain ⟨hx, hb, -, -, -, ho, -, -, hK, -⟩ := C
  intro pc ls st G k n i hd hw h hk hn H locs arr hRp hL hS
  exact va_gets hx hb hK.2.2.1 hS ho (hK.w hw) (fun _ h => h) hd (h hk hn H locs arr hRp hL hS)
theorem s_ldcM (C : Cx p l R s m meth c D c4 A E d M nL mc ms) : r_ldcM E M (SM p l e R s m args below meth c Q D c4 A nL mc ms) := by
  obtain ⟨hx, hb, -, -, -, ho, -, -, hK, -⟩ := C
  intro pc ls st G k n i hd hw h hk hn H locs arr hRp hL hS
  exact va_ldcM hx hb ho (hK.w hw) hK.2.2.2.2.2.2.1 hd (h hk hn H locs arr hRp hL hS)
theorem s_getC (C : Cx p l R s m meth c D c4 A E d M nL mc ms) : r_getC E d M (SM p l e R s m args below meth c Q D c4 A nL mc ms) := by
  obtain ⟨hx, hb, -, hml, -, ho, -, -, hK, -, -, hf, hlo, -⟩ := C
  intro pc ls st G k n i a N f hd hw h1 hst ha h hk hn H locs arr hRp hL hS
  obtain ⟨ws, q0, r1, r2, r3, r4, r5⟩ := hRp.at ha
  obtain ⟨kA, co, -, -, -, e1⟩ := (hK.2.1.2 3 (c4.2.2.2, .object "java/lang/Object") rfl).2
  refine va_getC hx hb (hml.trans hL.2.1.symm) ho (hK.w hw) (hK.w tw_gc1) (C := "[Ljava/lang/Object;") (hK.w tw_gc2) (hK.w tw_gc3) (hK.w tw_gc4) hK.2.2.2.2.2.2.1 ⟨_, r1 q0 _ r5, rfl, ?_⟩ (by omega) ?_ hd (h hk hn H locs arr hRp hL hS)
  · exact e1
  · unfold cats at hst; omega
theorem s_copy (C : Cx p l R s m meth c D c4 A E d M nL mc ms) : r_copy d M (SM p l e R s m args below meth c Q D c4 A nL mc ms) := by
  obtain ⟨hx, hb, -, hml, -, ho, -, -, hK, -, -, hf, hlo, -⟩ := C
  intro pc ls st G k n i a b N1 N2 f g L hd hw h1 hst hab ha hbb hL31 hL1 hL2 hel h hk hn H locs arr hRp hL hS
  obtain ⟨ws, q0, r1, r2, r3, r4, r5⟩ := hRp.at ha
  obtain ⟨q1, r6⟩ := r3 b _ hbb
  have hcl : (nI L).toNatClampNeg = L := nI_clamp hL31
  have hc0 : (0 : Int32).toNatClampNeg = 0 := rfl
  have hnw : nativeFrameWords "java/lang/System" "arraycopy" 5 = 7 := by decide +kernel
  refine va_copyM hx hb (hml.trans hL.2.1.symm) ho (hK.w hw) (hK.w tw_ac1) (hK.w tw_ac2) (hK.w tw_ac3) hK.2.1 r1 r2 hS q0 q1 3 3 r5 r6 rfl rfl (by decide) (by decide) (nI_pos hL31) (by rw [hcl, hc0]; omega) (by rw [hcl, hc0]; omega) ?_ (by omega) ?_ hd (fun H1 locs1 g1 g2 g3 => ?_)
  · intro j hj y hy
    rw [hcl] at hj
    rw [hc0, Nat.zero_add] at hy
    obtain ⟨ci, fs, q, x1, x2, x3⟩ := hel j hj y hy
    obtain ⟨k9, x4⟩ := r3 y _ x1
    obtain ⟨cell, y1, y2, y3⟩ := va_recv hK.2.1 r1 x2 x4
    obtain ⟨hfc, kC, hkC, -⟩ := (hK.2.1.1 ci q x2).2
    refine ⟨cell, y1, y2, ⟨kC, ?_⟩, fun comp hcomp => ?_⟩
    · rw [← Option.some.inj (hfc.symm.trans y3)]; exact hkC
    · obtain ⟨c0, t0, z1, z2, z3⟩ := Cond.castable_spec (hK.w (args := args) x3)
      rw [← Option.some.inj (z2.symm.trans hcomp), ← Option.some.inj (z1.symm.trans y3)]
      exact z3
  · unfold cats at hst; rw [hnw]; omega
  · rw [hcl, hc0] at g1 g2
    obtain ⟨w1, w2⟩ := rep_set (e := hR N2 (va_cpy f g 0 0 L)) r2 r3 r4 r6
    exact h hk hn H1 locs1 arr ⟨_, g1, g2, w1, w2⟩ hL g3
theorem s_max (C : Cx p l R s m meth c D c4 A E d M nL mc ms) : r_max d M (SM p l e R s m args below meth c Q D c4 A nL mc ms) := by
  obtain ⟨hx, hb, -, hml, -, ho, -, -, hK, hRc, hRs, hf, hlo, -⟩ := C
  intro pc ls st G k n i x y hd hw h1 hst h hk hn H locs arr hRp hL hS
  exact va_mmax hx hb (hml.trans hL.2.1.symm) ho (hK.w hw) (hK.w tw_mx1) (hK.w tw_mx2) (hK.w tw_mx3) (by omega) (by unfold cats at hst; omega) (by rw [hRc]; exact hk) (by rw [hRs]; exact hn) hd (h hk hn H locs arr hRp hL hS)
theorem s_min (C : Cx p l R s m meth c D c4 A E d M nL mc ms) : r_min d M (SM p l e R s m args below meth c Q D c4 A nL mc ms) := by
  obtain ⟨hx, hb, -, hml, -, ho, -, -, hK, hRc, hRs, hf, hlo, -⟩ := C
  intro pc ls st G k n i x y hd hw h1 hst h hk hn H locs arr hRp hL hS
  exact va_mmin hx hb (hml.trans hL.2.1.symm) ho (hK.w hw) (hK.w tw_mn1) (hK.w tw_mx2) (hK.w tw_mn3) (by omega) (by unfold cats at hst; omega) (by rw [hRc]; exact hk) (by rw [hRs]; exact hn) hd (h hk hn H locs arr hRp hL hS)
theorem s_xr2 (C : Cx p l R s m meth c D c4 A E d M nL mc ms) : XR2 E d M mc ms (SM p l e R s m args below meth c Q D c4 A nL mc ms) :=
  ⟨s_get C, s_put C, s_new C, s_newA C, s_newO C, s_iald C, s_zald C, s_lald C, s_aald C, s_iast C, s_zast C, s_last C, s_aast C, s_alen C, s_alen0 C, s_sld C, s_slen C, s_cast C, s_gets C, s_ldcM C, s_getC C, s_copy C, s_max C, s_min C⟩
end HEAP2
