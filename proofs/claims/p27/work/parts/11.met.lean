/-! a pure method is a method of the machine -/
theorem lg_len : ∀ (as : List Value), (∀ v ∈ as, v1 v) → lg_sl as = as.map Slot.val
  | [], _ => rfl
  | v :: vs, h => by
    have h1 : v.category = 1 := h v List.mem_cons_self
    have ih := lg_len vs fun w hw => h w (List.mem_cons_of_mem _ hw)
    unfold lg_sl at ih ⊢
    rw [List.flatMap_cons, ih, h1]
    rfl
theorem lv_args_mem : ∀ (as : List Value) (o i : Nat) (v : Value), (∀ v ∈ as, v1 v) → as[i]? = some v → (o + i, v) ∈ lv_args o as
  | [], _, _, _, _, h => by simp at h
  | w :: ws, o, i, v, ha, h => by
    have h1 : w.category = 1 := ha w List.mem_cons_self
    unfold lv_args
    rw [h1, if_neg (by decide)]
    cases i with
    | zero =>
      rw [List.getElem?_cons_zero] at h
      cases h
      exact List.mem_cons_self
    | succ i =>
      rw [List.getElem?_cons_succ] at h
      have := lv_args_mem ws (o + 1) i v (fun w hw => ha w (List.mem_cons_of_mem _ hw)) h
      rw [show o + (i + 1) = o + 1 + i by omega]
      exact List.mem_cons_of_mem _ this
theorem enL_get {as : List Value} {n i : Nat} {v : Value} (h : (enL as n)[i]? = some (some v)) : as[i]? = some v := by
  unfold enL at h
  by_cases hi : i < as.length
  · rw [List.getElem?_append_left (by rw [List.length_map]; exact hi), List.getElem?_map] at h
    cases hg : as[i]? with
    | none => rw [hg] at h; cases h
    | some w => rw [hg] at h; cases h; rfl
  · rw [List.getElem?_append_right (by rw [List.length_map]; omega)] at h
    have := List.mem_of_getElem? h
    rw [List.mem_replicate] at this
    exact nomatch this.2
theorem lr_entry {as : List Value} {n : Nat} (ha : ∀ v ∈ as, v1 v) (hn : as.length ≤ n) : LR ((lg_sl as ++ List.replicate (n - (lg_sl as).length) Slot.unset).toArray) n (enL as n) := by
  have hlen : (lg_sl as).length = as.length := by rw [lg_len as ha, List.length_map]
  have h := lv_entry as (n := n) (by rw [hlen]; exact hn)
  refine ⟨by unfold enL; rw [List.length_append, List.length_map, List.length_replicate]; omega, h.1, h.2.1, fun i v hi => ?_⟩
  have hv := enL_get hi
  have := lv_args_mem as 0 i v ha hv
  rw [Nat.zero_add] at this
  exact ⟨h.2.2 (i, v) this, ha v (List.mem_of_getElem? hv)⟩
section MET
variable {p : Program} {l : Launch} {e : Env} {R : Room} {s : State} {m : MethodId} {args : Array Value} {below : List Frame} {meth : Method} {c : Code} {D : va_G} {c4 : C4} {A : Nat → Prop} {E : XE} {d : Nat} {M : ME} {nL mc ms : Nat} {P : Ps}
theorem hOut_of (C : Cx p l R s m meth c D c4 A E d M nL mc ms) : HOut p l e R s m args below meth c (vx_MQ below (QcOf D c4 A P) (XcOf D c4 A P) args s mc ms A) D c4 A M mc ms P := by
  obtain ⟨hx, hb, -, hml, hlk, ho, -, htb, hK, -⟩ := C
  intro pc k n arr rest G X q ce H locs hf hP hk hn hRp hS hce hcv hcl
  exact vx_outP ho hlk (fun z hz => by
    rw [htb] at hz
    rcases HF_none hf z hz with h | ⟨h1, nm, h2, h3⟩
    · exact Or.inl h
    · exact Or.inr ⟨h1, nm, hK.w h2, hK.2.2.2.2.2.2.2.2.2.1 (X, nm) h3⟩) hce hcv hcl (fun t ht _ => ⟨G, hP, by rw [ht]; exact hRp, hS.F ht⟩) hS.2.2 hk hn
theorem hRet_of (C : Cx p l R s m meth c D c4 A E d M nL mc ms) : HRet p l e R s m args below meth c (vx_MQ below (QcOf D c4 A P) (XcOf D c4 A P) args s mc ms A) D c4 A M mc ms P := by
  obtain ⟨hx, hb, hr, hml, hlk, ho, -, htb, hK, -⟩ := C
  intro pc k n arr G H locs hk hn hRp hS
  refine ⟨fun v ty hd h1 h2 hP => vx_ret (W.widen hk hn (W.zret hx hb (hr.trans h1) h2 (fun t ht _ => ⟨_, G, rfl, hP, by rw [ht]; exact hRp, hS.F ht⟩) hS.2.2 hd hlk)),
    fun v rt hd h1 h2 h3 hP => vx_ret (W.widen hk hn (W.aret hx hb (hr.trans h1) h2 h3 (fun t ht _ => ⟨_, G, rfl, hP, by rw [ht]; exact hRp, hS.F ht⟩) hS.2.2 hd hlk)),
    fun hd h1 hP => vx_ret (W.widen hk hn (W.vret hx hb (hr.trans h1) (fun t ht _ => ⟨_, G, rfl, hP, by rw [ht]; exact hRp, hS.F ht⟩) hS.2.2 hd hlk))⟩
theorem s_thr (C : Cx p l R s m meth c D c4 A E d M nL mc ms) : r_thr d M mc ms P (SM p l e R s m args below meth c (vx_MQ below (QcOf D c4 A P) (XcOf D c4 A P) args s mc ms A) D c4 A nL mc ms) := by
  obtain ⟨hx, hb, hr, hml, hlk, ho, -, htb, hK, hRc, hRs, hfr, hlo, hl⟩ := C
  intro pc ls st G k n ik is ic X text d0 d3 d4 hT hh0 hd5 hst hk1 hn1 hP hk hn H locs arr hRp hL hS
  obtain ⟨t1, t2, t3, t4, t5, t6⟩ := hT
  obtain ⟨sa, hstr⟩ := hK.2.2.2.2.2.2.2.1 _ t6
  have hno : ∀ (q : Nat), ∀ x ∈ c.exceptionTable.toList, covers x q = false := fun q x hx => by
    rw [htb, hh0] at hx
    exact nomatch hx
  have hsz : arr.size = c.maxLocals := hL.2.1.trans hml.symm
  have hXC : ∀ t : State, s.vm.Alike t.vm → H.size ≤ t.heap.size → (∀ q : Nat, q < H.size → t.heap[q]? = H[q]?) → XcOf D c4 A P X s t := fun t _ hz hq =>
    ⟨G, hP, hRp.kept hq, Nat.le_trans hS.1 hz, fun q h1 h2 => (hq q (Nat.lt_of_lt_of_le h1 hS.1)).trans (hS.2.1 q h1 h2)⟩
  have hnm : ∀ n ∈ ["java/lang/RuntimeException", "java/lang/Exception"], Bundle.fit n = true := by decide
  have hst' : (st.map fun v => v.category).sum ≤ 8 := hst
  rcases d4 with ⟨d4, d6, d9⟩ | ⟨d4, d7, d10⟩
  · exact vx_throwS (names := ["java/lang/RuntimeException", "java/lang/Exception"]) hx hb hl ho t1 hnm (hK.w t2) (hK.w t3) hstr (fun w hw => hK.w (t4 w hw)) t5 hK.2.2.2.2.1 hK.2.2.2.2.2.1 hS hsz d0 d3 d4 d6 d9 (hno _) (by show 2 + 3 < _; omega) (by show _ + (13 * (2 + 1) + 43) ≤ _; omega) (by rw [hRc]; exact hk1) (by rw [hRs]; exact hn1) hlk hXC hS.2.2 hk1 hn1
  · exact vx_throwSW (names := ["java/lang/RuntimeException", "java/lang/Exception"]) hx hb hl ho t1 hnm (hK.w t2) (hK.w t3) hstr (fun w hw => hK.w (t4 w hw)) t5 hK.2.2.2.2.1 hK.2.2.2.2.2.1 hS hsz d0 d3 d4 d7 d10 (hno _) (by show 2 + 3 < _; omega) (by show _ + (13 * (2 + 1) + 43) ≤ _; omega) (by rw [hRc]; exact hk1) (by rw [hRs]; exact hn1) hlk hXC hS.2.2 hk1 hn1
end MET
theorem sp_met {l : Launch} (hl : l.stackTraces = false) {D : va_G} {c4 : C4} {A : Nat → Prop} {E : XE} : ∀ (d : Nat) (y : MethodName) (mc ms : Nat) (as : List Value) (G : HP) (P : Ps), Sp E d y mc ms as G P → MetOK l D c4 A E d y mc ms as G P
  | 0, _, _, _, _, _, _, h => h.elim
  | d + 1, y, mc, ms, as, G, P, h => by
    obtain ⟨cc, maxL, ret, hh, hB, ha, hn, hW⟩ := h
    have ih := fun y mc ms as G P => sp_met (l := l) hl (D := D) (c4 := c4) (A := A) (E := E) d y mc ms as G P
    refine ⟨cc, maxL, ret, hh, hB, ?_⟩
    have key : ∀ p e s m args below meth c s₁, BodyLoose p l y (headSpec [codeW y cc maxL ret hh] (rmOf (d + 1) mc ms)) cc maxL ret e s m args below meth c s₁ → c.maxLocals = maxL → c.exceptionTable.toList = tableOf hh → PcOf D c4 A E as G args s →
        W p l e (headSpec [codeW y cc maxL ret hh] (rmOf (d + 1) mc ms)).room s m args below meth c s.heap [] 0 0 (vx_MQ below (QcOf D c4 A P) (XcOf D c4 A P) args s mc ms A) (entryFrame m args maxL) := by
      intro p e s m args below meth c s₁ B hml htb hP
      obtain ⟨rfl, hK, hRp⟩ := hP
      have C : Cx p l (headSpec [codeW y cc maxL ret hh] (rmOf (d + 1) mc ms)).room s m meth c D c4 A E d (y, cc, ret, hh) maxL mc ms :=
        ⟨B.exec, B.bytes, B.returns, hml, B.notSynchronized, findClass_of_methodNamed B.named, (name_of_methodNamed B.named B.method).1, htb, hK, rfl, rfl, Nat.le_refl _, Nat.le_refl _, hl⟩
      rw [lg_entry_eq]
      exact wp_sound ih C (hOut_of C) (hRet_of C) (s_thr C) hW (Nat.zero_le _) (Nat.zero_le _) s.heap [] _ hRp (lr_entry ha hn) va_S.rf
    cases hh with
    | nil =>
      refine vx_ofW hB.2.1 (ws' := []) rfl (fun p e s m args below meth c s₁ B hml ht hP => key p e s m args below meth c s₁ B hml ?_ hP)
      exact List.eq_nil_iff_forall_not_mem.mpr fun x hx => ht x hx
    | cons q hs =>
      exact vx_ofWH hB.2.1 (ws' := []) rfl (fun p e s m args below meth c s₁ B hml hP => key p e s m args below meth c s₁ B hml (vx_table (x := y) B (atoms_spec (ws := [codeW y cc maxL ret (q :: hs)]) B.pre _ List.mem_cons_self)) hP)
