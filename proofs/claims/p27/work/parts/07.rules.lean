/-- a body of method M stands -/
def Cx (p : Program) (l : Launch) (R : Room) (s : State) (m : MethodId) (meth : Method) (c : Code) (D : va_G) (c4 : C4) (A : Nat → Prop) (E : XE) (d : Nat) (M : ME) (nL mc ms : Nat) : Prop :=
  p.tables.exec = Jvm.exec ∧ c.code = M.2.1 ∧ meth.sig.returnType = M.2.2.1 ∧ c.maxLocals = nL ∧ meth.locks = false ∧ s.vm.findClass M.1.cls = some m.cls ∧ meth.name = M.1.name ∧ c.exceptionTable.toList = tableOf M.2.2.2 ∧ KS D c4 A E s s.heap ∧ R.cells = mc ∧ R.slots = ms ∧ d + 1 ≤ R.frames ∧ 31 * (d + 1) ≤ R.locals ∧ l.stackTraces = false
/-- what the machine does from a state of the pure machine -/
def SM (p : Program) (l : Launch) (e : Env) (R : Room) (s : State) (m : MethodId) (args : Array Value) (below : List Frame) (meth : Method) (c : Code) (Q : State → Prop) (D : va_G) (c4 : C4) (A : Nat → Prop) (nL mc ms : Nat) : XS := fun pc ls st G k n =>
  k ≤ mc → n ≤ ms → ∀ (H : Heap) (locs : List Loc) (arr : Array Slot), Rep D c4 A G H → LR arr nL ls → va_S A s.heap H locs → W p l e R s m args below meth c H locs k n Q (F0 m pc arr st)
section RULES
variable {p : Program} {l : Launch} {e : Env} {R : Room} {s : State} {m : MethodId} {args : Array Value} {below : List Frame} {meth : Method} {c : Code} {Q : State → Prop} {D : va_G} {c4 : C4} {A : Nat → Prop} {E : XE} {d : Nat} {M : ME} {nL mc ms : Nat}
theorem s_pure (C : Cx p l R s m meth c D c4 A E d M nL mc ms) : r_pure M (SM p l e R s m args below meth c Q D c4 A nL mc ms) := by
  obtain ⟨hx, hb, -⟩ := C
  intro pc ls st G k n i len st' hd hp h hk hn H locs arr hR hL hS
  have K := h hk hn H locs arr hR hL hS
  unfold pst at hp
  split at hp <;> first
    | (cases hp; exact lv_iconst hx hb hd rfl K)
    | (cases hp; exact lv_lconst hx hb hd rfl K)
    | (cases hp; exact lv_bipush hx hb hd rfl K)
    | (cases hp; exact lv_sipush hx hb hd rfl K)
    | (cases hp; exact lv_null hx hb hd K)
    | (cases hp; exact lv_iadd hx hb hd K)
    | (cases hp; exact lv_isub hx hb hd K)
    | (cases hp; exact lv_imul hx hb hd K)
    | (cases hp; exact lv_ishr hx hb hd K)
    | (cases hp; exact lv_iand hx hb hd K)
    | (cases hp; exact lv_i2l hx hb hd rfl K)
    | (cases hp; exact W.lcmp hx hb hd K)
    | cases hp
theorem s_load (C : Cx p l R s m meth c D c4 A E d M nL mc ms) : r_load M (SM p l e R s m args below meth c Q D c4 A nL mc ms) := by
  obtain ⟨hx, hb, -⟩ := C
  intro pc ls st G k n i len j v hd hg hp h hk hn H locs arr hR hL hS
  have K := h hk hn H locs arr hR hL hS
  have g := hL.get hg
  unfold lst at hp
  split at hp <;> first
    | (cases hp; exact lv_iload_n hx hb hd rfl g K)
    | (cases hp; exact lv_iload hx hb hd g K)
    | (cases hp; exact lv_aload_n hx hb hd rfl g K)
    | (cases hp; exact lv_aload hx hb hd g K)
    | (cases hp; exact lv_aload_nN hx hb hd rfl g K)
    | (cases hp; exact lv_aloadN hx hb hd g K)
    | cases hp
theorem s_store (C : Cx p l R s m meth c D c4 A E d M nL mc ms) : r_store M (SM p l e R s m args below meth c Q D c4 A nL mc ms) := by
  obtain ⟨hx, hb, -⟩ := C
  intro pc ls st G k n i len j v hd hp hj h hk hn H locs arr hR hL hS
  have K := h hk hn H locs
  have hj' : j < nL := by rw [← hL.1]; exact hj
  unfold sst at hp
  split at hp <;> first
    | (cases hp; exact lv_istore_n hx hb hd rfl hL.has hj' rfl fun a' ha => K a' hR (hL.put rfl hj' ha) hS)
    | (cases hp; exact lv_istore hx hb hd hL.has hj' rfl fun a' ha => K a' hR (hL.put rfl hj' ha) hS)
    | (cases hp; exact lv_astore_n hx hb hd rfl hL.has hj' rfl fun a' ha => K a' hR (hL.put rfl hj' ha) hS)
    | (cases hp; exact lv_astore hx hb hd hL.has hj' rfl fun a' ha => K a' hR (hL.put rfl hj' ha) hS)
    | (cases hp; exact lv_astore_nN hx hb hd rfl hL.has hj' rfl fun a' ha => K a' hR (hL.put rfl hj' ha) hS)
    | (cases hp; exact lv_astoreN hx hb hd hL.has hj' rfl fun a' ha => K a' hR (hL.put rfl hj' ha) hS)
    | cases hp
theorem s_iinc (C : Cx p l R s m meth c D c4 A E d M nL mc ms) : r_iinc M (SM p l e R s m args below meth c Q D c4 A nL mc ms) := by
  obtain ⟨hx, hb, -⟩ := C
  intro pc ls st G k n j cc x hd hg h hk hn H locs arr hR hL hS
  have K := h hk hn H locs
  have hj' : j < nL := by rw [← hL.1]; exact (List.getElem?_eq_some_iff.mp (lget_some hg)).1
  obtain ⟨q, hq⟩ := lvO_at hg
  exact lv_iinc hx hb hd hL.has hq rfl hj' rfl fun a' ha => K a' hR (hL.put rfl hj' ha) hS
theorem s_dup (C : Cx p l R s m meth c D c4 A E d M nL mc ms) : r_dup M (SM p l e R s m args below meth c Q D c4 A nL mc ms) := by
  obtain ⟨hx, hb, -⟩ := C
  intro pc ls st G k n v hd hv h hk hn H locs arr hR hL hS
  exact lv_dup hx hb hd hv (h hk hn H locs arr hR hL hS)
theorem s_dupx (C : Cx p l R s m meth c D c4 A E d M nL mc ms) : r_dupx M (SM p l e R s m args below meth c Q D c4 A nL mc ms) := by
  obtain ⟨hx, hb, -⟩ := C
  intro pc ls st G k n v w hd hv hw h hk hn H locs arr hR hL hS
  exact lv_dup_x1 hx hb hd hv hw (h hk hn H locs arr hR hL hS)
theorem s_dup2 (C : Cx p l R s m meth c D c4 A E d M nL mc ms) : r_dup2 M (SM p l e R s m args below meth c Q D c4 A nL mc ms) := by
  obtain ⟨hx, hb, -⟩ := C
  intro pc ls st G k n v w hd hv hw h hk hn H locs arr hR hL hS
  exact lv_dup2_11 hx hb hd hv hw (h hk hn H locs arr hR hL hS)
theorem s_pop (C : Cx p l R s m meth c D c4 A E d M nL mc ms) : r_pop M (SM p l e R s m args below meth c Q D c4 A nL mc ms) := by
  obtain ⟨hx, hb, -⟩ := C
  intro pc ls st G k n v hd hv h hk hn H locs arr hR hL hS
  exact lv_pop hx hb hd hv (h hk hn H locs arr hR hL hS)
theorem s_div (C : Cx p l R s m meth c D c4 A E d M nL mc ms) : r_div M (SM p l e R s m args below meth c Q D c4 A nL mc ms) := by
  obtain ⟨hx, hb, -⟩ := C
  intro pc ls st G k n x y hd hv h hk hn H locs arr hR hL hS
  exact lv_idiv hx hb hd hv (h hk hn H locs arr hR hL hS)
theorem s_rem (C : Cx p l R s m meth c D c4 A E d M nL mc ms) : r_rem M (SM p l e R s m args below meth c Q D c4 A nL mc ms) := by
  obtain ⟨hx, hb, -⟩ := C
  intro pc ls st G k n x y hd hv h hk hn H locs arr hR hL hS
  exact lv_irem hx hb hd hv (h hk hn H locs arr hR hL hS)
theorem s_if (C : Cx p l R s m meth c D c4 A E d M nL mc ms) : r_if M (SM p l e R s m args below meth c Q D c4 A nL mc ms) := by
  obtain ⟨hx, hb, -⟩ := C
  intro pc ls st G k n o off tgt x hd ht h1 h2 hk hn H locs arr hR hL hS
  cases o
  · exact lv_if_eq hx hb hd ht (fun z => h1 z hk hn H locs arr hR hL hS) (fun z => h2 z hk hn H locs arr hR hL hS)
  · exact lv_if_ne hx hb hd ht (fun z => h1 z hk hn H locs arr hR hL hS) (fun z => h2 (fun w => w z) hk hn H locs arr hR hL hS)
  · exact lv_if_lt hx hb hd ht (fun z => h1 z hk hn H locs arr hR hL hS) (fun z => h2 z hk hn H locs arr hR hL hS)
  · exact lv_if_ge hx hb hd ht (fun z => h1 z hk hn H locs arr hR hL hS) (fun z => h2 z hk hn H locs arr hR hL hS)
  · exact lv_if_gt hx hb hd ht (fun z => h1 z hk hn H locs arr hR hL hS) (fun z => h2 z hk hn H locs arr hR hL hS)
  · exact lv_if_le hx hb hd ht (fun z => h1 z hk hn H locs arr hR hL hS) (fun z => h2 z hk hn H locs arr hR hL hS)
theorem s_icmp (C : Cx p l R s m meth c D c4 A E d M nL mc ms) : r_icmp M (SM p l e R s m args below meth c Q D c4 A nL mc ms) := by
  obtain ⟨hx, hb, -⟩ := C
  intro pc ls st G k n o off tgt x y hd ht h1 h2 hk hn H locs arr hR hL hS
  cases o
  · exact lv_icmp_eq hx hb hd ht (fun z => h1 z hk hn H locs arr hR hL hS) (fun z => h2 z hk hn H locs arr hR hL hS)
  · exact lv_icmp_ne hx hb hd ht (fun z => h1 z hk hn H locs arr hR hL hS) (fun z => h2 (fun w => w z) hk hn H locs arr hR hL hS)
  · exact lv_icmp_lt hx hb hd ht (fun z => h1 z hk hn H locs arr hR hL hS) (fun z => h2 z hk hn H locs arr hR hL hS)
  · exact lv_icmp_ge hx hb hd ht (fun z => h1 z hk hn H locs arr hR hL hS) (fun z => h2 z hk hn H locs arr hR hL hS)
  · exact lv_icmp_gt hx hb hd ht (fun z => h1 z hk hn H locs arr hR hL hS) (fun z => h2 z hk hn H locs arr hR hL hS)
  · exact lv_icmp_le hx hb hd ht (fun z => h1 z hk hn H locs arr hR hL hS) (fun z => h2 z hk hn H locs arr hR hL hS)
theorem s_goto (C : Cx p l R s m meth c D c4 A E d M nL mc ms) : r_goto M (SM p l e R s m args below meth c Q D c4 A nL mc ms) := by
  obtain ⟨hx, hb, -⟩ := C
  intro pc ls st G k n off tgt hd ht h hk hn H locs arr hR hL hS
  exact lv_goto hx hb hd ht (h hk hn H locs arr hR hL hS)
theorem s_nul (C : Cx p l R s m meth c D c4 A E d M nL mc ms) : r_nul M (SM p l e R s m args below meth c Q D c4 A nL mc ms) := by
  obtain ⟨hx, hb, -⟩ := C
  intro pc ls st G k n off tgt hd ht h hk hn H locs arr hR hL hS
  exact lv_ifnullN hx hb hd ht (h hk hn H locs arr hR hL hS)
theorem s_nulR (C : Cx p l R s m meth c D c4 A E d M nL mc ms) : r_nulR M (SM p l e R s m args below meth c Q D c4 A nL mc ms) := by
  obtain ⟨hx, hb, -⟩ := C
  intro pc ls st G k n off a hd h hk hn H locs arr hR hL hS
  exact lv_ifnull hx hb hd (h hk hn H locs arr hR hL hS)
theorem s_non (C : Cx p l R s m meth c D c4 A E d M nL mc ms) : r_non M (SM p l e R s m args below meth c Q D c4 A nL mc ms) := by
  obtain ⟨hx, hb, -⟩ := C
  intro pc ls st G k n off hd h hk hn H locs arr hR hL hS
  exact lv_ifnonnullN hx hb hd (h hk hn H locs arr hR hL hS)
theorem s_nonR (C : Cx p l R s m meth c D c4 A E d M nL mc ms) : r_nonR M (SM p l e R s m args below meth c Q D c4 A nL mc ms) := by
  obtain ⟨hx, hb, -⟩ := C
  intro pc ls st G k n off tgt a hd ht h hk hn H locs arr hR hL hS
  exact lv_ifnonnull hx hb hd ht (h hk hn H locs arr hR hL hS)
theorem s_aeq (C : Cx p l R s m meth c D c4 A E d M nL mc ms) : r_aeq M (SM p l e R s m args below meth c Q D c4 A nL mc ms) := by
  obtain ⟨hx, hb, -⟩ := C
  intro pc ls st G k n off tgt a b hd ht h1 h2 hk hn H locs arr hR hL hS
  exact lv_acmp_eq (rx := some a) (ry := some b) hx hb hd ht (fun z => h1 (Option.some.inj z) hk hn H locs arr hR hL hS) (fun z => h2 (fun w => z (by rw [w])) hk hn H locs arr hR hL hS)
theorem s_ane (C : Cx p l R s m meth c D c4 A E d M nL mc ms) : r_ane M (SM p l e R s m args below meth c Q D c4 A nL mc ms) := by
  obtain ⟨hx, hb, -⟩ := C
  intro pc ls st G k n off tgt a b hd ht h1 h2 hk hn H locs arr hR hL hS
  exact lv_acmp_ne (rx := some a) (ry := some b) hx hb hd ht (fun z => h1 (fun w => z (by rw [w])) hk hn H locs arr hR hL hS) (fun z => h2 (Option.some.inj z) hk hn H locs arr hR hL hS)
theorem s_swIn (C : Cx p l R s m meth c D c4 A E d M nL mc ms) : r_swIn M (SM p l e R s m args below meth c Q D c4 A nL mc ms) := by
  obtain ⟨hx, hb, -⟩ := C
  intro pc ls st G k n dflt lo hi offs len x off tgt hd h1 h2 ho ht h hk hn H locs arr hR hL hS
  exact lv_tableIn hx hb hd h1 h2 ho ht (h hk hn H locs arr hR hL hS)
theorem s_swOut (C : Cx p l R s m meth c D c4 A E d M nL mc ms) : r_swOut M (SM p l e R s m args below meth c Q D c4 A nL mc ms) := by
  obtain ⟨hx, hb, -⟩ := C
  intro pc ls st G k n dflt lo hi offs len x tgt hd h1 ht h hk hn H locs arr hR hL hS
  exact lv_tableOut hx hb hd h1 ht (h hk hn H locs arr hR hL hS)
theorem s_ldc (C : Cx p l R s m meth c D c4 A E d M nL mc ms) : r_ldc M (SM p l e R s m args below meth c Q D c4 A nL mc ms) := by
  obtain ⟨hx, hb, -, -, -, ho, -, -, hK, -⟩ := C
  intro pc ls st G k n i v hd hw h hk hn H locs arr hR hL hS
  exact lv_ldc hx hb ho (kW_use hw.2 (hK.1 _ hw)) hd (h hk hn H locs arr hR hL hS)
theorem s_ldcw (C : Cx p l R s m meth c D c4 A E d M nL mc ms) : r_ldcw M (SM p l e R s m args below meth c Q D c4 A nL mc ms) := by
  obtain ⟨hx, hb, -, -, -, ho, -, -, hK, -⟩ := C
  intro pc ls st G k n i v hd hw h hk hn H locs arr hR hL hS
  exact lv_ldcw hx hb ho (kW_use hw.2 (hK.1 _ hw)) hd (h hk hn H locs arr hR hL hS)
theorem s_xr1 (C : Cx p l R s m meth c D c4 A E d M nL mc ms) : XR1 M (SM p l e R s m args below meth c Q D c4 A nL mc ms) :=
  ⟨s_pure C, s_load C, s_store C, s_iinc C, s_dup C, s_dupx C, s_dup2 C, s_pop C, s_div C, s_rem C, s_if C, s_icmp C, s_goto C, s_nul C, s_nulR C, s_non C, s_nonR C, s_aeq C, s_ane C, s_swIn C, s_swOut C, s_ldc C, s_ldcw C⟩
end RULES
