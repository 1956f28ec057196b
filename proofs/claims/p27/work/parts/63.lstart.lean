/-! the start -/
theorem kW_any {w : Jvm.Cond} (h : kW w = true) {A A' : Array Value} {s : State} (hb : w.before A s = true) : w.before A' s = true := by
  cases w <;> first
    | exact word_at (State.WarmedH.refl s) (good_of_word h) hb
    | exact va_any rfl hb
theorem ar_of {args : Array Value} {s : State} {ty : FieldType} (h : (Cond.arrayClass ty).before args s = true) (hn : ∀ c, s.vm.findClass ("[" ++ ty.toString) = some c → va_RA s c ty) : ∃ c : ClassId, ArrOfT s c ty ∧ va_RA s c ty := by
  obtain ⟨c, k, comp, h1, h2, h3⟩ := Cond.arrayClass_spec h
  exact ⟨c, fun n z => ⟨(fun k h => by cases h), k, h2, comp, h3⟩, hn c h1⟩
theorem ar_ob {s : State} {C : String} (h : va_AO C s) : ∃ c : ClassId, ArrOfT s c (.object C) ∧ va_RA s c (.object C) := by
  obtain ⟨comp, c, k, h1, h2, h3, h4, h5⟩ := Cond.arrayOver_spec h
  exact ⟨c, fun n z => ⟨(fun k h => by cases h), k, h3, comp, h4⟩, k, comp, h3, h4, h1, h5⟩
theorem vw_lt {c : Nat} {q : vw_C} (h : vwCl[c]? = some q) : c < 10 := (List.getElem?_eq_some_iff.mp h).1
theorem kn_of {args : Array Value} {s : State} (hts : ∀ w ∈ lw_tbl, w.before args s = true) {c : Nat} {q : vw_C} {ty : Nat → FieldType} (h : CLok c q ty) : ∃ z : ClassId × (Nat → Nat), ∀ q', vwCl[c]? = some q' → u_Kn s q'.1 q'.2.1 q'.2.2 z.1 z.2 := by
  obtain ⟨h1, h2, h3, h4, h5, h6⟩ := h
  obtain ⟨cC, iS, hk⟩ := u_known hts (fun w hw => (h2 w hw).1) (hts _ h5.1)
  exact ⟨(cC, iS), fun q' hq => by rw [h1] at hq; cases hq; exact hk⟩
set_option maxRecDepth 20000 in
set_option maxHeartbeats 4000000 in
theorem kn_all {args : Array Value} {s : State} (hts : ∀ w ∈ lw_tbl, w.before args s = true) : ∃ D : va_G, ∀ (c : Nat) (q : vw_C), vwCl[c]? = some q → u_Kn s q.1 q.2.1 q.2.2 (D.1 c) (D.2 c) := by
  have h : ∀ c : Nat, ∃ z : ClassId × (Nat → Nat), ∀ q', vwCl[c]? = some q' → u_Kn s q'.1 q'.2.1 q'.2.2 z.1 z.2 := fun c => by
    match c with
    | 0 => exact kn_of hts cl_0
    | 1 => exact kn_of hts cl_1
    | 2 => exact kn_of hts cl_2
    | 3 => exact kn_of hts cl_3
    | 4 => exact kn_of hts cl_4
    | 5 => exact kn_of hts cl_5
    | 6 => exact kn_of hts cl_6
    | 7 => exact kn_of hts cl_7
    | 8 => exact kn_of hts cl_8
    | 9 => exact kn_of hts cl_9
    | n + 10 => exact ⟨((default : ClassId), fun _ => 0), fun q' hq => absurd (vw_lt hq) (by omega)⟩
  obtain ⟨f, hf⟩ := Classical.axiomOfChoice h
  exact ⟨(fun c => (f c).1, fun c => (f c).2), fun c q hq => hf c q hq⟩
set_option maxRecDepth 20000 in
set_option maxHeartbeats 4000000 in
theorem str_all {args : Array Value} {s : State} (hts : ∀ w ∈ lw_tbl, w.before args s = true) : ∀ q ∈ str_list, ∃ sa : Nat, vk_R q.1 q.2.1 q.2.2 sa s := by
  obtain ⟨cur, -, hcur, -⟩ := Cond.instantiable_spec (hts (.instantiable "KerbHours" 8) (List.mem_of_getElem? (i := 50) (by decide +kernel)))
  have go : ∀ (k : Nat) (tx : String), Cond.stringRef "KerbHours" k tx ∈ lw_tbl → ∃ sa : Nat, vk_R "KerbHours" k tx sa s := fun k tx h => by
    obtain ⟨-, -, -, a, -, -, -, -, -, hv⟩ := Cond.stringRef_spec hcur (hts _ h)
    exact ⟨a, vk_R.of (hts _ h) hv⟩
  intro q hq
  unfold str_list at hq
  simp only [List.mem_cons, List.not_mem_nil, or_false] at hq
  rcases hq with rfl | rfl | rfl | rfl | rfl | rfl | rfl | rfl | rfl | rfl | rfl
  · exact go _ _ (List.mem_of_getElem? (i := 793) (by decide +kernel))
  · exact go _ _ (List.mem_of_getElem? (i := 674) (by decide +kernel))
  · exact go _ _ (List.mem_of_getElem? (i := 370) (by decide +kernel))
  · exact go _ _ (List.mem_of_getElem? (i := 785) (by decide +kernel))
  · exact go _ _ (List.mem_of_getElem? (i := 345) (by decide +kernel))
  · exact go _ _ (List.mem_of_getElem? (i := 420) (by decide +kernel))
  · exact go _ _ (List.mem_of_getElem? (i := 433) (by decide +kernel))
  · exact go _ _ (List.mem_of_getElem? (i := 557) (by decide +kernel))
  · exact go _ _ (List.mem_of_getElem? (i := 295) (by decide +kernel))
  · exact go _ _ (List.mem_of_getElem? (i := 382) (by decide +kernel))
  · exact go _ _ (List.mem_of_getElem? (i := 368) (by decide +kernel))
set_option maxRecDepth 20000 in
set_option maxHeartbeats 4000000 in
theorem nc_all {args : Array Value} {s : State} (hgv : (Jvm.Cond.and given_1 narrow_1).before args s = true) : ∀ q ∈ nc_list, va_Nc q.1 q.2 s := by
  have hs := flat_of_before _ hgv
  intro q hq
  unfold nc_list at hq
  simp only [List.mem_cons, List.not_mem_nil, or_false] at hq
  rcases hq with rfl | rfl | rfl | rfl | rfl | rfl
  · exact va_Nc.of (hs (.not (.castable "java/lang/IllegalArgumentException" "java/lang/IllegalStateException")) (by decide +kernel))
  · exact va_Nc.of (hs (.not (.castable "java/lang/IllegalArgumentException" "java/lang/IndexOutOfBoundsException")) (by decide +kernel))
  · exact va_Nc.of (hs (.not (.castable "java/lang/IllegalStateException" "java/lang/IllegalArgumentException")) (by decide +kernel))
  · exact va_Nc.of (hs (.not (.castable "java/lang/IllegalStateException" "java/lang/IndexOutOfBoundsException")) (by decide +kernel))
  · exact va_Nc.of (hs (.not (.castable "java/lang/IndexOutOfBoundsException" "java/lang/IllegalArgumentException")) (by decide +kernel))
  · exact va_Nc.of (hs (.not (.castable "java/lang/IndexOutOfBoundsException" "java/lang/IllegalStateException")) (by decide +kernel))
set_option maxRecDepth 20000 in
set_option maxHeartbeats 4000000 in
theorem ks_start {s : State} {b L : Nat} {xs : Nat → Int32} (hts : ∀ w ∈ lw_tbl, w.before #[Value.ref b] s = true) (hX : va_X b L xs s s.heap) (hbl : b < s.heap.size) (hgv : (Jvm.Cond.and given_1 narrow_1).before #[Value.ref b] s = true) : ∃ (D : va_G) (c4 : C4) (e1 e2 : Nat), KS D c4 (fun q => s.heap.size ≤ q) (e1, e2, b, L, xs) s s.heap := by
  have hs := flat_of_before _ hgv
  have hA : ∀ a : Nat, a < s.heap.size → ¬ s.heap.size ≤ a := fun a h z => absurd h (by omega)
  obtain ⟨D, hD⟩ := kn_all hts
  have hao : va_AO "java/lang/Object" s := va_AO.of (hts _ (List.mem_of_getElem? (i := 191) (by decide +kernel)))
  obtain ⟨ci, hci⟩ := ar_of (ty := .int) (hts _ (List.mem_of_getElem? (i := 880) (by decide +kernel))) (fun c h => h)
  obtain ⟨cz, hcz⟩ := ar_of (ty := .boolean) (hts _ (List.mem_of_getElem? (i := 140) (by decide +kernel))) (fun c h => h)
  obtain ⟨co, hco⟩ := ar_ob hao
  obtain ⟨e1, he1, hT⟩ := va_Tof (tm := (.static "java/util/ArrayList" "DEFAULTCAPACITY_EMPTY_ELEMENTDATA" "[Ljava/lang/Object;")) (ty := .object "java/lang/Object") (N := 0) (f := fun _ => .null) (A := fun q => s.heap.size ≤ q) (by decide) (hs (.arrayOf (.static "java/util/ArrayList" "DEFAULTCAPACITY_EMPTY_ELEMENTDATA" "[Ljava/lang/Object;") (.object "java/lang/Object")) (by decide +kernel)) (va_eqt (hs (.eq (.length (.static "java/util/ArrayList" "DEFAULTCAPACITY_EMPTY_ELEMENTDATA" "[Ljava/lang/Object;")) (.int 0)) (by decide +kernel))) (fun j hj => absurd hj (Nat.not_lt_zero _)) hA
  obtain ⟨e2, hmi⟩ := va_Mi.of (hs (.isRef (.mirror "[Ljava/lang/Object;")) (by decide +kernel))
  refine ⟨D, (ci, cz, ci, co), e1, e2, fun w hw => kW_any hw.2 (hts w hw.1), ⟨hD, fun k q hk => ?_⟩, va_Zof (hts _ (List.mem_of_getElem? (i := 70) (by decide +kernel))) (hts _ (List.mem_of_getElem? (i := 28) (by decide +kernel))) he1 hA, hT, vx_Zqof (hts _ (List.mem_of_getElem? (i := 281) (by decide +kernel))) (hts _ (List.mem_of_getElem? (i := 35) (by decide +kernel))) (hs (.isRef (.static "java/lang/Throwable" "UNASSIGNED_STACK" "[Ljava/lang/StackTraceElement;")) (by decide +kernel)) hA, vx_Zqof (hts _ (List.mem_of_getElem? (i := 283) (by decide +kernel))) (hts _ (List.mem_of_getElem? (i := 35) (by decide +kernel))) (hs (.isRef (.static "java/lang/Throwable" "SUPPRESSED_SENTINEL" "Ljava/util/List;")) (by decide +kernel)) hA, hmi, str_all hts, hao, nc_all hgv, hX, hA b hbl, hbl, fun q h => h⟩
  match k, hk with
  | 0, hk => cases hk; exact hci
  | 1, hk => cases hk; exact hcz
  | 2, hk => cases hk; exact hci
  | 3, hk => cases hk; exact hco
  | n + 4, hk => cases hk
