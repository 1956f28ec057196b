/-! the law: its body, and the machine where it starts -/
theorem own_01 {m : Nat} {aM : Nat → Nat} {q : Nat} : ownOf m aM q = 1 ∨ ownOf m aM q = 0 := by
  unfold ownOf
  split
  · exact Or.inl rfl
  · split
    · exact Or.inl rfl
    · exact Or.inr rfl
def own3 (m o : Nat) (aM : Nat → Nat) (q : Nat) : Nat := if q = o then 2 else ownOf m aM q
theorem tm_start {E : XE} {m o : Nat} {aM : Nat → Nat} {A : Nat → Nat → Nat} {G1 G2 : HP} {e0 : HE} (hH : CH E (fun _ => 0) A (fun _ => -1) sIM N8 G1) (hm : G1 m = none) (hM : MH m aM (ownOf m aM) sIM G2) (hk : ∀ q, q ≠ m → hu G1 m e0 q ≠ none → G2 q = hu G1 m e0 q) (hfr : ∀ k, marr k = true → hu G1 m e0 (aM k) = none) (ho : G2 o = none) : OW m o aM (own3 m o aM) ∧ TM E (own3 m o aM) aM m o (A 0 0) sIM sIM 0 (fun _ => True) (hu G2 o (hJ 1 (fun _ => 0))) := by
  have nm : m ≠ o := fun e => by rw [← e, hM.1] at ho; exact nomatch ho
  have na : ∀ k, marr k = true → aM k ≠ o := fun k hk e => by rw [← e, hM.2.1 k hk] at ho; exact nomatch ho
  have e1 : ∀ q, q ≠ o → own3 m o aM q = ownOf m aM q := fun q h => if_neg h
  have hOW : OW m o aM (own3 m o aM) := ⟨if_pos rfl, fun q hq => by
    have hqo : q ≠ o := fun e => by rw [e, own3, if_pos rfl] at hq; exact absurd hq (by decide)
    rw [e1 q hqo] at hq
    exact own_inv hq⟩
  refine ⟨hOW, ⟨(hu_n nm).trans hM.1, fun k hk => (hu_n (na k hk)).trans (hM.2.1 k hk), ⟨(e1 m nm).trans own_m, fun k hk => (e1 _ (na k hk)).trans (own_a hk)⟩, hM.2.2.2⟩, ⟨_, hu_s, trivial⟩, A, fun _ => -1, N8, ?_, inv_init, rfl⟩
  refine ch_to hH (fun a e ha _ => ?_) (fun q hq => ?_)
  · have n1 : a ≠ m := fun z => by rw [z, hm] at ha; exact nomatch ha
    have h1 : hu G1 m e0 a = some e := (hu_n n1).trans ha
    have h2 : G2 a = some e := (hk a n1 (by rw [h1]; exact fun z => nomatch z)).trans h1
    have n2 : a ≠ o := fun z => by rw [z, ho] at h2; exact nomatch h2
    refine ⟨(hu_n n2).trans h2, (e1 a n2).trans ?_⟩
    rcases own_01 (m := m) (aM := aM) (q := a) with z | z
    · rcases own_inv z with w | ⟨k, hk2, w⟩
      · exact absurd w n1
      · have := hfr k hk2
        rw [w, h1] at this
        exact nomatch this
    · exact z
  · by_cases e : q = o
    · rw [e, hu_s]; exact fun z => nomatch z
    · rw [e1 q e] at hq
      rw [hu_n e]
      rcases own_01 (m := m) (aM := aM) (q := q) with z | z
      · rcases own_inv z with w | ⟨k, hk2, w⟩
        · rw [w, hM.1]; exact fun z => nomatch z
        · rw [← w, hM.2.1 k hk2]; exact fun z => nomatch z
      · exact absurd z hq
set_option maxRecDepth 20000 in
set_option maxHeartbeats 4000000 in
theorem law_wp {E : XE} {P : Ps} (hL : E.2.2.2.1 ≤ 4096) (hP : ∀ G, P (.inl (some (.int 1))) G) : WX E 12 (yL_law, cL_law, some .boolean, []) 601024 7293034 P 0 [some (.ref E.2.2.1), none, none, none, none, none, none] [] (fun _ => none) 0 0 := by
  refine wp_newL (pc' := 3) 8 dL_law_0 nw_L_8 rfl (by omega) (by omega) rfl (fun kb hkb => ?_)
  refine wp_dup (pc' := 4) dL_law_3 rfl rfl ?_
  refine wp_i0 30 500 dL_law_4 ml_L_98 (Nat.le_of_ble_eq_true rfl) (by omega) (by omega) ?_
  refine q_init (d := 4) hu_s (by decide) (by decide) (fun A G1 hH hA0 => ?_)
  refine kt_u ?_
  refine wp_store (pc' := 8) (j := 1) (ls' := [_, _, _, _, _, _, _]) dL_law_7 rfl (Nat.le_of_ble_eq_true rfl) rfl rfl ?_
  refine wp_newL (pc' := 11) 57 dL_law_8 nw_L_99 rfl (by omega) (by omega) rfl (fun m hm => ?_)
  refine wp_dup (pc' := 12) dL_law_11 rfl rfl ?_
  refine wp_i0 46 2516 dL_law_12 ml_L_101 (Nat.le_of_ble_eq_true rfl) (by omega) (by omega) ?_
  refine p_init (d := 9) (hu_s.trans rfl) (by decide) (by decide) (fun aM G2 hM hk hfr => ?_)
  refine kt_u ?_
  refine wp_store (pc' := 16) (j := 2) (ls' := [_, _, _, _, _, _, _]) dL_law_15 rfl (Nat.le_of_ble_eq_true rfl) rfl rfl ?_
  refine wp_iconst (pc' := 17) (1) dL_law_16 rfl rfl ?_
  refine wp_newA (pc' := 19) 1 dL_law_17 aw_long rfl (by decide) rfl (by decide) (by omega) (by omega) rfl (fun o ho => ?_)
  refine wp_store (pc' := 20) (j := 3) (ls' := [_, _, _, _, _, _, _]) dL_law_19 rfl (Nat.le_of_ble_eq_true rfl) rfl rfl ?_
  refine wp_iconst (pc' := 21) (0) dL_law_20 rfl rfl ?_
  refine wp_store (pc' := 23) (j := 4) (ls' := [_, _, _, _, _, _, _]) dL_law_21 rfl (Nat.le_of_ble_eq_true rfl) rfl rfl ?_
  obtain ⟨hOW, hT⟩ := tm_start hH hm hM hk hfr ho
  rw [hA0] at hT
  exact l_law hOW hL hP 513 0 (by omega) _ _ _ none none _ _ (by omega) (by omega) hT
theorem kW_any {w : Jvm.Cond} (h : kW w = true) {A A' : Array Value} {s : State} (hb : w.before A s = true) : w.before A' s = true := by
  cases w <;> first
    | exact word_at (State.WarmedH.refl s) (good_of_word h) hb
    | exact va_any rfl hb
theorem ar_of {args : Array Value} {s : State} {ty : FieldType} (h : (Cond.arrayClass ty).before args s = true) (hn : ∀ c, s.vm.findClass ("[" ++ ty.toString) = some c → va_RA s c ty) : ∃ c : ClassId, ArrOfT s c ty ∧ va_RA s c ty := by
  obtain ⟨c, k, comp, h1, h2, h3⟩ := Cond.arrayClass_spec h
  exact ⟨c, fun n z => ⟨(fun k h => by cases h), k, h2, comp, h3⟩, hn c h1⟩
theorem ar_ob {s : State} {C : String} (h : va_AO C s) : ∃ c : ClassId, ArrOfT s c (.object C) ∧ va_RA s c (.object C) := by
  obtain ⟨comp, c, k, h1, h2, h3, h4, h5⟩ := Cond.arrayOver_spec h
  exact ⟨c, fun n z => ⟨(fun k h => by cases h), k, h3, comp, h4⟩, k, comp, h3, h4, h1, h5⟩
theorem vw_lt {c : Nat} {q : vw_C} (h : vwCl[c]? = some q) : c < 11 := (List.getElem?_eq_some_iff.mp h).1
theorem kn_of {args : Array Value} {s : State} (hts : ∀ w ∈ lw_tbl, w.before args s = true) {c : Nat} {q : vw_C} {ty : Nat → FieldType} (h : CLok c q ty) : ∃ z : ClassId × (Nat → Nat), ∀ q', vwCl[c]? = some q' → u_Kn s q'.1 q'.2.1 q'.2.2 z.1 z.2 := by
  obtain ⟨h1, h2, h3, h4, h5, h6⟩ := h
  obtain ⟨cC, iS, hk⟩ := u_known hts (fun w hw => (h2 w hw).1) (hts _ h5.1)
  exact ⟨(cC, iS), fun q' hq => by rw [h1] at hq; cases hq; exact hk⟩
set_option maxRecDepth 20000 in
set_option maxHeartbeats 4000000 in
theorem kn_all {args : Array Value} {s : State} (hts : ∀ w ∈ lw_tbl, w.before args s = true) : ∃ D : va_G, ∀ (c : Nat) (q : vw_C), vwCl[c]? = some q → u_Kn s q.1 q.2.1 q.2.2 (D.1 c) (D.2 c) := by
  have h : ∀ c : Nat, ∃ z : ClassId × (Nat → Nat), ∀ q', vwCl[c]? = some q' → u_Kn s q'.1 q'.2.1 q'.2.2 z.1 z.2 := fun c => by
    match c with
    | 0 => exact kn_of hts cl_0
    | 1 => exact kn_of hts cl_1
    | 2 => exact kn_of hts cl_2
    | 3 => exact kn_of hts cl_3
    | 4 => exact kn_of hts cl_4
    | 5 => exact kn_of hts cl_5
    | 6 => exact kn_of hts cl_6
    | 7 => exact kn_of hts cl_7
    | 8 => exact kn_of hts cl_8
    | 9 => exact kn_of hts cl_9
    | 10 => exact kn_of hts cl_10
    | n + 11 => exact ⟨((default : ClassId), fun _ => 0), fun q' hq => absurd (vw_lt hq) (by omega)⟩
  obtain ⟨f, hf⟩ := Classical.axiomOfChoice h
  exact ⟨(fun c => (f c).1, fun c => (f c).2), fun c q hq => hf c q hq⟩
set_option maxRecDepth 20000 in
set_option maxHeartbeats 4000000 in
theorem str_all {args : Array Value} {s : State} (hts : ∀ w ∈ lw_tbl, w.before args s = true) : ∀ q ∈ str_list, ∃ sa : Nat, vk_R q.1 q.2.1 q.2.2 sa s := by
  obtain ⟨cur, -, hcur, -⟩ := Cond.instantiable_spec (hts (.instantiable "KerbHours" 8) (List.mem_of_getElem? (i := 73) (by decide +kernel)))
  have go : ∀ (k : Nat) (tx : String), Cond.stringRef "KerbHours" k tx ∈ lw_tbl → ∃ sa : Nat, vk_R "KerbHours" k tx sa s := fun k tx h => by
    obtain ⟨-, -, -, a, -, -, -, -, -, hv⟩ := Cond.stringRef_spec hcur (hts _ h)
    exact ⟨a, vk_R.of (hts _ h) hv⟩
  intro q hq
  unfold str_list at hq
  simp only [List.mem_cons, List.not_mem_nil, or_false] at hq
  rcases hq with rfl | rfl | rfl | rfl | rfl | rfl | rfl | rfl | rfl | rfl | rfl | rfl | rfl
  · exact go _ _ (List.mem_of_getElem? (i := 488) (by decide +kernel))
  · exact go _ _ (List.mem_of_getElem? (i := 575) (by decide +kernel))
  · exact go _ _ (List.mem_of_getElem? (i := 621) (by decide +kernel))
  · exact go _ _ (List.mem_of_getElem? (i := 686) (by decide +kernel))
  · exact go _ _ (List.mem_of_getElem? (i := 834) (by decide +kernel))
  · exact go _ _ (List.mem_of_getElem? (i := 853) (by decide +kernel))
  · exact go _ _ (List.mem_of_getElem? (i := 861) (by decide +kernel))
  · exact go _ _ (List.mem_of_getElem? (i := 387) (by decide +kernel))
  · exact go _ _ (List.mem_of_getElem? (i := 421) (by decide +kernel))
  · exact go _ _ (List.mem_of_getElem? (i := 354) (by decide +kernel))
  · exact go _ _ (List.mem_of_getElem? (i := 310) (by decide +kernel))
  · exact go _ _ (List.mem_of_getElem? (i := 574) (by decide +kernel))
  · exact go _ _ (List.mem_of_getElem? (i := 811) (by decide +kernel))
set_option maxRecDepth 20000 in
set_option maxHeartbeats 4000000 in
theorem nc_all {args : Array Value} {s : State} (hgv : (Jvm.Cond.and given_1 narrow_1).before args s = true) : ∀ q ∈ nc_list, va_Nc q.1 q.2 s := by
  have hs := flat_of_before _ hgv
  intro q hq
  unfold nc_list at hq
  simp only [List.mem_cons, List.not_mem_nil, or_false] at hq
  rcases hq with rfl | rfl | rfl | rfl | rfl | rfl
  · exact va_Nc.of (hs (.not (.castable "java/lang/IllegalArgumentException" "java/lang/IllegalStateException")) (by decide +kernel))
  · exact va_Nc.of (hs (.not (.castable "java/lang/IllegalArgumentException" "java/lang/IndexOutOfBoundsException")) (by decide +kernel))
  · exact va_Nc.of (hs (.not (.castable "java/lang/IllegalStateException" "java/lang/IllegalArgumentException")) (by decide +kernel))
  · exact va_Nc.of (hs (.not (.castable "java/lang/IllegalStateException" "java/lang/IndexOutOfBoundsException")) (by decide +kernel))
  · exact va_Nc.of (hs (.not (.castable "java/lang/IndexOutOfBoundsException" "java/lang/IllegalArgumentException")) (by decide +kernel))
  · exact va_Nc.of (hs (.not (.castable "java/lang/IndexOutOfBoundsException" "java/lang/IllegalStateException")) (by decide +kernel))
set_option maxRecDepth 20000 in
set_option maxHeartbeats 4000000 in
theorem ks_start {s : State} {b L : Nat} {xs : Nat → Int32} (hts : ∀ w ∈ lw_tbl, w.before #[Value.ref b] s = true) (hX : va_X b L xs s s.heap) (hbl : b < s.heap.size) (hgv : (Jvm.Cond.and given_1 narrow_1).before #[Value.ref b] s = true) : ∃ (D : va_G) (c4 : C4) (e1 e2 : Nat), KS D c4 (fun q => s.heap.size ≤ q) (e1, e2, b, L, xs) s s.heap := by
  have hs := flat_of_before _ hgv
  have hA : ∀ a : Nat, a < s.heap.size → ¬ s.heap.size ≤ a := fun a h z => absurd h (by omega)
  obtain ⟨D, hD⟩ := kn_all hts
  have hao : va_AO "java/lang/Object" s := va_AO.of (hts _ (List.mem_of_getElem? (i := 215) (by decide +kernel)))
  obtain ⟨ci, hci⟩ := ar_of (ty := .int) (hts _ (List.mem_of_getElem? (i := 1063) (by decide +kernel))) (fun c h => h)
  obtain ⟨cz, hcz⟩ := ar_of (ty := .boolean) (hts _ (List.mem_of_getElem? (i := 163) (by decide +kernel))) (fun c h => h)
  obtain ⟨cj, hcj⟩ := ar_of (ty := .long) (hts _ (List.mem_of_getElem? (i := 1265) (by decide +kernel))) (fun c h => h)
  obtain ⟨co, hco⟩ := ar_ob hao
  obtain ⟨e1, he1, hT⟩ := va_Tof (tm := (.static "java/util/ArrayList" "DEFAULTCAPACITY_EMPTY_ELEMENTDATA" "[Ljava/lang/Object;")) (ty := .object "java/lang/Object") (N := 0) (f := fun _ => .null) (A := fun q => s.heap.size ≤ q) (by decide) (hs (.arrayOf (.static "java/util/ArrayList" "DEFAULTCAPACITY_EMPTY_ELEMENTDATA" "[Ljava/lang/Object;") (.object "java/lang/Object")) (by decide +kernel)) (va_eqt (hs (.eq (.length (.static "java/util/ArrayList" "DEFAULTCAPACITY_EMPTY_ELEMENTDATA" "[Ljava/lang/Object;")) (.int 0)) (by decide +kernel))) (fun j hj => absurd hj (Nat.not_lt_zero _)) hA
  obtain ⟨e2, hmi⟩ := va_Mi.of (hs (.isRef (.mirror "[Ljava/lang/Object;")) (by decide +kernel))
  refine ⟨D, (ci, cz, cj, co), e1, e2, fun w hw => kW_any hw.2 (hts w hw.1), ⟨hD, fun k q hk => ?_⟩, va_Zof (hts _ (List.mem_of_getElem? (i := 93) (by decide +kernel))) (hts _ (List.mem_of_getElem? (i := 50) (by decide +kernel))) he1 hA, hT, vx_Zqof (hts _ (List.mem_of_getElem? (i := 296) (by decide +kernel))) (hts _ (List.mem_of_getElem? (i := 58) (by decide +kernel))) (hs (.isRef (.static "java/lang/Throwable" "UNASSIGNED_STACK" "[Ljava/lang/StackTraceElement;")) (by decide +kernel)) hA, vx_Zqof (hts _ (List.mem_of_getElem? (i := 298) (by decide +kernel))) (hts _ (List.mem_of_getElem? (i := 58) (by decide +kernel))) (hs (.isRef (.static "java/lang/Throwable" "SUPPRESSED_SENTINEL" "Ljava/util/List;")) (by decide +kernel)) hA, hmi, str_all hts, hao, nc_all hgv, hX, hA b hbl, hbl, fun q h => h⟩
  match k, hk with
  | 0, hk => cases hk; exact hci
  | 1, hk => cases hk; exact hcz
  | 2, hk => cases hk; exact hcj
  | 3, hk => cases hk; exact hco
  | n + 4, hk => cases hk
