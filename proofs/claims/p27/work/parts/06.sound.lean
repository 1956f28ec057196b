/-! SOUNDNESS of the core: the machine does what the rules say -/
theorem kW_use {w : Jvm.Cond} (h : kW w = true) {args : Array Value} {s : State} (hb : w.before #[] s = true) : w.before args s = true := by
  cases w <;> first
    | exact word_at (State.WarmedH.refl s) (good_of_word h) hb
    | exact va_any rfl hb
theorem kW_warm {w : Jvm.Cond} (h : kW w = true) {s U : State} (hW : s.WarmedH U.vm) (hb : w.before #[] s = true) : w.before #[] U = true := by
  cases w <;> first
    | exact word_at hW (good_of_word h) hb
    | exact va_Nw.warmC hW hb
    | exact va_Nw.warmD hW hb
    | exact va_Nw.warmM hW hb
/-- what stays with the machine through the whole run -/
def KS (D : va_G) (c4 : C4) (A : Nat → Prop) (E : XE) (s : State) (H : Heap) : Prop :=
  (∀ w, tW w → w.before #[] s = true) ∧ va_K D vwCl (ty4 c4) s ∧
  va_Z "java/util/ArrayList" "DEFAULTCAPACITY_EMPTY_ELEMENTDATA" "[Ljava/lang/Object;" (.ref E.1) A s H ∧ va_T (.object "java/lang/Object") E.1 0 (fun _ => .null) A s H ∧
  vx_Zq Bundle.tN "UNASSIGNED_STACK" Bundle.steD A s H ∧ vx_Zq Bundle.tN "SUPPRESSED_SENTINEL" Bundle.listD A s H ∧
  va_Mi "[Ljava/lang/Object;" E.2.1 s ∧ (∀ q ∈ str_list, ∃ sa : Nat, vk_R q.1 q.2.1 q.2.2 sa s) ∧ va_AO "java/lang/Object" s ∧ (∀ q ∈ nc_list, va_Nc q.1 q.2 s) ∧
  va_X E.2.2.1 E.2.2.2.1 E.2.2.2.2 s H ∧ ¬ A E.2.2.1 ∧ E.2.2.1 < H.size ∧ (∀ q, H.size ≤ q → A q)
theorem KS.moved {D : va_G} {c4 : C4} {A : Nat → Prop} {E : XE} {s U : State} {H H1 : Heap} (hW : s.WarmedH U.vm) (hz : H.size ≤ H1.size) (hq : ∀ a : Nat, a < H.size → ¬ A a → H1[a]? = H[a]?) (h : KS D c4 A E s H) : KS D c4 A E U H1 := by
  obtain ⟨h1, h2, h3, h4, h5, h6, h7, h8, h9, h10, h11, h12, h13, h14⟩ := h
  exact ⟨fun w hw => kW_warm hw.2 hW (h1 w hw), va_K.moved hW.alike h2, (va_Z.moved hW.alike h3).kept hq, (va_T.moved hW.alike h4).kept hq, (vx_Zq.moved hW.alike h5).kept hq, (vx_Zq.moved hW.alike h6).kept hq, va_Mi.moved hW.alike h7, fun q hm => by obtain ⟨sa, h⟩ := h8 q hm; exact ⟨sa, vk_R.warm hW h⟩, va_AO.moved hW.alike h9, fun q hm => va_Nc.moved hW.alike (h10 q hm), (va_X.moved hW.alike h11).kept (hq _ h13 h12), h12, Nat.lt_of_lt_of_le h13 hz, fun q h => h14 q (Nat.le_trans hz h)⟩
/-- the heap H holds the pure heap G -/
def Rep (D : va_G) (c4 : C4) (A : Nat → Prop) (G : HP) (H : Heap) : Prop := ∃ ws : va_W, va_P D vwCl ws H ∧ va_D A ws ∧ (∀ a e, G a = some e → ∃ k : Nat, ws[k]? = some (a, eW c4 e)) ∧ ∀ (k : Nat) (q : Nat × va_E), ws[k]? = some q → G q.1 ≠ none
theorem Rep.kept {D : va_G} {c4 : C4} {A : Nat → Prop} {G : HP} {H H1 : Heap} (h : Rep D c4 A G H) (hq : ∀ q : Nat, q < H.size → H1[q]? = H[q]?) : Rep D c4 A G H1 := by
  obtain ⟨ws, h1, h2, h3, h4⟩ := h
  exact ⟨ws, h1.kept fun k q hk => hq q.1 (h1 k q hk).lt, h2, h3, h4⟩
/-- the same cells, one of them anew -/
theorem rep_set {c4 : C4} {A : Nat → Prop} {G : HP} {ws : va_W} {a k0 : Nat} {e0 e : HE} (h2 : va_D A ws) (h3 : ∀ a e, G a = some e → ∃ k : Nat, ws[k]? = some (a, eW c4 e)) (h4 : ∀ (k : Nat) (q : Nat × va_E), ws[k]? = some q → G q.1 ≠ none) (hk : ws[k0]? = some (a, eW c4 e0)) :
    (∀ b e', hu G a e b = some e' → ∃ k : Nat, (ws.set k0 (a, eW c4 e))[k]? = some (b, eW c4 e')) ∧ ∀ (k : Nat) (q : Nat × va_E), (ws.set k0 (a, eW c4 e))[k]? = some q → hu G a e q.1 ≠ none := by
  have hl := (List.getElem?_eq_some_iff.mp hk).1
  refine ⟨fun b e' hb => ?_, fun k q hq => ?_⟩
  · by_cases hab : b = a
    · subst hab
      rw [hu_s] at hb
      cases hb
      exact ⟨k0, List.getElem?_set_self hl⟩
    · rw [hu_n hab] at hb
      obtain ⟨k, h⟩ := h3 b e' hb
      refine ⟨k, ?_⟩
      rw [List.getElem?_set_ne]
      · exact h
      · intro z
        subst z
        rw [hk] at h
        exact hab (Prod.mk.inj (Option.some.inj h)).1.symm
  · by_cases hkk : k0 = k
    · subst hkk
      rw [List.getElem?_set_self hl] at hq
      cases hq
      rw [hu_s]
      exact fun z => nomatch z
    · rw [List.getElem?_set_ne hkk] at hq
      by_cases hab : q.1 = a
      · rw [hab, hu_s]; exact fun z => nomatch z
      · rw [hu_n hab]; exact h4 k q hq
/-- the same cells and a new one -/
theorem rep_push {c4 : C4} {G : HP} {ws : va_W} {a : Nat} {e : HE} (h3 : ∀ a e, G a = some e → ∃ k : Nat, ws[k]? = some (a, eW c4 e)) (h4 : ∀ (k : Nat) (q : Nat × va_E), ws[k]? = some q → G q.1 ≠ none) :
    (∀ b e', hu G a e b = some e' → ∃ k : Nat, (ws ++ [(a, eW c4 e)])[k]? = some (b, eW c4 e')) ∧ ∀ (k : Nat) (q : Nat × va_E), (ws ++ [(a, eW c4 e)])[k]? = some q → hu G a e q.1 ≠ none := by
  refine ⟨fun b e' hb => ?_, fun k q hq => ?_⟩
  · by_cases hab : b = a
    · subst hab
      rw [hu_s] at hb
      cases hb
      exact ⟨ws.length, by rw [List.getElem?_append_right (Nat.le_refl _), Nat.sub_self]; rfl⟩
    · rw [hu_n hab] at hb
      obtain ⟨k, h⟩ := h3 b e' hb
      exact ⟨k, by rw [List.getElem?_append_left (List.getElem?_eq_some_iff.mp h).1]; exact h⟩
  · by_cases hab : q.1 = a
    · rw [hab, hu_s]; exact fun z => nomatch z
    · rw [hu_n hab]
      by_cases hl : k < ws.length
      · rw [List.getElem?_append_left hl] at hq
        exact h4 k q hq
      · rw [List.getElem?_append_right (by omega)] at hq
        have hz : k - ws.length < 1 := (List.getElem?_eq_some_iff.mp hq).1
        rw [show k - ws.length = 0 by omega] at hq
        cases hq
        exact absurd rfl hab
theorem rep_none {D : va_G} {c4 : C4} {A : Nat → Prop} {G : HP} {ws : va_W} {a : Nat} {e : va_E} (h2 : va_D A (ws ++ [(a, e)])) (h3 : ∀ a e, G a = some e → ∃ k : Nat, ws[k]? = some (a, eW c4 e)) : G a = none := by
  cases hg : G a with
  | none => rfl
  | some e' =>
    obtain ⟨k, h⟩ := h3 a e' hg
    have hl := (List.getElem?_eq_some_iff.mp h).1
    have := h2.1 k ws.length (a, eW c4 e') (a, e) (by rw [List.getElem?_append_left hl]; exact h) (by rw [List.getElem?_append_right (Nat.le_refl _), Nat.sub_self]; rfl) rfl
    omega
/-- the frame's locals -/
def LR (arr : Array Slot) (nL : Nat) (ls : List (Option Value)) : Prop := ls.length = nL ∧ arr.size = nL ∧ lv_wf arr ∧ (∀ (i : Nat) (v : Value), ls[i]? = some (some v) → arr[i]? = some (.val v) ∧ v1 v)
def lvO (ls : List (Option Value)) : List (Nat × Value) := (List.range ls.length).filterMap fun i => (lget ls i).map fun v => (i, v)
theorem lget_some {ls : List (Option Value)} {i : Nat} {v : Value} (h : lget ls i = some v) : ls[i]? = some (some v) := by
  unfold lget at h
  split at h
  · next v' hv => cases h; exact hv
  · cases h
theorem lget_of {ls : List (Option Value)} {i : Nat} {v : Value} (h : ls[i]? = some (some v)) : lget ls i = some v := by
  unfold lget; rw [h]
theorem LR.has {arr : Array Slot} {nL : Nat} {ls : List (Option Value)} (h : LR arr nL ls) : lv_has arr nL (lvO ls) := by
  refine ⟨h.2.1, h.2.2.1, fun q hq => ?_⟩
  obtain ⟨i, -, hi⟩ := List.mem_filterMap.mp hq
  cases hg : lget ls i with
  | none => rw [hg] at hi; cases hi
  | some v =>
    rw [hg] at hi
    cases hi
    exact (h.2.2.2 i v (lget_some hg)).1
theorem LR.get {arr : Array Slot} {nL : Nat} {ls : List (Option Value)} (h : LR arr nL ls) {i : Nat} {v : Value} (hi : lget ls i = some v) : arr[i]? = some (.val v) := (h.2.2.2 i v (lget_some hi)).1
theorem lvO_mem {ls : List (Option Value)} {i : Nat} {v : Value} (h : ls[i]? = some (some v)) : (i, v) ∈ lvO ls := by
  refine List.mem_filterMap.mpr ⟨i, List.mem_range.mpr (List.getElem?_eq_some_iff.mp h).1, ?_⟩
  rw [lget_of h]; rfl
/-- behind a store -/
theorem LR.put {arr arr' : Array Slot} {nL j : Nat} {ls : List (Option Value)} {v : Value} (h : LR arr nL ls) (hv : v1 v) (hj : j < nL) (hh : lv_has arr' nL ((j, v) :: (lvO ls).filter (fun q => !(q.1 == j) && !(q.1 + 1 == j && q.2.category == 2)))) : LR arr' nL (ls.set j (some v)) := by
  refine ⟨by rw [List.length_set]; exact h.1, hh.1, hh.2.1, fun i w hi => ?_⟩
  by_cases hij : j = i
  · subst hij
    rw [List.getElem?_set_self (by rw [h.1]; exact hj)] at hi
    cases hi
    exact ⟨hh.2.2 (j, v) List.mem_cons_self, hv⟩
  · rw [List.getElem?_set_ne hij] at hi
    have hc := (h.2.2.2 i w hi).2
    refine ⟨hh.2.2 (i, w) (List.mem_cons_of_mem _ (List.mem_filter.mpr ⟨lvO_mem hi, ?_⟩)), hc⟩
    have h1 : (i == j) = false := by rw [beq_eq_false_iff_ne]; exact fun z => hij z.symm
    have h2 : (w.category == 2) = false := by
      unfold v1 at hc
      rw [hc]; rfl
    show (!(i == j) && !(i + 1 == j && w.category == 2)) = true
    rw [h1, h2, Bool.and_false]; rfl
theorem LR.put_iinc {arr arr' : Array Slot} {nL j k : Nat} {ls : List (Option Value)} {v w : Value} (h : LR arr nL ls) (hv : v1 v) (hj : j < nL) (hh : lv_has arr' nL ((j, v) :: (lvO ls).filter (fun q => !(q.1 == j) && !(q.1 + 1 == j && q.2.category == 2)))) : LR arr' nL (ls.set j (some v)) := h.put hv hj hh
theorem lvO_at {ls : List (Option Value)} {j : Nat} {v : Value} (h : lget ls j = some v) : ∃ k : Nat, (lvO ls)[k]? = some (j, v) := List.getElem?_of_mem (lvO_mem (lget_some h))
