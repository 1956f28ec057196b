/-! the reference: its constructor -/
def s0M : MS := (fun _ => 0, fun _ _ => 0, fun _ _ => false)
def nV (a : Nat → Nat) (k j : Nat) : Value := if marr j = true then (if j < k then .ref (a j) else .null) else .int 0
def nF (a : Nat → Nat) (k : Nat) : List Value := (List.range 57).map (nV a k)
theorem nF_set (a : Nat → Nat) (k x : Nat) (hk : marr k = true) : (nF a k).set k (.ref x) = nF (va_up a k x) (k + 1) := by
  unfold nF
  refine List.ext_getElem (by simp) (fun i h1 h2 => ?_)
  rw [List.getElem_set]
  simp only [List.getElem_map, List.getElem_range]
  unfold nV va_up
  by_cases e : k = i
  · subst e
    rw [if_pos rfl, if_pos hk, if_pos (by omega), if_pos rfl]
  · rw [if_neg e]
    by_cases hi : marr i = true
    · rw [if_pos hi, if_pos hi, if_neg (show ¬ i = k from fun z => e z.symm)]
      by_cases hl : i < k
      · rw [if_pos hl, if_pos (by omega)]
      · rw [if_neg hl, if_neg (by omega)]
    · rw [if_neg hi, if_neg hi]
theorem nF_skip (a : Nat → Nat) {k k' : Nat} (h : ∀ j, j < 57 → k ≤ j → j < k' → marr j = false) (hk : k ≤ k') : nF a k = nF a k' := by
  unfold nF
  refine List.ext_getElem (by simp) (fun i h1 h2 => ?_)
  simp only [List.getElem_map, List.getElem_range]
  have h3 : i < 57 := by simpa using h1
  unfold nV
  by_cases hi : marr i = true
  · rw [if_pos hi, if_pos hi]
    by_cases hl : i < k
    · rw [if_pos hl, if_pos (by omega)]
    · rw [if_neg hl, if_neg (fun z => by rw [h i h3 (by omega) z] at hi; exact absurd hi (by decide))]
  · rw [if_neg hi, if_neg hi]
def NI (m : Nat) (G0 : HP) (a : Nat → Nat) (k : Nat) (G : HP) : Prop := G m = some (hO 10 (nF a k)) ∧ (∀ i, i < k → marr i = true → G (a i) = some (mcell s0M i) ∧ G0 (a i) = none ∧ a i ≠ m) ∧ (∀ i j, i < k → j < k → marr i = true → marr j = true → a i = a j → i = j) ∧ ∀ q, q ≠ m → G0 q ≠ none → G q = G0 q
theorem marr_lt {k : Nat} (h : marr k = true) : k < 56 := by
  unfold marr mlen at h
  split at h <;> first | omega | exact absurd h (by decide)
theorem ni_step {m x k : Nat} {G0 G : HP} {a : Nat → Nat} (k' : Nat) (h : NI m G0 a k G) (hk : marr k = true) (hx : G x = none) (hs : ∀ j, j < 57 → k + 1 ≤ j → j < k' → marr j = false) (hkk : k + 1 ≤ k') : NI m G0 (va_up a k x) k' (hu (hu G x (mcell s0M k)) m (hO 10 ((nF a k).set k (.ref x)))) := by
  obtain ⟨h1, h2, h3, h4⟩ := h
  have hxm : x ≠ m := fun e => by rw [e, h1] at hx; exact nomatch hx
  have hlt : ∀ i, i < k' → marr i = true → i < k ∨ i = k := fun i hi hm => by
    rcases Nat.lt_or_ge i (k + 1) with q | q
    · omega
    · have := hs i (by have := marr_lt hm; omega) q hi
      rw [this] at hm; exact absurd hm (by decide)
  have hne : ∀ i, i < k → marr i = true → a i ≠ x := fun i hi hm e => by
    have := (h2 i hi hm).1
    rw [e, hx] at this; exact nomatch this
  have hup : ∀ i, i < k → va_up a k x i = a i := fun i hi => by unfold va_up; rw [if_neg (by omega)]
  have hus : va_up a k x k = x := by unfold va_up; rw [if_pos rfl]
  refine ⟨by rw [hu_s, nF_set a k x hk, nF_skip _ hs hkk], fun i hi hm => ?_, fun i j hi hj hm hm' e => ?_, fun q hq h0 => ?_⟩
  · rcases hlt i hi hm with q | q
    · rw [hup i q, hu_n (h2 i q hm).2.2, hu_n (hne i q hm)]
      exact h2 i q hm
    · subst q
      rw [hus, hu_n hxm, hu_s]
      refine ⟨rfl, ?_, hxm⟩
      cases hc : G0 x with
      | none => rfl
      | some w =>
        have := h4 x hxm (by rw [hc]; exact fun z => nomatch z)
        rw [hx, hc] at this; exact nomatch this
  · rcases hlt i hi hm with q | q <;> rcases hlt j hj hm' with r | r
    · rw [hup i q, hup j r] at e; exact h3 i j q r hm hm' e
    · subst r; rw [hup i q, hus] at e; exact absurd e (hne i q hm)
    · subst q; rw [hup j r, hus] at e; exact absurd e.symm (hne j r hm')
    · omega
  · rw [hu_n hq, hu_n (fun e => by rw [e] at h0; exact h0 (by
      cases hc : G0 x with
      | none => rfl
      | some w =>
        have := h4 x hxm (by rw [hc]; exact fun z => nomatch z)
        rw [hx, hc] at this; exact nomatch this))]
    exact h4 q hq h0
def ownOf (m : Nat) (aM : Nat → Nat) (q : Nat) : Nat := if q = m then 1 else if (List.range 57).any (fun k => marr k && aM k == q) = true then 1 else 0
theorem own_m {m : Nat} {aM : Nat → Nat} : ownOf m aM m = 1 := if_pos rfl
theorem own_a {m : Nat} {aM : Nat → Nat} {k : Nat} (h : marr k = true) : ownOf m aM (aM k) = 1 := by
  unfold ownOf
  split
  · rfl
  · rw [if_pos]
    rw [List.any_eq_true]
    exact ⟨k, List.mem_range.2 (by have := marr_lt h; omega), by rw [h, Bool.true_and, beq_self_eq_true]⟩
theorem own_inv {m : Nat} {aM : Nat → Nat} {q : Nat} (h : ownOf m aM q = 1) : q = m ∨ ∃ k, marr k = true ∧ aM k = q := by
  unfold ownOf at h
  split at h
  · exact Or.inl ‹_›
  · split at h
    · next h2 =>
      rw [List.any_eq_true] at h2
      obtain ⟨k, -, h3⟩ := h2
      rw [Bool.and_eq_true, beq_iff_eq] at h3
      exact Or.inr ⟨k, h3⟩
    · exact absurd h (by decide)
theorem ni_mh {m : Nat} {G0 G : HP} {a : Nat → Nat} (h : NI m G0 a 57 G) : MH m a (ownOf m a) s0M G := ⟨h.1, fun k hk => (h.2.1 k (by have := marr_lt hk; omega) hk).1, ⟨own_m, fun k hk => own_a hk⟩, fun i k hi hk e => h.2.2.1 i k (by have := marr_lt hi; omega) (by have := marr_lt hk; omega) hi hk e⟩
theorem ni_fr {m : Nat} {G0 G G' : HP} {a : Nat → Nat} (h : NI m G0 a 57 G) (hf : Fr1 (ownOf m a) G G') : ∀ q, q ≠ m → G0 q ≠ none → G' q = G0 q := fun q hq h0 => by
  rw [hf q (fun e => by
    rcases own_inv e with z | ⟨k, hk, z⟩
    · exact hq z
    · rw [← z] at h0; exact h0 (h.2.1 k (by have := marr_lt hk; omega) hk).2.1)]
  exact h.2.2.2 q hq h0
def prF (σ : MS) : Nat → MS
  | 0 => σ
  | k + 1 => mar (prF σ k) 52 k 4
def sIM : MS := prF (rsF s0M) 4
section
variable {E : XE} {d mc ms : Nat} {P : Ps} {M : ME} {ls : List (Option Value)} {st : List Value} {k n pc pc' : Nat}
theorem wp_nar {m : Nat} {G0 G : HP} {a : Nat → Nat} {kf i : Nat} {x : Int32} (kf' : Nat) (hI : NI m G0 a kf G) (hk : marr kf = true) {ty : ArrayType} (N : Nat) (hd : decode M.2.1 pc = .ok (.newarray ty, 2)) (hf : tW (.arrayClass (newarray.typeOf ty))) (he : arZ ty N = some (mcell s0M kf)) (h0 : ¬ x < 0) (hN : x.toNatClampNeg = N) (hb : N ≤ 1000000) (hmc : k + 1 ≤ mc) (hms : n + N ≤ ms) {t : FieldType} {de : String} (hd2 : decode M.2.1 (pc + 2) = .ok (.putfield i, 3)) (hf2 : FL M.1.cls i 10 kf t true de) (hi : M.1.name = "<init>") (hc : de = M.1.cls) (hn : ∀ z, narrow t (.ref z) = .ref z) (ht : ∀ z, fits t (.ref z) = true) (hs : ∀ j, j < 57 → kf + 1 ≤ j → j < kf' → marr j = false) (hkk : kf + 1 ≤ kf') (hq : pc + 2 + 3 = pc') (h : ∀ a' G', NI m G0 a' kf' G' → WX E d M mc ms P pc' ls st G' (k + 1) (n + N)) : WX E d M mc ms P pc ls (.int x :: .ref m :: st) G k n := by
  refine wp_newA N hd hf he h0 hN hb hmc hms rfl (fun y hy => ?_)
  have hym : y ≠ m := fun e => by rw [e, hI.1] at hy; exact nomatch hy
  refine wp_putF hd2 hf2 hi hc ((hu_n hym.symm).trans hI.1) (by have := marr_lt hk; simp [nF]; omega) (hn y) (ht y) rfl hq (h (va_up a kf y) _ (ni_step kf' hI hk hy hs hkk))
end
theorem hzI {N kf : Nat} (h : mbool kf = false := by decide) (h2 : mlen kf = N := by decide) : arZ .int N = some (mcell s0M kf) := by
  unfold mcell; rw [h, h2]; rfl
theorem hzZ {N kf : Nat} (h : mbool kf = true := by decide) (h2 : mlen kf = N := by decide) : arZ .boolean N = some (mcell s0M kf) := by
  unfold mcell; rw [h, h2]
  exact congrArg some (congrArg (hZ N) (funext fun _ => b2i_f.symm))
set_option maxRecDepth 20000 in
set_option maxHeartbeats 2000000 in
theorem l_init {E : XE} {d0 d mc ms : Nat} {P : Ps} (hd : d = d0 + 1) {m : Nat} {aM own : Nat → Nat} {σ : MS} {G0 : HP} {kc nc : Nat} (hP : ∀ G', MH m aM own (prF σ 4) G' → Fr1 own G0 G' → P (.inl none) G') : ∀ j k, k + j = 4 → ∀ (G : HP), ∀ (hM : MH m aM own (prF σ k) G), ∀ (hF : Fr1 own G0 G), WX E d (yX9_init, cX9_init, none, []) mc ms P 371 [some (.ref m), some (.int (nI k))] [] G kc nc
  | 0, k, hk, G, hM, hF => by
    subst hd
    obtain ⟨hm, hA, -⟩ := id hM
    refine wp_load (pc' := 372) (j := 1) dX9_init_371 rfl rfl rfl ?_
    refine wp_iconst (pc' := 373) (4) dX9_init_372 rfl rfl ?_
    refine wp_icmpT 389 dX9_init_373 rfl (cgeT (n := 4) rfl (by omega) (by omega)) ?_
    refine wp_vret dX9_init_389 rfl ?_
    obtain rfl : k = 4 := by omega
    exact hP _ hM hF
  | j + 1, k, hk, G, hM, hF => by
    have ih := l_init (E := E) (d := d) (mc := mc) (ms := ms) (kc := kc) (nc := nc) hd hP j (k + 1) (by omega)
    subst hd
    obtain ⟨hm, hA, -⟩ := id hM
    refine wp_load (pc' := 372) (j := 1) dX9_init_371 rfl rfl rfl ?_
    refine wp_iconst (pc' := 373) (4) dX9_init_372 rfl rfl ?_
    refine wp_icmpF (pc' := 376) 389 dX9_init_373 rfl rfl (cgeF (n := 4) rfl (by omega) (by decide)) ?_
    refine wp_load (pc' := 377) (j := 0) dX9_init_376 rfl rfl rfl ?_
    refine wp_get (pc' := 380) dX9_init_377 fl_X9_134 hm rfl rfl ?_
    refine wp_load (pc' := 381) (j := 1) dX9_init_380 rfl rfl rfl ?_
    refine wp_iconst (pc' := 382) (4) dX9_init_381 rfl rfl ?_
    refine wp_mia (pc' := 383) hM hF 52 (by decide) (by decide) dX9_init_382 rfl (show k < 4 from by omega) (by decide) rfl (fun G1 hM1 hF1 => ?_)
    obtain ⟨hm1, hA1, -⟩ := id hM1
    refine wp_iinc (pc' := 386) (j := 1) (ls' := [_, _]) (nI (k + 1)) dX9_init_383 rfl (nI_1 k) rfl rfl ?_
    refine wp_goto 371 dX9_init_386 rfl ?_
    exact ih _ hM1 hF1

set_option maxRecDepth 20000 in
set_option maxHeartbeats 4000000 in
theorem p_init {E : XE} {d mc ms : Nat} {G : HP} {P : Ps} {m : Nat} (hm0 : G m = some (hO 10 (nF (fun _ => 0) 0))) (hmc : 46 ≤ mc) (hms : 2516 ≤ ms) (hP : ∀ aM G', MH m aM (ownOf m aM) sIM G' → (∀ q, q ≠ m → G q ≠ none → G' q = G q) → (∀ k, marr k = true → G (aM k) = none) → P (.inl none) G') : Sp E (d + 3) yX9_init mc ms [.ref m] G P := by
  refine sp_intro bd_X9_init (v1_all rfl) (Nat.le_of_ble_eq_true rfl) ?_
  change WX _ _ _ _ _ _ 0 [some (.ref m), none] [] _ 0 0
  refine wp_load (pc' := 1) (j := 0) dX9_init_0 rfl rfl rfl ?_
  refine wp_obj (pc' := 4) dX9_init_1 ol_X9_1 (Nat.le_of_ble_eq_true rfl) rfl ?_
  have hI0 : NI m G (fun _ => 0) 1 G := by
    refine ⟨by rw [hm0]; exact congrArg some (congrArg (hO 10) (nF_skip _ (by decide) (by decide))), fun i hi h => ?_, fun i k hi hk _ _ _ => by omega, fun _ _ _ => rfl⟩
    obtain rfl : i = 0 := by omega
    exact absurd h (by decide)
  refine wp_load (pc' := 5) (j := 0) dX9_init_4 rfl rfl rfl ?_
  refine wp_sipush (pc' := 8) (240) dX9_init_5 rfl rfl ?_
  refine wp_nar (pc' := 13) 8 hI0 (by decide) 240 dX9_init_8 aw_boolean hzZ (by decide) rfl (by decide) (by omega) (by omega) dX9_init_10 fl_X9_7 rfl rfl (fun _ => rfl) (fun _ => rfl) (by decide) (by decide) rfl (fun a1 G1 hI1 => ?_)
  refine wp_load (pc' := 14) (j := 0) dX9_init_13 rfl rfl rfl ?_
  refine wp_bipush (pc' := 16) (30) dX9_init_14 rfl rfl ?_
  refine wp_nar (pc' := 21) 9 hI1 (by decide) 30 dX9_init_16 aw_int hzI (by decide) rfl (by decide) (by omega) (by omega) dX9_init_18 fl_X9_13 rfl rfl (fun _ => rfl) (fun _ => rfl) (by decide) (by decide) rfl (fun a2 G2 hI2 => ?_)
  refine wp_load (pc' := 22) (j := 0) dX9_init_21 rfl rfl rfl ?_
  refine wp_bipush (pc' := 24) (30) dX9_init_22 rfl rfl ?_
  refine wp_nar (pc' := 29) 10 hI2 (by decide) 30 dX9_init_24 aw_int hzI (by decide) rfl (by decide) (by omega) (by omega) dX9_init_26 fl_X9_17 rfl rfl (fun _ => rfl) (fun _ => rfl) (by decide) (by decide) rfl (fun a3 G3 hI3 => ?_)
  refine wp_load (pc' := 30) (j := 0) dX9_init_29 rfl rfl rfl ?_
  refine wp_bipush (pc' := 32) (30) dX9_init_30 rfl rfl ?_
  refine wp_nar (pc' := 37) 11 hI3 (by decide) 30 dX9_init_32 aw_int hzI (by decide) rfl (by decide) (by omega) (by omega) dX9_init_34 fl_X9_20 rfl rfl (fun _ => rfl) (fun _ => rfl) (by decide) (by decide) rfl (fun a4 G4 hI4 => ?_)
  refine wp_load (pc' := 38) (j := 0) dX9_init_37 rfl rfl rfl ?_
  refine wp_bipush (pc' := 40) (30) dX9_init_38 rfl rfl ?_
  refine wp_nar (pc' := 45) 12 hI4 (by decide) 30 dX9_init_40 aw_int hzI (by decide) rfl (by decide) (by omega) (by omega) dX9_init_42 fl_X9_23 rfl rfl (fun _ => rfl) (fun _ => rfl) (by decide) (by decide) rfl (fun a5 G5 hI5 => ?_)
  refine wp_load (pc' := 46) (j := 0) dX9_init_45 rfl rfl rfl ?_
  refine wp_bipush (pc' := 48) (30) dX9_init_46 rfl rfl ?_
  refine wp_nar (pc' := 53) 13 hI5 (by decide) 30 dX9_init_48 aw_int hzI (by decide) rfl (by decide) (by omega) (by omega) dX9_init_50 fl_X9_26 rfl rfl (fun _ => rfl) (fun _ => rfl) (by decide) (by decide) rfl (fun a6 G6 hI6 => ?_)
  refine wp_load (pc' := 54) (j := 0) dX9_init_53 rfl rfl rfl ?_
  refine wp_bipush (pc' := 56) (30) dX9_init_54 rfl rfl ?_
  refine wp_nar (pc' := 61) 14 hI6 (by decide) 30 dX9_init_56 aw_boolean hzZ (by decide) rfl (by decide) (by omega) (by omega) dX9_init_58 fl_X9_29 rfl rfl (fun _ => rfl) (fun _ => rfl) (by decide) (by decide) rfl (fun a7 G7 hI7 => ?_)
  refine wp_load (pc' := 62) (j := 0) dX9_init_61 rfl rfl rfl ?_
  refine wp_bipush (pc' := 64) (30) dX9_init_62 rfl rfl ?_
  refine wp_nar (pc' := 69) 15 hI7 (by decide) 30 dX9_init_64 aw_boolean hzZ (by decide) rfl (by decide) (by omega) (by omega) dX9_init_66 fl_X9_32 rfl rfl (fun _ => rfl) (fun _ => rfl) (by decide) (by decide) rfl (fun a8 G8 hI8 => ?_)
  refine wp_load (pc' := 70) (j := 0) dX9_init_69 rfl rfl rfl ?_
  refine wp_bipush (pc' := 72) (30) dX9_init_70 rfl rfl ?_
  refine wp_nar (pc' := 77) 16 hI8 (by decide) 30 dX9_init_72 aw_int hzI (by decide) rfl (by decide) (by omega) (by omega) dX9_init_74 fl_X9_35 rfl rfl (fun _ => rfl) (fun _ => rfl) (by decide) (by decide) rfl (fun a9 G9 hI9 => ?_)
  refine wp_load (pc' := 78) (j := 0) dX9_init_77 rfl rfl rfl ?_
  refine wp_bipush (pc' := 80) (30) dX9_init_78 rfl rfl ?_
  refine wp_nar (pc' := 85) 17 hI9 (by decide) 30 dX9_init_80 aw_int hzI (by decide) rfl (by decide) (by omega) (by omega) dX9_init_82 fl_X9_38 rfl rfl (fun _ => rfl) (fun _ => rfl) (by decide) (by decide) rfl (fun a10 G10 hI10 => ?_)
  refine wp_load (pc' := 86) (j := 0) dX9_init_85 rfl rfl rfl ?_
  refine wp_bipush (pc' := 88) (30) dX9_init_86 rfl rfl ?_
  refine wp_nar (pc' := 93) 18 hI10 (by decide) 30 dX9_init_88 aw_int hzI (by decide) rfl (by decide) (by omega) (by omega) dX9_init_90 fl_X9_41 rfl rfl (fun _ => rfl) (fun _ => rfl) (by decide) (by decide) rfl (fun a11 G11 hI11 => ?_)
  refine wp_load (pc' := 94) (j := 0) dX9_init_93 rfl rfl rfl ?_
  refine wp_bipush (pc' := 96) (30) dX9_init_94 rfl rfl ?_
  refine wp_nar (pc' := 101) 19 hI11 (by decide) 30 dX9_init_96 aw_int hzI (by decide) rfl (by decide) (by omega) (by omega) dX9_init_98 fl_X9_44 rfl rfl (fun _ => rfl) (fun _ => rfl) (by decide) (by decide) rfl (fun a12 G12 hI12 => ?_)
  refine wp_load (pc' := 102) (j := 0) dX9_init_101 rfl rfl rfl ?_
  refine wp_bipush (pc' := 104) (30) dX9_init_102 rfl rfl ?_
  refine wp_nar (pc' := 109) 20 hI12 (by decide) 30 dX9_init_104 aw_int hzI (by decide) rfl (by decide) (by omega) (by omega) dX9_init_106 fl_X9_47 rfl rfl (fun _ => rfl) (fun _ => rfl) (by decide) (by decide) rfl (fun a13 G13 hI13 => ?_)
  refine wp_load (pc' := 110) (j := 0) dX9_init_109 rfl rfl rfl ?_
  refine wp_bipush (pc' := 112) (30) dX9_init_110 rfl rfl ?_
  refine wp_nar (pc' := 117) 21 hI13 (by decide) 30 dX9_init_112 aw_int hzI (by decide) rfl (by decide) (by omega) (by omega) dX9_init_114 fl_X9_50 rfl rfl (fun _ => rfl) (fun _ => rfl) (by decide) (by decide) rfl (fun a14 G14 hI14 => ?_)
  refine wp_load (pc' := 118) (j := 0) dX9_init_117 rfl rfl rfl ?_
  refine wp_bipush (pc' := 120) (30) dX9_init_118 rfl rfl ?_
  refine wp_nar (pc' := 125) 23 hI14 (by decide) 30 dX9_init_120 aw_int hzI (by decide) rfl (by decide) (by omega) (by omega) dX9_init_122 fl_X9_53 rfl rfl (fun _ => rfl) (fun _ => rfl) (by decide) (by decide) rfl (fun a15 G15 hI15 => ?_)
  refine wp_load (pc' := 126) (j := 0) dX9_init_125 rfl rfl rfl ?_
  refine wp_bipush (pc' := 128) (30) dX9_init_126 rfl rfl ?_
  refine wp_nar (pc' := 133) 24 hI15 (by decide) 30 dX9_init_128 aw_int hzI (by decide) rfl (by decide) (by omega) (by omega) dX9_init_130 fl_X9_56 rfl rfl (fun _ => rfl) (fun _ => rfl) (by decide) (by decide) rfl (fun a16 G16 hI16 => ?_)
  refine wp_load (pc' := 134) (j := 0) dX9_init_133 rfl rfl rfl ?_
  refine wp_bipush (pc' := 136) (30) dX9_init_134 rfl rfl ?_
  refine wp_nar (pc' := 141) 25 hI16 (by decide) 30 dX9_init_136 aw_int hzI (by decide) rfl (by decide) (by omega) (by omega) dX9_init_138 fl_X9_59 rfl rfl (fun _ => rfl) (fun _ => rfl) (by decide) (by decide) rfl (fun a17 G17 hI17 => ?_)
  refine wp_load (pc' := 142) (j := 0) dX9_init_141 rfl rfl rfl ?_
  refine wp_bipush (pc' := 144) (30) dX9_init_142 rfl rfl ?_
  refine wp_nar (pc' := 149) 26 hI17 (by decide) 30 dX9_init_144 aw_int hzI (by decide) rfl (by decide) (by omega) (by omega) dX9_init_146 fl_X9_62 rfl rfl (fun _ => rfl) (fun _ => rfl) (by decide) (by decide) rfl (fun a18 G18 hI18 => ?_)
  refine wp_load (pc' := 150) (j := 0) dX9_init_149 rfl rfl rfl ?_
  refine wp_bipush (pc' := 152) (30) dX9_init_150 rfl rfl ?_
  refine wp_nar (pc' := 157) 27 hI18 (by decide) 30 dX9_init_152 aw_int hzI (by decide) rfl (by decide) (by omega) (by omega) dX9_init_154 fl_X9_65 rfl rfl (fun _ => rfl) (fun _ => rfl) (by decide) (by decide) rfl (fun a19 G19 hI19 => ?_)
  refine wp_load (pc' := 158) (j := 0) dX9_init_157 rfl rfl rfl ?_
  refine wp_bipush (pc' := 160) (30) dX9_init_158 rfl rfl ?_
  refine wp_nar (pc' := 165) 28 hI19 (by decide) 30 dX9_init_160 aw_int hzI (by decide) rfl (by decide) (by omega) (by omega) dX9_init_162 fl_X9_68 rfl rfl (fun _ => rfl) (fun _ => rfl) (by decide) (by decide) rfl (fun a20 G20 hI20 => ?_)
  refine wp_load (pc' := 166) (j := 0) dX9_init_165 rfl rfl rfl ?_
  refine wp_bipush (pc' := 168) (30) dX9_init_166 rfl rfl ?_
  refine wp_nar (pc' := 173) 30 hI20 (by decide) 30 dX9_init_168 aw_int hzI (by decide) rfl (by decide) (by omega) (by omega) dX9_init_170 fl_X9_71 rfl rfl (fun _ => rfl) (fun _ => rfl) (by decide) (by decide) rfl (fun a21 G21 hI21 => ?_)
  refine wp_load (pc' := 174) (j := 0) dX9_init_173 rfl rfl rfl ?_
  refine wp_bipush (pc' := 176) (40) dX9_init_174 rfl rfl ?_
  refine wp_nar (pc' := 181) 31 hI21 (by decide) 40 dX9_init_176 aw_int hzI (by decide) rfl (by decide) (by omega) (by omega) dX9_init_178 fl_X9_74 rfl rfl (fun _ => rfl) (fun _ => rfl) (by decide) (by decide) rfl (fun a22 G22 hI22 => ?_)
  refine wp_load (pc' := 182) (j := 0) dX9_init_181 rfl rfl rfl ?_
  refine wp_bipush (pc' := 184) (40) dX9_init_182 rfl rfl ?_
  refine wp_nar (pc' := 189) 32 hI22 (by decide) 40 dX9_init_184 aw_int hzI (by decide) rfl (by decide) (by omega) (by omega) dX9_init_186 fl_X9_77 rfl rfl (fun _ => rfl) (fun _ => rfl) (by decide) (by decide) rfl (fun a23 G23 hI23 => ?_)
  refine wp_load (pc' := 190) (j := 0) dX9_init_189 rfl rfl rfl ?_
  refine wp_bipush (pc' := 192) (40) dX9_init_190 rfl rfl ?_
  refine wp_nar (pc' := 197) 33 hI23 (by decide) 40 dX9_init_192 aw_int hzI (by decide) rfl (by decide) (by omega) (by omega) dX9_init_194 fl_X9_80 rfl rfl (fun _ => rfl) (fun _ => rfl) (by decide) (by decide) rfl (fun a24 G24 hI24 => ?_)
  refine wp_load (pc' := 198) (j := 0) dX9_init_197 rfl rfl rfl ?_
  refine wp_bipush (pc' := 200) (40) dX9_init_198 rfl rfl ?_
  refine wp_nar (pc' := 205) 34 hI24 (by decide) 40 dX9_init_200 aw_int hzI (by decide) rfl (by decide) (by omega) (by omega) dX9_init_202 fl_X9_83 rfl rfl (fun _ => rfl) (fun _ => rfl) (by decide) (by decide) rfl (fun a25 G25 hI25 => ?_)
  refine wp_load (pc' := 206) (j := 0) dX9_init_205 rfl rfl rfl ?_
  refine wp_bipush (pc' := 208) (40) dX9_init_206 rfl rfl ?_
  refine wp_nar (pc' := 213) 36 hI25 (by decide) 40 dX9_init_208 aw_int hzI (by decide) rfl (by decide) (by omega) (by omega) dX9_init_210 fl_X9_86 rfl rfl (fun _ => rfl) (fun _ => rfl) (by decide) (by decide) rfl (fun a26 G26 hI26 => ?_)
  refine wp_load (pc' := 214) (j := 0) dX9_init_213 rfl rfl rfl ?_
  refine wp_sipush (pc' := 217) (200) dX9_init_214 rfl rfl ?_
  refine wp_nar (pc' := 222) 37 hI26 (by decide) 200 dX9_init_217 aw_int hzI (by decide) rfl (by decide) (by omega) (by omega) dX9_init_219 fl_X9_89 rfl rfl (fun _ => rfl) (fun _ => rfl) (by decide) (by decide) rfl (fun a27 G27 hI27 => ?_)
  refine wp_load (pc' := 223) (j := 0) dX9_init_222 rfl rfl rfl ?_
  refine wp_sipush (pc' := 226) (200) dX9_init_223 rfl rfl ?_
  refine wp_nar (pc' := 231) 38 hI27 (by decide) 200 dX9_init_226 aw_int hzI (by decide) rfl (by decide) (by omega) (by omega) dX9_init_228 fl_X9_92 rfl rfl (fun _ => rfl) (fun _ => rfl) (by decide) (by decide) rfl (fun a28 G28 hI28 => ?_)
  refine wp_load (pc' := 232) (j := 0) dX9_init_231 rfl rfl rfl ?_
  refine wp_sipush (pc' := 235) (200) dX9_init_232 rfl rfl ?_
  refine wp_nar (pc' := 240) 39 hI28 (by decide) 200 dX9_init_235 aw_int hzI (by decide) rfl (by decide) (by omega) (by omega) dX9_init_237 fl_X9_95 rfl rfl (fun _ => rfl) (fun _ => rfl) (by decide) (by decide) rfl (fun a29 G29 hI29 => ?_)
  refine wp_load (pc' := 241) (j := 0) dX9_init_240 rfl rfl rfl ?_
  refine wp_sipush (pc' := 244) (200) dX9_init_241 rfl rfl ?_
  refine wp_nar (pc' := 249) 41 hI29 (by decide) 200 dX9_init_244 aw_int hzI (by decide) rfl (by decide) (by omega) (by omega) dX9_init_246 fl_X9_98 rfl rfl (fun _ => rfl) (fun _ => rfl) (by decide) (by decide) rfl (fun a30 G30 hI30 => ?_)
  refine wp_load (pc' := 250) (j := 0) dX9_init_249 rfl rfl rfl ?_
  refine wp_bipush (pc' := 252) (60) dX9_init_250 rfl rfl ?_
  refine wp_nar (pc' := 257) 42 hI30 (by decide) 60 dX9_init_252 aw_int hzI (by decide) rfl (by decide) (by omega) (by omega) dX9_init_254 fl_X9_101 rfl rfl (fun _ => rfl) (fun _ => rfl) (by decide) (by decide) rfl (fun a31 G31 hI31 => ?_)
  refine wp_load (pc' := 258) (j := 0) dX9_init_257 rfl rfl rfl ?_
  refine wp_bipush (pc' := 260) (60) dX9_init_258 rfl rfl ?_
  refine wp_nar (pc' := 265) 43 hI31 (by decide) 60 dX9_init_260 aw_int hzI (by decide) rfl (by decide) (by omega) (by omega) dX9_init_262 fl_X9_104 rfl rfl (fun _ => rfl) (fun _ => rfl) (by decide) (by decide) rfl (fun a32 G32 hI32 => ?_)
  refine wp_load (pc' := 266) (j := 0) dX9_init_265 rfl rfl rfl ?_
  refine wp_bipush (pc' := 268) (60) dX9_init_266 rfl rfl ?_
  refine wp_nar (pc' := 273) 44 hI32 (by decide) 60 dX9_init_268 aw_int hzI (by decide) rfl (by decide) (by omega) (by omega) dX9_init_270 fl_X9_107 rfl rfl (fun _ => rfl) (fun _ => rfl) (by decide) (by decide) rfl (fun a33 G33 hI33 => ?_)
  refine wp_load (pc' := 274) (j := 0) dX9_init_273 rfl rfl rfl ?_
  refine wp_bipush (pc' := 276) (60) dX9_init_274 rfl rfl ?_
  refine wp_nar (pc' := 281) 45 hI33 (by decide) 60 dX9_init_276 aw_int hzI (by decide) rfl (by decide) (by omega) (by omega) dX9_init_278 fl_X9_110 rfl rfl (fun _ => rfl) (fun _ => rfl) (by decide) (by decide) rfl (fun a34 G34 hI34 => ?_)
  refine wp_load (pc' := 282) (j := 0) dX9_init_281 rfl rfl rfl ?_
  refine wp_bipush (pc' := 284) (60) dX9_init_282 rfl rfl ?_
  refine wp_nar (pc' := 289) 46 hI34 (by decide) 60 dX9_init_284 aw_int hzI (by decide) rfl (by decide) (by omega) (by omega) dX9_init_286 fl_X9_113 rfl rfl (fun _ => rfl) (fun _ => rfl) (by decide) (by decide) rfl (fun a35 G35 hI35 => ?_)
  refine wp_load (pc' := 290) (j := 0) dX9_init_289 rfl rfl rfl ?_
  refine wp_bipush (pc' := 292) (60) dX9_init_290 rfl rfl ?_
  refine wp_nar (pc' := 297) 47 hI35 (by decide) 60 dX9_init_292 aw_int hzI (by decide) rfl (by decide) (by omega) (by omega) dX9_init_294 fl_X9_116 rfl rfl (fun _ => rfl) (fun _ => rfl) (by decide) (by decide) rfl (fun a36 G36 hI36 => ?_)
  refine wp_load (pc' := 298) (j := 0) dX9_init_297 rfl rfl rfl ?_
  refine wp_bipush (pc' := 300) (60) dX9_init_298 rfl rfl ?_
  refine wp_nar (pc' := 305) 48 hI36 (by decide) 60 dX9_init_300 aw_int hzI (by decide) rfl (by decide) (by omega) (by omega) dX9_init_302 fl_X9_119 rfl rfl (fun _ => rfl) (fun _ => rfl) (by decide) (by decide) rfl (fun a37 G37 hI37 => ?_)
  refine wp_load (pc' := 306) (j := 0) dX9_init_305 rfl rfl rfl ?_
  refine wp_bipush (pc' := 308) (60) dX9_init_306 rfl rfl ?_
  refine wp_nar (pc' := 313) 49 hI37 (by decide) 60 dX9_init_308 aw_boolean hzZ (by decide) rfl (by decide) (by omega) (by omega) dX9_init_310 fl_X9_122 rfl rfl (fun _ => rfl) (fun _ => rfl) (by decide) (by decide) rfl (fun a38 G38 hI38 => ?_)
  refine wp_load (pc' := 314) (j := 0) dX9_init_313 rfl rfl rfl ?_
  refine wp_bipush (pc' := 316) (60) dX9_init_314 rfl rfl ?_
  refine wp_nar (pc' := 321) 50 hI38 (by decide) 60 dX9_init_316 aw_boolean hzZ (by decide) rfl (by decide) (by omega) (by omega) dX9_init_318 fl_X9_125 rfl rfl (fun _ => rfl) (fun _ => rfl) (by decide) (by decide) rfl (fun a39 G39 hI39 => ?_)
  refine wp_load (pc' := 322) (j := 0) dX9_init_321 rfl rfl rfl ?_
  refine wp_bipush (pc' := 324) (60) dX9_init_322 rfl rfl ?_
  refine wp_nar (pc' := 329) 51 hI39 (by decide) 60 dX9_init_324 aw_boolean hzZ (by decide) rfl (by decide) (by omega) (by omega) dX9_init_326 fl_X9_128 rfl rfl (fun _ => rfl) (fun _ => rfl) (by decide) (by decide) rfl (fun a40 G40 hI40 => ?_)
  refine wp_load (pc' := 330) (j := 0) dX9_init_329 rfl rfl rfl ?_
  refine wp_bipush (pc' := 332) (60) dX9_init_330 rfl rfl ?_
  refine wp_nar (pc' := 337) 52 hI40 (by decide) 60 dX9_init_332 aw_boolean hzZ (by decide) rfl (by decide) (by omega) (by omega) dX9_init_334 fl_X9_131 rfl rfl (fun _ => rfl) (fun _ => rfl) (by decide) (by decide) rfl (fun a41 G41 hI41 => ?_)
  refine wp_load (pc' := 338) (j := 0) dX9_init_337 rfl rfl rfl ?_
  refine wp_iconst (pc' := 339) (4) dX9_init_338 rfl rfl ?_
  refine wp_nar (pc' := 344) 53 hI41 (by decide) 4 dX9_init_339 aw_int hzI (by decide) rfl (by decide) (by omega) (by omega) dX9_init_341 fl_X9_134 rfl rfl (fun _ => rfl) (fun _ => rfl) (by decide) (by decide) rfl (fun a42 G42 hI42 => ?_)
  refine wp_load (pc' := 345) (j := 0) dX9_init_344 rfl rfl rfl ?_
  refine wp_iconst (pc' := 346) (4) dX9_init_345 rfl rfl ?_
  refine wp_nar (pc' := 351) 54 hI42 (by decide) 4 dX9_init_346 aw_int hzI (by decide) rfl (by decide) (by omega) (by omega) dX9_init_348 fl_X9_137 rfl rfl (fun _ => rfl) (fun _ => rfl) (by decide) (by decide) rfl (fun a43 G43 hI43 => ?_)
  refine wp_load (pc' := 352) (j := 0) dX9_init_351 rfl rfl rfl ?_
  refine wp_iconst (pc' := 353) (4) dX9_init_352 rfl rfl ?_
  refine wp_nar (pc' := 358) 55 hI43 (by decide) 4 dX9_init_353 aw_int hzI (by decide) rfl (by decide) (by omega) (by omega) dX9_init_355 fl_X9_140 rfl rfl (fun _ => rfl) (fun _ => rfl) (by decide) (by decide) rfl (fun a44 G44 hI44 => ?_)
  refine wp_load (pc' := 359) (j := 0) dX9_init_358 rfl rfl rfl ?_
  refine wp_iconst (pc' := 360) (4) dX9_init_359 rfl rfl ?_
  refine wp_nar (pc' := 365) 57 hI44 (by decide) 4 dX9_init_360 aw_int hzI (by decide) rfl (by decide) (by omega) (by omega) dX9_init_362 fl_X9_143 rfl rfl (fun _ => rfl) (fun _ => rfl) (by decide) (by decide) rfl (fun a45 G45 hI45 => ?_)
  have hM := ni_mh hI45
  have hF : Fr1 (ownOf m a45) G45 G45 := fr1_rf
  obtain ⟨hm, hA, -⟩ := id hM
  refine wp_load (pc' := 366) (j := 0) dX9_init_365 rfl rfl rfl ?_
  refine wp_v0 0 0 dX9_init_366 ml_X9_146 hm (Nat.le_of_ble_eq_true rfl) (by omega) (by omega) ?_
  refine s_resets hM hF (fun G1 hM1 hF1 => ?_)
  refine kt_u ?_
  obtain ⟨hm1, hA1, -⟩ := id hM1
  refine wp_iconst (pc' := 370) (0) dX9_init_369 rfl rfl ?_
  refine wp_store (pc' := 371) (j := 1) (ls' := [_, _]) dX9_init_370 rfl (Nat.le_of_ble_eq_true rfl) rfl rfl ?_
  exact l_init rfl (σ := rsF s0M) (fun Gx hMx hFx => hP _ Gx hMx (ni_fr hI45 hFx) (fun k hk => (hI45.2.1 k (by have := marr_lt hk; omega) hk).2.1)) 4 0 (by omega) _ hM1 hF1
