/-! the class: its constructor -/
def cF9 (l : Nat → Nat) (t : Nat) : List Value := (List.range 8).map (fun j => if j < 6 then (if j < t then .ref (l j) else .null) else if j = 6 then .null else .int 0)
def CI (E : XE) (kb : Nat) (l : Nat → Nat) (t : Nat) (G : HP) : Prop := G kb = some (hO 9 (cF9 l t)) ∧ (∀ i, i < t → AL E G (l i) E.1 0 (fun _ => 0)) ∧ ∀ i j, i < t → j < t → l i = l j → i = j
theorem cF9_set (l : Nat → Nat) (t x : Nat) (ht : t < 6) : (cF9 l t).set t (.ref x) = cF9 (va_up l t x) (t + 1) := by
  unfold cF9
  refine List.ext_getElem (by simp) (fun i h1 h2 => ?_)
  rw [List.getElem_set]
  simp only [List.getElem_map, List.getElem_range]
  unfold va_up
  by_cases e : t = i
  · subst e
    rw [if_pos rfl, if_pos ht, if_pos (by omega), if_pos rfl]
  · rw [if_neg e]
    by_cases h6 : i < 6
    · rw [if_pos h6, if_pos h6, if_neg (show ¬ i = t from fun z => e z.symm)]
      by_cases hl : i < t
      · rw [if_pos hl, if_pos (by omega)]
      · rw [if_neg hl, if_neg (by omega)]
    · rw [if_neg h6, if_neg h6]
theorem ci_step {E : XE} {kb x t : Nat} {l : Nat → Nat} {G G' : HP} (h : CI E kb l t G) (ht : t < 6) (hx : G x = none) (hA : AL E G' x E.1 0 (fun _ => 0)) (hk : ∀ q, q ≠ x → G' q = G q) : CI E kb (va_up l t x) (t + 1) (hu G' kb (hO 9 ((cF9 l t).set t (.ref x)))) := by
  obtain ⟨h1, h2, h3⟩ := h
  have kp := kp_newF hx hk
  have hkb : G' kb = some (hO 9 (cF9 l t)) := kp _ _ h1 rfl
  have kp2 := kp_put (t := 9) (e1 := hO 9 ((cF9 l t).set t (.ref x))) hkb rfl
  have hne : ∀ i, i < t → l i ≠ x := fun i hi e => by
    obtain ⟨⟨mo, z⟩, -⟩ := h2 i hi
    rw [e, hx] at z; exact nomatch z
  refine ⟨by rw [hu_s, cF9_set l t x ht], fun i hi => ?_, fun i j hi hj e => ?_⟩
  · by_cases e : i = t
    · subst e; rw [up_s]; exact al_kp hA kp2 rfl rfl
    · rw [up_n e]; exact al_kp (al_kp (h2 i (by omega)) kp rfl rfl) kp2 rfl rfl
  · by_cases ei : i = t <;> by_cases ej : j = t
    · omega
    · rw [ei, up_s, up_n ej] at e; exact absurd e.symm (hne j (by omega))
    · rw [ej, up_s, up_n ei] at e; exact absurd e (hne i (by omega))
    · rw [up_n ei, up_n ej] at e; exact h3 i j (by omega) (by omega) e
def LI8 (E : XE) (kb w : Nat) (l el b : Nat → Nat) (ar k : Nat) (G : HP) : Prop := G kb = some (hO 9 [.ref (l 0), .ref (l 1), .ref (l 2), .ref (l 3), .ref (l 4), .ref (l 5), .ref w, .int 0]) ∧ (∀ i, i < 6 → i ≠ 0 → AL E G (l i) E.1 0 (fun _ => 0)) ∧ AL E G (l 0) ar k el ∧ (∀ i j, i < 6 → j < 6 → l i = l j → i = j) ∧ G w = some (hO 8 [.int 127, .int 0, .int 96, .int 0, .int 520]) ∧ (∀ i, i < k → G (el i) = some (hO 7 [.ref (b i), .int 4, .int 0, .int 0, .int 0, .int 0]) ∧ G (b i) = some (hZ 60 (fun _ => 0))) ∧ (∀ i j, i < k → j < k → el i = el j → i = j) ∧ ∀ i j, i < k → j < k → b i = b j → i = j
theorem inj_up {f : Nat → Nat} {k x : Nat} (h : ∀ i j, i < k → j < k → f i = f j → i = j) (hx : ∀ i, i < k → f i ≠ x) : ∀ i j, i < k + 1 → j < k + 1 → va_up f k x i = va_up f k x j → i = j := fun i j hi hj e => by
  by_cases ei : i = k <;> by_cases ej : j = k
  · omega
  · rw [ei, up_s, up_n ej] at e; exact absurd e.symm (hx j (by omega))
  · rw [ej, up_s, up_n ei] at e; exact absurd e (hx i (by omega))
  · rw [up_n ei, up_n ej] at e; exact h i j (by omega) (by omega) e
theorem li_step {E : XE} {kb w s bb ar ar' k : Nat} {l el b : Nat → Nat} {e0 : HE} {G G1 G' : HP} (h : LI8 E kb w l el b ar k G) (hs : G s = none) (hb : hu G s e0 bb = none) (h1 : G1 bb = some (hZ 60 (fun _ => 0))) (h2 : G1 s = some (hO 7 [.ref bb, .int 4, .int 0, .int 0, .int 0, .int 0])) (h3 : ∀ q, q ≠ s → q ≠ bb → G1 q = hu G s e0 q) (k1 : AL E G' (l 0) ar' (k + 1) (va_up el k s)) (k3 : ∀ q, q ≠ l 0 → (0 < k → q ≠ ar) → G1 q ≠ none → G' q = G1 q) : LI8 E kb w l (va_up el k s) (va_up b k bb) ar' (k + 1) G' := by
  obtain ⟨a1, a2, a3, a4, a5, a6, a7, a8⟩ := h
  have hbs : bb ≠ s := fun e => by rw [e, hu_s] at hb; exact nomatch hb
  have hbn : G bb = none := by rw [hu_n hbs] at hb; exact hb
  have kp1 : Kp (fun _ => false) G G1 := fun a e ha _ => by
    have n1 : a ≠ s := fun z => by rw [z, hs] at ha; exact nomatch ha
    have n2 : a ≠ bb := fun z => by rw [z, hbn] at ha; exact nomatch ha
    rw [h3 a n1 n2, hu_n n1]; exact ha
  have a3' := al_kp a3 kp1 rfl rfl
  obtain ⟨⟨mo, hl⟩, hlb⟩ := a3'
  have har : 0 < k → ∃ cap f, G1 ar = some (hR cap f) := fun z => by
    rcases hlb with ⟨-, w⟩ | ⟨-, cap, f, w, -⟩
    · omega
    · exact ⟨cap, f, w⟩
  have kp2 : Kp (fun t => t == 0 || t == 20) G1 G' := fun a e ha ht => by
    refine (k3 a (fun z => ?_) (fun z w => ?_) (by rw [ha]; exact fun z => nomatch z)).trans ha
    · rw [z, hl] at ha
      rw [← Option.some.inj ha] at ht
      exact nomatch ht
    · obtain ⟨cap, f, v⟩ := har z
      rw [w, v] at ha
      rw [← Option.some.inj ha] at ht
      exact nomatch ht
  refine ⟨kp2 _ _ (kp1 _ _ a1 rfl) rfl, fun i hi h0 => ?_, k1, a4, kp2 _ _ (kp1 _ _ a5 rfl) rfl, fun i hi => ?_, inj_up a7 (fun i hi e => ?_), inj_up a8 (fun i hi e => ?_)⟩
  · obtain ⟨⟨mo2, q1⟩, q2⟩ := al_kp (a2 i hi h0) kp1 rfl rfl
    refine ⟨⟨mo2, ?_⟩, Or.inl ⟨rfl, rfl⟩⟩
    rw [k3 _ (fun z => h0 (a4 i 0 hi (by omega) z)) (fun z w => by
      obtain ⟨cap, f, v⟩ := har z
      rw [w, v] at q1
      exact hO_hR (Option.some.inj q1).symm) (by rw [q1]; exact fun z => nomatch z)]
    exact q1
  · by_cases e : i = k
    · simp only [e, up_s]
      exact ⟨kp2 _ _ h2 rfl, kp2 _ _ h1 rfl⟩
    · simp only [up_n e]
      exact ⟨kp2 _ _ (kp1 _ _ (a6 i (by omega)).1 rfl) rfl, kp2 _ _ (kp1 _ _ (a6 i (by omega)).2 rfl) rfl⟩
  · have := (a6 i hi).1; rw [e, hs] at this; exact nomatch this
  · have := (a6 i hi).2; rw [e, hbn] at this; exact nomatch this
set_option maxRecDepth 20000 in
set_option maxHeartbeats 2000000 in
theorem l_init8 {E : XE} {d0 d mc ms : Nat} {P : Ps} (hd : d = d0 + 7) {kb w : Nat} {l : Nat → Nat} (hP : ∀ el b ar G', LI8 E kb w l el b ar 4 G' → P (.inl none) G') : ∀ j k, k + j = 4 → ∀ (G : HP) (el b : Nat → Nat) (ar kc nc : Nat), kc + 3 * j ≤ mc → nc + 90 * j ≤ ms → LI8 E kb w l el b ar k G → WX E d (yX8_init, cX8_init, none, []) mc ms P 88 [some (.ref kb), some (.int (nI k))] [] G kc nc
  | 0, k, hk, G, el, b, ar, kc, nc, hkc, hnc, hI => by
    subst hd
    refine wp_load (pc' := 89) (j := 1) dX8_init_88 rfl rfl rfl ?_
    refine wp_iconst (pc' := 90) (4) dX8_init_89 rfl rfl ?_
    refine wp_icmpT 114 dX8_init_90 rfl (cgeT (n := 4) rfl (by omega) (by omega)) ?_
    refine wp_vret dX8_init_114 rfl ?_
    obtain rfl : k = 4 := by omega
    exact hP _ _ _ _ hI
  | j + 1, k, hk, G, el, b, ar, kc, nc, hkc, hnc, hI => by
    have ih := l_init8 (E := E) (d := d) (mc := mc) (ms := ms) hd hP j (k + 1) (by omega)
    subst hd
    obtain ⟨a1, a2, a3, a4, a5, a6, a7, a8⟩ := id hI
    obtain ⟨⟨mo, hl⟩, -⟩ := id a3
    refine wp_load (pc' := 89) (j := 1) dX8_init_88 rfl rfl rfl ?_
    refine wp_iconst (pc' := 90) (4) dX8_init_89 rfl rfl ?_
    refine wp_icmpF (pc' := 93) 114 dX8_init_90 rfl rfl (cgeF (n := 4) rfl (by omega) (by decide)) ?_
    refine wp_load (pc' := 94) (j := 0) dX8_init_93 rfl rfl rfl ?_
    refine wp_get (pc' := 97) dX8_init_94 fl_X8_12 a1 rfl rfl ?_
    refine wp_newL (pc' := 100) 6 dX8_init_97 nw_X8_42 rfl (by omega) (by omega) rfl (fun s hs => ?_)
    refine wp_dup (pc' := 101) dX8_init_100 rfl rfl ?_
    refine wp_i0 1 60 dX8_init_101 ml_X8_44 (Nat.le_of_ble_eq_true rfl) (by omega) (by omega) ?_
    refine c_strI hu_s (by omega) (by omega) (fun bb G1 hb h1 h2 h3 => ?_)
    refine kt_u ?_
    have hbs : bb ≠ s := fun e => by rw [e, hu_s] at hb; exact nomatch hb
    have hbn : G bb = none := by rw [hu_n hbs] at hb; exact hb
    have kp1 : Kp (fun _ => false) G G1 := fun a e ha _ => by
      have n1 : a ≠ s := fun z => by rw [z, hs] at ha; exact nomatch ha
      have n2 : a ≠ bb := fun z => by rw [z, hbn] at ha; exact nomatch ha
      rw [h3 a n1 n2, hu_n n1]; exact ha
    have hsl : s ≠ l 0 := fun e => by rw [e, hl] at hs; exact nomatch hs
    refine wp_v1 1 20 dX8_init_104 ml_X8_45 (kp1 _ _ hl rfl) (Nat.le_of_ble_eq_true rfl) (by omega) (by omega) ?_
    refine k_add (al_kp a3 kp1 rfl rfl) (fun i hi => ⟨_, kp1 _ _ (a6 i hi).1 rfl⟩) rfl co_X6 (by omega) h2 hsl (fun i hi => ne_kd (a6 i hi).1 hl (Nat.ne_of_beq_eq_false rfl)) (by omega) (by omega) (fun ar' G2 k1 k2 k3 => ?_)
    refine kt_v ?_
    refine wp_pop (pc' := 108) dX8_init_107 rfl rfl ?_
    refine wp_iinc (pc' := 111) (j := 1) (ls' := [_, _]) (nI (k + 1)) dX8_init_108 rfl (nI_1 k) rfl rfl ?_
    refine wp_goto 88 dX8_init_111 rfl ?_
    exact ih _ _ _ _ _ _ (by omega) (by omega) (li_step hI hs hb h1 h2 h3 k1 k3)
def A8 (E : XE) (kb w : Nat) (l el b : Nat → Nat) (ar : Nat) : Nat → Nat → Nat := fun r => if r = 0 then (fun _ => kb) else if r = 1 then l else if r = 2 then (fun i => if i = 0 then ar else E.1) else if r = 3 then el else if r = 10 then (fun _ => w) else if r = 11 then b else fun _ => 0
def N8 (i : Nat) : Nat := if i = 0 then 4 else 0
theorem ch_init {E : XE} {kb w ar : Nat} {l el b : Nat → Nat} {G : HP} (h : LI8 E kb w l el b ar 4 G) : CH E (fun _ => 0) (A8 E kb w l el b ar) (fun _ => -1) sIM N8 G := by
  obtain ⟨a1, a2, a3, a4, a5, a6, a7, a8⟩ := h
  have z0 : ∀ k i, i < N8 (k + 1) → False := fun k i hi => by
    unfold N8 at hi
    rw [if_neg (by omega)] at hi
    exact absurd hi (Nat.not_lt_zero _)
  refine ⟨fun q h => absurd rfl h, ⟨rfl, Nat.zero_le _, Nat.zero_le _, Nat.zero_le _, Nat.zero_le _, Nat.zero_le _, rfl, rfl, rfl, rfl, rfl⟩, ⟨a1, rfl⟩, fun k hk => ?_, ⟨fun i k hi hk hik => ⟨fun e => hik (a4 i k hi hk e), fun n1 n2 => ?_⟩, fun k hk i j hi hj e => ?_, a8⟩, fun a ha => ?_, fun i hi => (z0 0 i hi).elim, ⟨a5, rfl⟩, fun i hi => (z0 1 i hi).elim, fun i hi => (z0 2 i hi).elim, fun i hi => (z0 3 i hi).elim, fun i hi => (z0 4 i hi).elim⟩
  · cases k with
    | zero => exact ⟨a3, rfl, fun _ => rfl⟩
    | succ k =>
      refine ⟨?_, rfl, fun _ => rfl⟩
      have hz : N8 (k + 1) = 0 := if_neg (by omega)
      have h2 : A8 E kb w l el b ar 2 (k + 1) = E.1 := show (if k + 1 = 0 then ar else E.1) = E.1 from if_neg (by omega)
      rw [hz, h2]
      obtain ⟨q1, -⟩ := a2 (k + 1) hk (by omega)
      exact ⟨q1, Or.inl ⟨rfl, rfl⟩⟩
  · have h1 : i = 0 := by
      rcases Nat.eq_zero_or_pos i with z | z
      · exact z
      · unfold N8 at n1; rw [if_neg (by omega)] at n1; exact absurd n1 (by omega)
    have h2 : k = 0 := by
      rcases Nat.eq_zero_or_pos k with z | z
      · exact z
      · unfold N8 at n2; rw [if_neg (by omega)] at n2; exact absurd n2 (by omega)
    omega
  · cases k with
    | zero => exact a7 i j hi hj e
    | succ k => exact (z0 k i hi).elim
  · have q := a6 a ha
    rcases (show a = 0 ∨ a = 1 ∨ a = 2 ∨ a = 3 by omega) with rfl | rfl | rfl | rfl
    · exact ⟨⟨q.1, rfl⟩, _, ⟨q.2, rfl⟩, fun i _ => rfl⟩
    · exact ⟨⟨q.1, rfl⟩, _, ⟨q.2, rfl⟩, fun i _ => rfl⟩
    · exact ⟨⟨q.1, rfl⟩, _, ⟨q.2, rfl⟩, fun i _ => rfl⟩
    · exact ⟨⟨q.1, rfl⟩, _, ⟨q.2, rfl⟩, fun i _ => rfl⟩
theorem inv_init : INV sIM (fun _ => -1) N8 0 := by
  have z0 : ∀ k i, i < N8 (k + 1) → False := fun k i hi => by
    unfold N8 at hi
    rw [if_neg (by omega)] at hi
    exact absurd hi (Nat.not_lt_zero _)
  refine ⟨⟨⟨0, by decide, rfl, fun i hi => (z0 0 i hi).elim, fun i hi => (z0 4 i hi).elim⟩, fun i hi => (z0 0 i hi).elim, fun i hi => (z0 1 i hi).elim, fun i hi => ⟨0, Nat.le_refl _, rfl⟩, fun i hi => (z0 4 i hi).elim, fun a ha => ⟨4, by decide, ?_⟩⟩, fun i hi => ⟨rfl, rfl, rfl⟩, fun i hi => (z0 1 i hi).elim, by decide⟩
  rcases (show a = 0 ∨ a = 1 ∨ a = 2 ∨ a = 3 by omega) with rfl | rfl | rfl | rfl <;> rfl
set_option maxRecDepth 20000 in
set_option maxHeartbeats 4000000 in
theorem q_init {E : XE} {d mc ms : Nat} {P : Ps} {G : HP} {kb : Nat} (hkb : G kb = some (hO 9 [.null, .null, .null, .null, .null, .null, .null, .int 0])) (hmc : 30 ≤ mc) (hms : 500 ≤ ms) (hP : ∀ A G', CH E (fun _ => 0) A (fun _ => -1) sIM N8 G' → A 0 0 = kb → P (.inl none) G') : Sp E (d + 8) yX8_init mc ms [.ref kb] G P := by
  refine sp_intro bd_X8_init (v1_all rfl) (Nat.le_of_ble_eq_true rfl) ?_
  change WX _ _ _ _ _ _ 0 [some (.ref kb), none] [] _ 0 0
  refine wp_load (pc' := 1) (j := 0) dX8_init_0 rfl rfl rfl ?_
  refine wp_obj (pc' := 4) dX8_init_1 ol_X8_3 (Nat.le_of_ble_eq_true rfl) rfl ?_
  have hI0 : CI E kb (fun _ => 0) 0 G := ⟨hkb, fun i hi => absurd hi (Nat.not_lt_zero _), fun i j hi => absurd hi (Nat.not_lt_zero _)⟩
  refine wp_load (pc' := 5) (j := 0) dX8_init_4 rfl rfl rfl ?_
  refine wp_newL (pc' := 8) 3 dX8_init_5 nw_X8_9 rfl (by omega) (by omega) rfl (fun x0 hx0 => ?_)
  refine wp_dup (pc' := 9) dX8_init_8 rfl rfl ?_
  refine wp_i0 0 0 dX8_init_9 ml_X8_11 (Nat.le_of_ble_eq_true rfl) (by omega) (by omega) ?_
  refine k_init hu_s (fun G0 hA0 hq0 => ?_)
  refine kt_u ?_
  have hr0 : ∀ q, q ≠ x0 → G0 q = G q := fun q hq => (hq0 q hq).trans (hu_n hq)
  have hI1 := ci_step hI0 (by omega) hx0 hA0 hr0
  have hn0 : kb ≠ x0 := fun e => by have := hI0.1; rw [e, hx0] at this; exact nomatch this
  refine wp_putF (pc' := 15) dX8_init_12 fl_X8_12 rfl rfl ((hr0 _ hn0).trans hI0.1) (Nat.le_of_ble_eq_true rfl) rfl rfl rfl rfl ?_
  generalize hu G0 kb _ = H1 at hI1 ⊢
  refine wp_load (pc' := 16) (j := 0) dX8_init_15 rfl rfl rfl ?_
  refine wp_newL (pc' := 19) 3 dX8_init_16 nw_X8_9 rfl (by omega) (by omega) rfl (fun x1 hx1 => ?_)
  refine wp_dup (pc' := 20) dX8_init_19 rfl rfl ?_
  refine wp_i0 0 0 dX8_init_20 ml_X8_11 (Nat.le_of_ble_eq_true rfl) (by omega) (by omega) ?_
  refine k_init hu_s (fun G1 hA1 hq1 => ?_)
  refine kt_u ?_
  have hr1 : ∀ q, q ≠ x1 → G1 q = H1 q := fun q hq => (hq1 q hq).trans (hu_n hq)
  have hI2 := ci_step hI1 (by omega) hx1 hA1 hr1
  have hn1 : kb ≠ x1 := fun e => by have := hI1.1; rw [e, hx1] at this; exact nomatch this
  refine wp_putF (pc' := 26) dX8_init_23 fl_X8_16 rfl rfl ((hr1 _ hn1).trans hI1.1) (Nat.le_of_ble_eq_true rfl) rfl rfl rfl rfl ?_
  generalize hu G1 kb _ = H2 at hI2 ⊢
  refine wp_load (pc' := 27) (j := 0) dX8_init_26 rfl rfl rfl ?_
  refine wp_newL (pc' := 30) 3 dX8_init_27 nw_X8_9 rfl (by omega) (by omega) rfl (fun x2 hx2 => ?_)
  refine wp_dup (pc' := 31) dX8_init_30 rfl rfl ?_
  refine wp_i0 0 0 dX8_init_31 ml_X8_11 (Nat.le_of_ble_eq_true rfl) (by omega) (by omega) ?_
  refine k_init hu_s (fun G2 hA2 hq2 => ?_)
  refine kt_u ?_
  have hr2 : ∀ q, q ≠ x2 → G2 q = H2 q := fun q hq => (hq2 q hq).trans (hu_n hq)
  have hI3 := ci_step hI2 (by omega) hx2 hA2 hr2
  have hn2 : kb ≠ x2 := fun e => by have := hI2.1; rw [e, hx2] at this; exact nomatch this
  refine wp_putF (pc' := 37) dX8_init_34 fl_X8_19 rfl rfl ((hr2 _ hn2).trans hI2.1) (Nat.le_of_ble_eq_true rfl) rfl rfl rfl rfl ?_
  generalize hu G2 kb _ = H3 at hI3 ⊢
  refine wp_load (pc' := 38) (j := 0) dX8_init_37 rfl rfl rfl ?_
  refine wp_newL (pc' := 41) 3 dX8_init_38 nw_X8_9 rfl (by omega) (by omega) rfl (fun x3 hx3 => ?_)
  refine wp_dup (pc' := 42) dX8_init_41 rfl rfl ?_
  refine wp_i0 0 0 dX8_init_42 ml_X8_11 (Nat.le_of_ble_eq_true rfl) (by omega) (by omega) ?_
  refine k_init hu_s (fun G3 hA3 hq3 => ?_)
  refine kt_u ?_
  have hr3 : ∀ q, q ≠ x3 → G3 q = H3 q := fun q hq => (hq3 q hq).trans (hu_n hq)
  have hI4 := ci_step hI3 (by omega) hx3 hA3 hr3
  have hn3 : kb ≠ x3 := fun e => by have := hI3.1; rw [e, hx3] at this; exact nomatch this
  refine wp_putF (pc' := 48) dX8_init_45 fl_X8_22 rfl rfl ((hr3 _ hn3).trans hI3.1) (Nat.le_of_ble_eq_true rfl) rfl rfl rfl rfl ?_
  generalize hu G3 kb _ = H4 at hI4 ⊢
  refine wp_load (pc' := 49) (j := 0) dX8_init_48 rfl rfl rfl ?_
  refine wp_newL (pc' := 52) 3 dX8_init_49 nw_X8_9 rfl (by omega) (by omega) rfl (fun x4 hx4 => ?_)
  refine wp_dup (pc' := 53) dX8_init_52 rfl rfl ?_
  refine wp_i0 0 0 dX8_init_53 ml_X8_11 (Nat.le_of_ble_eq_true rfl) (by omega) (by omega) ?_
  refine k_init hu_s (fun G4 hA4 hq4 => ?_)
  refine kt_u ?_
  have hr4 : ∀ q, q ≠ x4 → G4 q = H4 q := fun q hq => (hq4 q hq).trans (hu_n hq)
  have hI5 := ci_step hI4 (by omega) hx4 hA4 hr4
  have hn4 : kb ≠ x4 := fun e => by have := hI4.1; rw [e, hx4] at this; exact nomatch this
  refine wp_putF (pc' := 59) dX8_init_56 fl_X8_25 rfl rfl ((hr4 _ hn4).trans hI4.1) (Nat.le_of_ble_eq_true rfl) rfl rfl rfl rfl ?_
  generalize hu G4 kb _ = H5 at hI5 ⊢
  refine wp_load (pc' := 60) (j := 0) dX8_init_59 rfl rfl rfl ?_
  refine wp_newL (pc' := 63) 3 dX8_init_60 nw_X8_9 rfl (by omega) (by omega) rfl (fun x5 hx5 => ?_)
  refine wp_dup (pc' := 64) dX8_init_63 rfl rfl ?_
  refine wp_i0 0 0 dX8_init_64 ml_X8_11 (Nat.le_of_ble_eq_true rfl) (by omega) (by omega) ?_
  refine k_init hu_s (fun G5 hA5 hq5 => ?_)
  refine kt_u ?_
  have hr5 : ∀ q, q ≠ x5 → G5 q = H5 q := fun q hq => (hq5 q hq).trans (hu_n hq)
  have hI6 := ci_step hI5 (by omega) hx5 hA5 hr5
  have hn5 : kb ≠ x5 := fun e => by have := hI5.1; rw [e, hx5] at this; exact nomatch this
  refine wp_putF (pc' := 70) dX8_init_67 fl_X8_28 rfl rfl ((hr5 _ hn5).trans hI5.1) (Nat.le_of_ble_eq_true rfl) rfl rfl rfl rfl ?_
  generalize hu G5 kb _ = H6 at hI6 ⊢
  generalize hl6 : va_up _ 5 x5 = l at hI6
  obtain ⟨c1, c2, c3⟩ := hI6
  refine wp_load (pc' := 71) (j := 0) dX8_init_70 rfl rfl rfl ?_
  refine wp_newL (pc' := 74) 5 dX8_init_71 nw_X8_31 rfl (by omega) (by omega) rfl (fun w hw => ?_)
  refine wp_dup (pc' := 75) dX8_init_74 rfl rfl ?_
  refine wp_i0 0 0 dX8_init_75 ml_X8_33 (Nat.le_of_ble_eq_true rfl) (by omega) (by omega) ?_
  refine c_whI hu_s (fun G6 hw6 hq6 => ?_)
  refine kt_u ?_
  have hr6 : ∀ q, q ≠ w → G6 q = H6 q := fun q hq => (hq6 q hq).trans (hu_n hq)
  have kp6 := kp_newF hw hr6
  have c1' : G6 kb = some (hO 9 [.ref (l 0), .ref (l 1), .ref (l 2), .ref (l 3), .ref (l 4), .ref (l 5), .null, .int 0]) := kp6 _ _ c1 rfl
  refine wp_put (pc' := 81) (fs' := [_, _, _, _, _, _, _, _]) dX8_init_78 fl_X8_34 c1' (Nat.le_of_ble_eq_true rfl) rfl rfl rfl rfl ?_
  refine wp_load (pc' := 82) (j := 0) dX8_init_81 rfl rfl rfl ?_
  refine wp_iconst (pc' := 83) (0) dX8_init_82 rfl rfl ?_
  refine wp_put (pc' := 86) (fs' := [_, _, _, _, _, _, _, _]) dX8_init_83 fl_X8_38 hu_s (Nat.le_of_ble_eq_true rfl) rfl rfl rfl rfl ?_
  refine wp_iconst (pc' := 87) (0) dX8_init_86 rfl rfl ?_
  refine wp_store (pc' := 88) (j := 1) (ls' := [_, _]) dX8_init_87 rfl (Nat.le_of_ble_eq_true rfl) rfl rfl ?_
  have e1 : ∀ {x : HE}, Kp (fun t => t == 9) G6 (hu G6 kb x) := kp_put c1' rfl
  have e2 : ∀ {x y : HE}, kd x = 9 → Kp (fun t => t == 9) (hu G6 kb x) (hu (hu G6 kb x) kb y) := fun h => kp_put hu_s h
  refine l_init8 rfl (fun el b ar G' hI => hP _ _ (ch_init hI) rfl) 4 0 (by omega) _ (fun _ => 0) (fun _ => 0) E.1 _ _ (by omega) (by omega) ⟨hu_s, fun i hi h0 => al_kp (al_kp (al_kp (c2 i hi) kp6 rfl rfl) e1 rfl rfl) (e2 rfl) rfl rfl, al_kp (al_kp (al_kp (c2 0 (by omega)) kp6 rfl rfl) e1 rfl rfl) (e2 rfl) rfl rfl, c3, e2 rfl _ _ (e1 _ _ hw6 rfl) rfl, fun i hi => absurd hi (Nat.not_lt_zero _), fun i j hi => absurd hi (Nat.not_lt_zero _), fun i j hi => absurd hi (Nat.not_lt_zero _)⟩
