/-! the class: what stays when it writes -/
def exP (c : Int32) (X : String) : Prop := (c = 1 ∧ X = "java/lang/IllegalArgumentException") ∨ (c = 2 ∧ X = "java/lang/IllegalStateException")
def exQ (c : Int32) (X : String) : Prop := (c = 1 ∧ X = "java/lang/IndexOutOfBoundsException") ∨ (c = 2 ∧ X = "java/lang/IllegalStateException")
theorem exP2 {c : Int32} (h : c = 1) : exP c "java/lang/IllegalArgumentException" := Or.inl ⟨h, rfl⟩
theorem exP3 {c : Int32} (h : c = 2) : exP c "java/lang/IllegalStateException" := Or.inr ⟨h, rfl⟩
theorem exQ1 {c : Int32} (h : c = 1) : exQ c "java/lang/IndexOutOfBoundsException" := Or.inl ⟨h, rfl⟩
theorem exQ3 {c : Int32} (h : c = 2) : exQ c "java/lang/IllegalStateException" := Or.inr ⟨h, rfl⟩
def kd : HE → Nat
  | .inl (c, _) => c
  | .inr (.inl _) => 22
  | .inr (.inr (.inl _)) => 21
  | .inr (.inr (.inr (.inl _))) => 23
  | .inr (.inr (.inr (.inr _))) => 20
def Kp (T : Nat → Bool) (G G' : HP) : Prop := ∀ a e, G a = some e → T (kd e) = false → G' a = some e
theorem ne_kd {G : HP} {a b : Nat} {e e' : HE} (h : G a = some e) (h' : G b = some e') (hk : kd e ≠ kd e') : a ≠ b := fun z => by
  rw [z, h'] at h
  exact hk (by rw [Option.some.inj h])
theorem kp_put {G : HP} {x t : Nat} {e0 e1 : HE} (h : G x = some e0) (ht : kd e0 = t) : Kp (fun k => k == t) G (hu G x e1) := fun a e ha hk => by
  have : a ≠ x := fun z => by
    rw [z, h] at ha
    have hk2 : (kd e == t) = false := hk
    rw [← Option.some.inj ha, ht, beq_self_eq_true] at hk2
    exact nomatch hk2
  exact (hu_n this).trans ha
theorem kp_new {G : HP} {x : Nat} {e1 : HE} (h : G x = none) : Kp (fun _ => false) G (hu G x e1) := fun a e ha _ => by
  have : a ≠ x := fun z => by rw [z, h] at ha; exact nomatch ha
  exact (hu_n this).trans ha
theorem kp_newF {G G' : HP} {x : Nat} (h : G x = none) (hk : ∀ q, q ≠ x → G' q = G q) : Kp (fun _ => false) G G' := fun a e ha _ => by
  have : a ≠ x := fun z => by rw [z, h] at ha; exact nomatch ha
  exact (hk a this).trans ha
theorem kp_putF {G G' : HP} {x t : Nat} {e0 : HE} (h : G x = some e0) (ht : kd e0 = t) (hf : ∀ q, q ≠ x → G' q = G q) : Kp (fun k => k == t) G G' := fun a e ha hk => by
  have : a ≠ x := fun z => by
    rw [z, h] at ha
    have hk2 : (kd e == t) = false := hk
    rw [← Option.some.inj ha, ht, beq_self_eq_true] at hk2
    exact nomatch hk2
  exact (hf a this).trans ha
theorem kp_tr {T S : Nat → Bool} {G G' G'' : HP} (h : Kp T G G') (h' : Kp S G' G'') : Kp (fun k => T k || S k) G G'' := fun a e ha hk => by
  rw [Bool.or_eq_false_iff] at hk
  exact h' a e (h a e ha hk.1) hk.2
theorem fr0_rf {own : Nat → Nat} {G : HP} : Fr0 own G G := fun _ _ => rfl
theorem fr0_tr {own : Nat → Nat} {G G' G'' : HP} (h : Fr0 own G G') (h' : Fr0 own G' G'') : Fr0 own G G'' := fun a ha => (h' a ha).trans (h a ha)
theorem fr0_put {own : Nat → Nat} {G : HP} {x : Nat} {e : HE} (h : own x = 0) : Fr0 own G (hu G x e) := fun _ ha => hu_n (fun z => ha (by rw [z]; exact h))
theorem fr0_putF {own : Nat → Nat} {G G' : HP} {x : Nat} (h : own x = 0) (hf : ∀ q, q ≠ x → G' q = G q) : Fr0 own G G' := fun a ha => hf a (fun z => ha (by rw [z]; exact h))
theorem own_new {own : Nat → Nat} {G : HP} {x : Nat} (hON : ∀ q, own q ≠ 0 → G q ≠ none) (h : G x = none) : own x = 0 := Decidable.byContradiction (fun z => hON x z h)
theorem on_fr {own : Nat → Nat} {G G' : HP} (hON : ∀ q, own q ≠ 0 → G q ≠ none) (h : Fr0 own G G') : ∀ q, own q ≠ 0 → G' q ≠ none := fun q hq z => hON q hq (by rw [← h q hq]; exact z)
section
variable {E : XE} {own : Nat → Nat} {A : Nat → Nat → Nat} {F : Nat → Int32} {σ : MS} {N : Nat → Nat} {G G' : HP} {T : Nat → Bool}
theorem cl_kp {a : Nat} {e : HE} (h : Cl own G a e) (k : Kp T G G') (ht : T (kd e) = false) : Cl own G' a e := ⟨k a e h.1 ht, h.2⟩
theorem kK (h : cK own A σ G) (k : Kp T G G') (ht : T 9 = false) : cK own A σ G' := cl_kp h k ht
theorem al_kp {la ar n : Nat} {el : Nat → Nat} (h : AL E G la ar n el) (k : Kp T G G') (t0 : T 0 = false) (t20 : T 20 = false) : AL E G' la ar n el := ⟨h.1.imp (fun _ z => k _ _ z t0), h.2.imp id (fun ⟨y, cap, f, z, w⟩ => ⟨y, cap, f, k _ _ z t20, w⟩)⟩
theorem kL (h : cL E own A N G) (k : Kp T G G') (t0 : T 0 = false) (t20 : T 20 = false) : cL E own A N G' := fun i hi => ⟨al_kp (h i hi).1 k t0 t20, (h i hi).2⟩
theorem taken_c {σ' : MS} {s : Int32} (e25 : σ'.2.1 25 = σ.2.1 25) (e23 : σ'.2.1 23 = σ.2.1 23) : ∀ n, takenF σ' s n = takenF σ s n
  | 0 => rfl
  | n + 1 => by rw [takenF, takenF, taken_c e25 e23 n, e25, e23]
theorem kT {σ' : MS} (h : cT own A σ N G) (k : Kp T G G') (t7 : T 7 = false) (t21 : T 21 = false) (e25 : σ'.2.1 25 = σ.2.1 25) (e23 : σ'.2.1 23 = σ.2.1 23) (e52 : σ'.2.1 52 = σ.2.1 52) (e55 : σ'.2.1 55 = σ.2.1 55) (e53 : σ'.2.1 53 = σ.2.1 53) (e54 : σ'.2.1 54 = σ.2.1 54) (eb : σ'.2.2 1 = σ.2.2 1) : cT own A σ' N G' := fun i hi => by
  rw [taken_c e25 e23, e52, e55, e53, e54, eb]
  exact ⟨cl_kp (h i hi).1 k t7, (h i hi).2.imp (fun _ z => ⟨cl_kp z.1 k t21, z.2⟩)⟩
theorem kS (h : cS own A σ N G) (k : Kp T G G') (t5 : T 5 = false) (t8 : T 8 = false) : cS own A σ N G' := fun i hi => ⟨cl_kp (h i hi).1 k t5, cl_kp (h i hi).2.1 k t8, (h i hi).2.2⟩
theorem kWn (h : cW own A σ G) (k : Kp T G G') (t8 : T 8 = false) : cW own A σ G' := cl_kp h k t8
theorem kC (h : cC own A F σ N G) (k : Kp T G G') (t1 : T 1 = false) (t6 : T 6 = false) : cC own A F σ N G' := fun i hi => ⟨cl_kp (h i hi).1 k t1, fun z => cl_kp ((h i hi).2 z) k t6⟩
theorem kPm (h : cP own A σ N G) (k : Kp T G G') (t4 : T 4 = false) : cP own A σ N G' := fun i hi => cl_kp (h i hi) k t4
theorem kY (h : cY own A σ N G) (k : Kp T G G') (t3 : T 3 = false) : cY own A σ N G' := fun i hi => cl_kp (h i hi) k t3
theorem kF (h : cF own A σ N G) (k : Kp T G G') (t2 : T 2 = false) (t6 : T 6 = false) : cF own A σ N G' := fun i hi => ⟨cl_kp (h i hi).1 k t2, (h i hi).2.imp (fun _ z => cl_kp z k t6)⟩
end
def CW (E : XE) (own : Nat → Nat) (A : Nat → Nat → Nat) (F : Nat → Int32) (σ : MS) (N : Nat → Nat) (G G' : HP) : Prop := CH E own A F σ N G' ∧ Fr0 own G G'
theorem w_fr {x : Nat} {C : HP → Prop} {G G' : HP} (kq : ∀ q, q ≠ x → G' q = G q) (h : (∀ q, q ≠ x → G' q = G q) → C G') : C G' := h kq
theorem tm_eq {f t : Int32} (h : inB f 0 95 = true) : inB t (f + 1) 96 = (!decide (t ≤ f) && !decide (96 < t)) := by
  obtain ⟨k, hk, rfl⟩ := clt_nI (n := 96) (show inB f 0 (nI 96 - 1) = true from by rw [show (nI 96 - 1 : Int32) = 95 from by decide]; exact h) (by decide)
  unfold inB
  congr 2
  refine decide_eq_decide.2 ?_
  rw [nI_1, Int32.lt_iff_toInt_lt, Int32.le_iff_toInt_le, nI_toInt (by omega), nI_toInt (by omega)]
  omega
theorem dn_eq {x : Int32} (h : x = 50000 ∨ ∃ u, u ≤ 49999 ∧ x = nI u) : decide (x ≤ 49999) = !decide (dnF x = -1) := by
  rcases h with rfl | ⟨u, hu, rfl⟩
  · decide
  · rw [show dnF (nI u) = nI u from if_neg (fun e => by have := (nI_eq (show u < 2 ^ 31 by omega) (show 50000 < 2 ^ 31 by decide)).1 e; omega), decide_eq_false (nI_nm1 (by omega)), decide_eq_true (show nI u ≤ 49999 from nI_le (b := 49999) hu (by decide))]
    rfl
set_option maxRecDepth 20000 in
set_option maxHeartbeats 2000000 in
theorem q_times {E : XE} {d mc ms : Nat} {P : Ps} {G : HP} {own : Nat → Nat} {A : Nat → Nat → Nat} {F : Nat → Int32} {σ : MS} {N : Nat → Nat} (hH : CH E own A F σ N G) {T : Nat} (hI : PI σ N T) {w f t : Int32} (hmc : 10 ≤ mc) (hms : 1000 ≤ ms) (hX : ∀ X, exP (K_times w f t) X → P (.inr X) G) (hT2 : K_times w f t = 0 → ∀ G', CW E own A F (msc (msc (msc (zz σ) 2 w) 3 f) 4 t) N G G' → P (.inl none) G') : Sp E (d + 11) yX8_times mc ms [.ref (A 0 0), .int w, .int f, .int t] G P := by
  obtain ⟨hON, hN, hK, hL, hD, hT, hS, hW, hC, hPm, hY, hF⟩ := id hH
  obtain ⟨n0, n1, n2, n3, n4, n5, e7, e22, e29, e35, e40⟩ := id hN
  have hne : A 0 0 ≠ A 10 0 := ne_kd hK.1 hW.1 (Nat.ne_of_beq_eq_false rfl)
  refine sp_intro bd_X8_times (v1_all rfl) (Nat.le_of_ble_eq_true rfl) ?_
  change WX _ _ _ _ _ _ 0 [some (.ref (A 0 0)), some (.int w), some (.int f), some (.int t)] [] _ 0 0
  refine wp_load (pc' := 1) (j := 1) dX8_times_0 rfl rfl rfl ?_
  refine wp_iconst (pc' := 2) (1) dX8_times_1 rfl rfl ?_
  refine wp_bipush (pc' := 4) (127) dX8_times_2 rfl rfl ?_
  refine wp_s3 0 0 dX8_times_4 ml_X8_65 (Nat.le_of_ble_eq_true rfl) (by omega) (by omega) ?_
  refine c_isIn _ _ _ ?_
  refine kt_v ?_
  refine wp_ifeqB (pc' := 10) 36 dX8_times_7 rfl rfl (fun h7 => ?_) (fun h7 => ?_)
  · skip
    refine wp_iconst (pc' := 37) (0) dX8_times_36 rfl rfl ?_
    refine wp_s1 1 6 dX8_times_37 ml_X8_69 (Nat.le_of_ble_eq_true rfl) (by omega) (by omega) ?_
    refine c_need0 (by omega) (by omega) (kt_x rfl ?_)
    exact hX _ (exP2 (by simp only [mcode, K_times, e7, e22, e29, e35, e40, h7, Bool.false_eq_true, decide_true, decide_false, Bool.not_true, Bool.not_false, Bool.and_true, Bool.true_and, Bool.and_false, Bool.false_and, Bool.or_true, Bool.true_or, Bool.or_false, Bool.false_or, if_true, if_false, ite_true, ite_false]))
  · skip
    refine wp_load (pc' := 11) (j := 2) dX8_times_10 rfl rfl rfl ?_
    refine wp_iconst (pc' := 12) (0) dX8_times_11 rfl rfl ?_
    refine wp_bipush (pc' := 14) (95) dX8_times_12 rfl rfl ?_
    refine wp_s3 0 0 dX8_times_14 ml_X8_65 (Nat.le_of_ble_eq_true rfl) (by omega) (by omega) ?_
    refine c_isIn _ _ _ ?_
    refine kt_v ?_
    refine wp_ifeqB (pc' := 20) 36 dX8_times_17 rfl rfl (fun h17 => ?_) (fun h17 => ?_)
    · skip
      refine wp_iconst (pc' := 37) (0) dX8_times_36 rfl rfl ?_
      refine wp_s1 1 6 dX8_times_37 ml_X8_69 (Nat.le_of_ble_eq_true rfl) (by omega) (by omega) ?_
      refine c_need0 (by omega) (by omega) (kt_x rfl ?_)
      exact hX _ (exP2 (by simp only [mcode, K_times, e7, e22, e29, e35, e40, h7, h17, Bool.false_eq_true, decide_true, decide_false, Bool.not_true, Bool.not_false, Bool.and_true, Bool.true_and, Bool.and_false, Bool.false_and, Bool.or_true, Bool.true_or, Bool.or_false, Bool.false_or, if_true, if_false, ite_true, ite_false]))
    · skip
      refine wp_load (pc' := 21) (j := 3) dX8_times_20 rfl rfl rfl ?_
      refine wp_load (pc' := 22) (j := 2) dX8_times_21 rfl rfl rfl ?_
      refine wp_iconst (pc' := 23) (1) dX8_times_22 rfl rfl ?_
      refine wp_pure (pc' := 24) dX8_times_23 rfl rfl ?_
      refine wp_bipush (pc' := 26) (96) dX8_times_24 rfl rfl ?_
      refine wp_s3 0 0 dX8_times_26 ml_X8_65 (Nat.le_of_ble_eq_true rfl) (by omega) (by omega) ?_
      refine c_isIn _ _ _ ?_
      refine kt_v ?_
      refine wp_ifeqB (pc' := 32) 36 dX8_times_29 rfl rfl (fun h29 => ?_) (fun h29 => ?_)
      · skip
        rw [tm_eq h17] at h29
        refine wp_iconst (pc' := 37) (0) dX8_times_36 rfl rfl ?_
        refine wp_s1 1 6 dX8_times_37 ml_X8_69 (Nat.le_of_ble_eq_true rfl) (by omega) (by omega) ?_
        refine c_need0 (by omega) (by omega) (kt_x rfl ?_)
        exact hX _ (exP2 (by simp only [mcode, K_times, e7, e22, e29, e35, e40, h7, h17, h29, Bool.false_eq_true, decide_true, decide_false, Bool.not_true, Bool.not_false, Bool.and_true, Bool.true_and, Bool.and_false, Bool.false_and, Bool.or_true, Bool.true_or, Bool.or_false, Bool.false_or, if_true, if_false, ite_true, ite_false]))
      · skip
        rw [tm_eq h17] at h29
        refine wp_iconst (pc' := 33) (1) dX8_times_32 rfl rfl ?_
        refine wp_goto 37 dX8_times_33 rfl ?_
        refine wp_s1 1 6 dX8_times_37 ml_X8_69 (Nat.le_of_ble_eq_true rfl) (by omega) (by omega) ?_
        refine c_need1 ?_
        refine kt_u ?_
        refine wp_load (pc' := 41) (j := 0) dX8_times_40 rfl rfl rfl ?_
        refine wp_get (pc' := 44) dX8_times_41 fl_X8_34 hK.1 rfl rfl ?_
        refine wp_load (pc' := 45) (j := 1) dX8_times_44 rfl rfl rfl ?_
        refine wp_put (pc' := 48) (fs' := [_, _, _, _, _]) dX8_times_45 fl_X8_73 hW.1 (Nat.le_of_ble_eq_true rfl) rfl rfl rfl rfl ?_
        refine wp_load (pc' := 49) (j := 0) dX8_times_48 rfl rfl rfl ?_
        refine wp_get (pc' := 52) dX8_times_49 fl_X8_34 ((hu_n hne).trans hK.1) rfl rfl ?_
        refine wp_load (pc' := 53) (j := 2) dX8_times_52 rfl rfl rfl ?_
        refine wp_put (pc' := 56) (fs' := [_, _, _, _, _]) dX8_times_53 fl_X8_76 hu_s (Nat.le_of_ble_eq_true rfl) rfl rfl rfl rfl ?_
        refine wp_load (pc' := 57) (j := 0) dX8_times_56 rfl rfl rfl ?_
        refine wp_get (pc' := 60) dX8_times_57 fl_X8_34 ((hu_n hne).trans ((hu_n hne).trans hK.1)) rfl rfl ?_
        refine wp_load (pc' := 61) (j := 3) dX8_times_60 rfl rfl rfl ?_
        refine wp_put (pc' := 64) (fs' := [_, _, _, _, _]) dX8_times_61 fl_X8_79 hu_s (Nat.le_of_ble_eq_true rfl) rfl rfl rfl rfl ?_
        refine wp_vret dX8_times_64 rfl ?_
        refine hT2 (by simp only [mcode, K_times, h7, h17, h29, Bool.false_eq_true, decide_true, decide_false, Bool.not_true, Bool.not_false, Bool.and_true, Bool.true_and, Bool.and_false, Bool.false_and, Bool.or_true, Bool.true_or, Bool.or_false, Bool.false_or, if_true, if_false, ite_true, ite_false]) _ ?_
        refine w_fr (C := CW E own A F (msc (msc (msc (zz σ) 2 w) 3 f) 4 t) N G) (x := A 10 0) (G := G) (fun q hq => by simp only [hu_n hq]) (fun kq => ?_)
        have kp := kp_putF hW.1 rfl kq
        have fr := fr0_putF hW.2 kq
        exact ⟨⟨on_fr hON fr, hN, kK hK kp rfl, kL hL kp rfl rfl, hD, kT hT kp rfl rfl rfl rfl rfl rfl rfl rfl rfl, (fun i hi => ⟨cl_kp (hS i hi).1 kp rfl, ⟨(kq _ (hS i hi).2.2).trans (hS i hi).2.1.1, (hS i hi).2.1.2⟩, (hS i hi).2.2⟩), ⟨hu_s, hW.2⟩, kC hC kp rfl rfl, kPm hPm kp rfl, kY hY kp rfl, kF hF kp rfl rfl⟩, fr⟩

set_option maxRecDepth 20000 in
set_option maxHeartbeats 2000000 in
theorem q_dates {E : XE} {d mc ms : Nat} {P : Ps} {G : HP} {own : Nat → Nat} {A : Nat → Nat → Nat} {F : Nat → Int32} {σ : MS} {N : Nat → Nat} (hH : CH E own A F σ N G) {T : Nat} (hI : PI σ N T) {f t : Int32} (hmc : 10 ≤ mc) (hms : 1000 ≤ ms) (hX : ∀ X, exP (K_dates f t) X → P (.inr X) G) (hT2 : K_dates f t = 0 → ∀ G', CW E own A F (msc (msc (zz σ) 5 f) 6 t) N G G' → P (.inl none) G') : Sp E (d + 11) yX8_dates mc ms [.ref (A 0 0), .int f, .int t] G P := by
  obtain ⟨hON, hN, hK, hL, hD, hT, hS, hW, hC, hPm, hY, hF⟩ := id hH
  obtain ⟨n0, n1, n2, n3, n4, n5, e7, e22, e29, e35, e40⟩ := id hN
  have hne : A 0 0 ≠ A 10 0 := ne_kd hK.1 hW.1 (Nat.ne_of_beq_eq_false rfl)
  refine sp_intro bd_X8_dates (v1_all rfl) (Nat.le_of_ble_eq_true rfl) ?_
  change WX _ _ _ _ _ _ 0 [some (.ref (A 0 0)), some (.int f), some (.int t)] [] _ 0 0
  refine wp_load (pc' := 1) (j := 1) dX8_dates_0 rfl rfl rfl ?_
  refine wp_iconst (pc' := 2) (0) dX8_dates_1 rfl rfl ?_
  refine wp_sipush (pc' := 5) (520) dX8_dates_2 rfl rfl ?_
  refine wp_s3 0 0 dX8_dates_5 ml_X8_65 (Nat.le_of_ble_eq_true rfl) (by omega) (by omega) ?_
  refine c_isIn _ _ _ ?_
  refine kt_v ?_
  refine wp_ifeqB (pc' := 11) 26 dX8_dates_8 rfl rfl (fun h8 => ?_) (fun h8 => ?_)
  · skip
    refine wp_iconst (pc' := 27) (0) dX8_dates_26 rfl rfl ?_
    refine wp_s1 1 6 dX8_dates_27 ml_X8_69 (Nat.le_of_ble_eq_true rfl) (by omega) (by omega) ?_
    refine c_need0 (by omega) (by omega) (kt_x rfl ?_)
    exact hX _ (exP2 (by simp only [mcode, K_dates, e7, e22, e29, e35, e40, h8, Bool.false_eq_true, decide_true, decide_false, Bool.not_true, Bool.not_false, Bool.and_true, Bool.true_and, Bool.and_false, Bool.false_and, Bool.or_true, Bool.true_or, Bool.or_false, Bool.false_or, if_true, if_false, ite_true, ite_false]))
  · skip
    refine wp_load (pc' := 12) (j := 2) dX8_dates_11 rfl rfl rfl ?_
    refine wp_load (pc' := 13) (j := 1) dX8_dates_12 rfl rfl rfl ?_
    refine wp_sipush (pc' := 16) (520) dX8_dates_13 rfl rfl ?_
    refine wp_s3 0 0 dX8_dates_16 ml_X8_65 (Nat.le_of_ble_eq_true rfl) (by omega) (by omega) ?_
    refine c_isIn _ _ _ ?_
    refine kt_v ?_
    refine wp_ifeqB (pc' := 22) 26 dX8_dates_19 rfl rfl (fun h19 => ?_) (fun h19 => ?_)
    · skip
      refine wp_iconst (pc' := 27) (0) dX8_dates_26 rfl rfl ?_
      refine wp_s1 1 6 dX8_dates_27 ml_X8_69 (Nat.le_of_ble_eq_true rfl) (by omega) (by omega) ?_
      refine c_need0 (by omega) (by omega) (kt_x rfl ?_)
      exact hX _ (exP2 (by simp only [mcode, K_dates, e7, e22, e29, e35, e40, h8, h19, Bool.false_eq_true, decide_true, decide_false, Bool.not_true, Bool.not_false, Bool.and_true, Bool.true_and, Bool.and_false, Bool.false_and, Bool.or_true, Bool.true_or, Bool.or_false, Bool.false_or, if_true, if_false, ite_true, ite_false]))
    · skip
      refine wp_iconst (pc' := 23) (1) dX8_dates_22 rfl rfl ?_
      refine wp_goto 27 dX8_dates_23 rfl ?_
      refine wp_s1 1 6 dX8_dates_27 ml_X8_69 (Nat.le_of_ble_eq_true rfl) (by omega) (by omega) ?_
      refine c_need1 ?_
      refine kt_u ?_
      refine wp_load (pc' := 31) (j := 0) dX8_dates_30 rfl rfl rfl ?_
      refine wp_get (pc' := 34) dX8_dates_31 fl_X8_34 hK.1 rfl rfl ?_
      refine wp_load (pc' := 35) (j := 1) dX8_dates_34 rfl rfl rfl ?_
      refine wp_put (pc' := 38) (fs' := [_, _, _, _, _]) dX8_dates_35 fl_X8_82 hW.1 (Nat.le_of_ble_eq_true rfl) rfl rfl rfl rfl ?_
      refine wp_load (pc' := 39) (j := 0) dX8_dates_38 rfl rfl rfl ?_
      refine wp_get (pc' := 42) dX8_dates_39 fl_X8_34 ((hu_n hne).trans hK.1) rfl rfl ?_
      refine wp_load (pc' := 43) (j := 2) dX8_dates_42 rfl rfl rfl ?_
      refine wp_put (pc' := 46) (fs' := [_, _, _, _, _]) dX8_dates_43 fl_X8_85 hu_s (Nat.le_of_ble_eq_true rfl) rfl rfl rfl rfl ?_
      refine wp_vret dX8_dates_46 rfl ?_
      refine hT2 (by simp only [mcode, K_dates, h8, h19, Bool.false_eq_true, decide_true, decide_false, Bool.not_true, Bool.not_false, Bool.and_true, Bool.true_and, Bool.and_false, Bool.false_and, Bool.or_true, Bool.true_or, Bool.or_false, Bool.false_or, if_true, if_false, ite_true, ite_false]) _ ?_
      refine w_fr (C := CW E own A F (msc (msc (zz σ) 5 f) 6 t) N G) (x := A 10 0) (G := G) (fun q hq => by simp only [hu_n hq]) (fun kq => ?_)
      have kp := kp_putF hW.1 rfl kq
      have fr := fr0_putF hW.2 kq
      exact ⟨⟨on_fr hON fr, hN, kK hK kp rfl, kL hL kp rfl rfl, hD, kT hT kp rfl rfl rfl rfl rfl rfl rfl rfl rfl, (fun i hi => ⟨cl_kp (hS i hi).1 kp rfl, ⟨(kq _ (hS i hi).2.2).trans (hS i hi).2.1.1, (hS i hi).2.1.2⟩, (hS i hi).2.2⟩), ⟨hu_s, hW.2⟩, kC hC kp rfl rfl, kPm hPm kp rfl, kY hY kp rfl, kF hF kp rfl rfl⟩, fr⟩

