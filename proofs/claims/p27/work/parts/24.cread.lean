/-! the class: its readings -/
theorem dle (a b : Int32) : decide (a ≤ b) = !decide (b < a) := by
  rw [← decide_not]
  exact decide_eq_decide.2 Int32.not_lt.symm
def anyF (X : Nat → Bool) : Nat → Bool
  | 0 => false
  | k + 1 => anyF X k || X k
theorem any_t {X : Nat → Bool} {k n : Nat} (h : k < n) (hx : X k = true) : anyF X n = true := by
  induction n with
  | zero => omega
  | succ n ih =>
    show (anyF X n || X n) = true
    rcases Nat.lt_or_ge k n with q | q
    · rw [ih q, Bool.true_or]
    · obtain rfl : k = n := by omega
      rw [hx, Bool.or_true]
theorem any_s {X : Nat → Bool} {k : Nat} (h : anyF X k = false) (hx : X k = false) : anyF X (k + 1) = false := by
  show (anyF X k || X k) = false
  rw [h, hx]; rfl
def soV (A : Nat → Nat → Nat) (r : Option Nat) : Value := match r with
  | none => .null
  | some f => .ref (A 4 f)
theorem userF_any {σ : MS} {i : Nat} {s day : Int32} : ∀ n, userF σ i s day n = (!decide (σ.2.1 24 i = 0) || anyF (fun k => decide (σ.2.1 30 k = nI i) && decide (σ.2.1 31 k = s) && inB day (σ.2.1 33 k) (σ.2.1 34 k)) n)
  | 0 => (Bool.or_false _).symm
  | n + 1 => by
    show (userF σ i s day n || _) = (_ || (anyF _ n || _))
    rw [userF_any n, Bool.or_assoc]
theorem covF_any {σ : MS} {i : Nat} {s q : Int32} : ∀ n, covF σ i s q n = anyF (fun k => decide (σ.2.1 36 k = nI i) && decide (σ.2.1 37 k = s) && !decide (q < σ.2.1 38 k) && !decide (σ.2.1 38 k + σ.2.1 39 k ≤ q)) n
  | 0 => rfl
  | n + 1 => congrArg (· || _) (covF_any n)
theorem blkF_any {σ : MS} {o : Nat} : ∀ n, blkF σ o n = anyF (fun k => σ.2.2 1 (o + k)) n
  | 0 => rfl
  | n + 1 => congrArg (· || _) (blkF_any n)
theorem forbF_any {σ : MS} {m : Nat} {s mt q as : Int32} : ∀ n, forbF σ m s mt q as n = anyF (fun k => match ruleO σ s (mt + nI k) q m with | none => false | some f => !hasB (σ.2.1 11 f) as) n
  | 0 => rfl
  | n + 1 => congrArg (· || _) (forbF_any n)
theorem gapB_any {σ : MS} {s mt many : Int32} : ∀ n, gapB σ s mt many n = (decide (mt + many ≤ 60) && !anyF (fun k => !awayB σ k s mt many) n)
  | 0 => by
    show (!decide (60 < mt + many)) = (_ && !false)
    rw [Bool.not_false, Bool.and_true, dle]
  | n + 1 => by
    show (gapB σ s mt many n && _) = (_ && !(anyF _ n || _))
    rw [gapB_any n, Bool.not_or, Bool.not_not, Bool.and_assoc]
theorem up_eq {x : Int32} {q : Nat} (hx : x = 50000 ∨ ∃ u, u ≤ 49999 ∧ x = nI u) (hq : q ≤ 49999) : (decide (dnF x = -1) || !decide (dnF x ≤ nI q)) = !decide (x ≤ nI q) := by
  rcases hx with rfl | ⟨u, hu, rfl⟩
  · rw [show dnF 50000 = -1 from if_pos rfl, decide_eq_false (show ¬ (50000 : Int32) ≤ nI q from nI_ge (b := 50000) (by omega) (by decide))]
    rfl
  · rw [show dnF (nI u) = nI u from if_neg (fun e => by have := (nI_eq (show u < 2 ^ 31 by omega) (show 50000 < 2 ^ 31 by decide)).1 e; omega), decide_eq_false (nI_nm1 (by omega)), Bool.false_or]
theorem notice_eq {u q : Nat} (hu : u ≤ 49999) (hq : q ≤ 49999) : (!decide (nI q / 96 < nI u / 96 + 3)) = !decide (nI q / 96 ≤ nI u / 96 + 2) := by
  rw [show (96 : Int32) = nI 96 from rfl, pk_div (by omega) (by omega) (by omega), pk_div (by omega) (by omega) (by omega), show (3 : Int32) = nI 3 from rfl, show (2 : Int32) = nI 2 from rfl, nI_add, nI_add]
  congr 1
  refine decide_eq_decide.2 ?_
  rw [nI_ltI (by omega) (by omega), nI_leI (by omega) (by omega)]
  omega
theorem hold_eq {σ : MS} {k q u : Nat} {s mt : Int32} (hd : σ.2.1 21 k = 50000 ∨ ∃ u, u ≤ 49999 ∧ σ.2.1 21 k = nI u) (ht : σ.2.1 20 k = nI u) (hu : u ≤ 49999) (hq : q ≤ 49999) : (decide (σ.2.1 8 k = s) && (!decide (mt < σ.2.1 9 k) && !decide (σ.2.1 10 k < mt)) && (!decide (nI q < σ.2.1 20 k) && (decide (dnF (σ.2.1 21 k) = -1) || !decide (dnF (σ.2.1 21 k) ≤ nI q))) && (!σ.2.2 14 k || !decide (nI q / 96 < σ.2.1 20 k / 96 + 3)) && (hasB (σ.2.1 15 k) (rem (nI q / 96) 7) && !decide (rem (nI q) 96 < σ.2.1 16 k) && !decide (σ.2.1 17 k ≤ rem (nI q) 96) && inB (nI q / 96) (σ.2.1 18 k) (σ.2.1 19 k))) = holdsB σ k s mt (nI q) := by
  rw [up_eq hd hq]
  unfold holdsB
  rw [ht, notice_eq hu hq]
  show (_ && inB mt (σ.2.1 9 k) (σ.2.1 10 k) && _ && _ && _) = _
  generalize decide (σ.2.1 8 k = s) = a
  generalize inB mt (σ.2.1 9 k) (σ.2.1 10 k) = b
  generalize decide (nI q < nI u) = c
  generalize decide (σ.2.1 21 k ≤ nI q) = e
  generalize (!σ.2.2 14 k || _) = f
  generalize (hasB _ _ && _ && _ && _) = g
  revert a b c e f g
  decide
theorem ahead_eq {σ : MS} {k f : Nat} (h : f < k) (hk : k < 2 ^ 31) : (if b2i (σ.2.2 14 k) = b2i (σ.2.2 14 f) then (if σ.2.1 10 k - σ.2.1 9 k = σ.2.1 10 f - σ.2.1 9 f then !decide (nI k ≤ nI f) else !decide (σ.2.1 10 f - σ.2.1 9 f ≤ σ.2.1 10 k - σ.2.1 9 k)) else σ.2.2 14 k) = aheadB σ k f := by
  unfold aheadB
  split
  · split
    · next e =>
      rw [e, decide_eq_false (nI_ge h hk), decide_eq_false Int32.lt_irrefl]
    · next e =>
      rw [dle]
      congr 1
      generalize σ.2.1 10 f - σ.2.1 9 f = x at e ⊢
      generalize σ.2.1 10 k - σ.2.1 9 k = y at e ⊢
      rw [← decide_not]
      refine decide_eq_decide.2 ⟨fun z => Int32.lt_of_le_of_ne (Int32.not_lt.1 z) (fun w => e w.symm), fun z w => Int32.lt_irrefl (Int32.lt_trans z w)⟩
  · rfl
def aheadC (σ : MS) (k f : Nat) : Bool := if b2i (σ.2.2 14 k) = b2i (σ.2.2 14 f) then (if σ.2.1 10 k - σ.2.1 9 k = σ.2.1 10 f - σ.2.1 9 f then !decide (nI k ≤ nI f) else !decide (σ.2.1 10 f - σ.2.1 9 f ≤ σ.2.1 10 k - σ.2.1 9 k)) else σ.2.2 14 k
theorem c_holds {E : XE} {d mc ms : Nat} {P : Ps} {G : HP} {own : Nat → Nat} {A : Nat → Nat → Nat} {F : Nat → Int32} {σ : MS} {N : Nat → Nat} (hH : CH E own A F σ N G) {T : Nat} (hI : PI σ N T) {i q : Nat} {s mt : Int32} (hi : i < N 1) (hq : q ≤ 49999) (hP : P (.inl (some (.int (b2i (holdsB σ i s mt (nI q)))))) G) : Sp E (d + 2) yX4_holdsAt mc ms [.ref (A 4 i), .int s, .int mt, .int (nI q)] G P := by
  obtain ⟨hON, hN, hK, hL, hD, hT, hS, -⟩ := id hH
  obtain ⟨⟨t, ht, -, hu, -⟩, hdn, -⟩ := hI
  obtain ⟨u, hu1, hu2⟩ := hu i hi
  refine c_holdsAt (hS i hi).1.1 (hS i hi).2.1.1 ?_
  rw [hold_eq (hdn i hi) hu2 (by omega) hq]
  exact hP
set_option maxRecDepth 20000 in
set_option maxHeartbeats 2000000 in
theorem l_rule {E : XE} {d0 d mc ms : Nat} {P : Ps} {G : HP} {own : Nat → Nat} {A : Nat → Nat → Nat} {F : Nat → Int32} {σ : MS} {N : Nat → Nat} (hd : d = d0 + 3) (hH : CH E own A F σ N G) {T : Nat} (hI : PI σ N T) {q : Nat} (hq : q ≤ 49999) {s mt : Int32} (hP : P (.inl (some (soV A (ruleO σ s mt (nI q) (N 1))))) G) : ∀ j k, k + j = N 1 → ∀ z6 : Option Value, WX E d (yX8_signThatCounts, cX8_signThatCounts, (some (.object "KerbHours$Sign")), []) mc ms P 6 [some (.ref (A 0 0)), some (.int s), some (.int mt), some (.int (nI q)), some (soV A (ruleO σ s mt (nI q) k)), some (.int (nI k)), z6] [] G 0 0
  | 0, k, hk, z6 => by
    subst hd
    obtain ⟨hON, hN, hK, hL, hD, hT, hS, hW, hC, hPm, hY, hF⟩ := id hH
    obtain ⟨n0, n1, n2, n3, n4, n5, e7, e22, e29, e35, e40⟩ := id hN
    obtain ⟨mo1, hl1⟩ := (hL 1 (by decide)).1.1
    
    rcases hr : ruleO σ s mt (nI q) k with _ | f
    · skip
      refine wp_load (pc' := 8) (j := 5) dX8_signThatCounts_6 rfl rfl rfl ?_
      refine wp_load (pc' := 9) (j := 0) dX8_signThatCounts_8 rfl rfl rfl ?_
      refine wp_get (pc' := 12) dX8_signThatCounts_9 fl_X8_16 hK.1 rfl rfl ?_
      refine wp_v0 0 0 dX8_signThatCounts_12 ml_X8_88 hl1 (Nat.le_of_ble_eq_true rfl) (by omega) (by omega) ?_
      refine k_size (hL 1 (by decide)).1 ?_
      refine kt_v ?_
      refine wp_icmpT 68 dX8_signThatCounts_15 rfl (cgeT rfl (by omega) (by omega)) ?_
      refine wp_load (pc' := 70) (j := 4) dX8_signThatCounts_68 rfl rfl rfl ?_
      refine wp_aret dX8_signThatCounts_70 rfl (Or.inl ⟨_, rfl⟩) (Or.inl rfl) ?_
      obtain rfl : k = N 1 := by omega
      rw [hr] at hP
      exact hP
    · skip
      refine wp_load (pc' := 8) (j := 5) dX8_signThatCounts_6 rfl rfl rfl ?_
      refine wp_load (pc' := 9) (j := 0) dX8_signThatCounts_8 rfl rfl rfl ?_
      refine wp_get (pc' := 12) dX8_signThatCounts_9 fl_X8_16 hK.1 rfl rfl ?_
      refine wp_v0 0 0 dX8_signThatCounts_12 ml_X8_88 hl1 (Nat.le_of_ble_eq_true rfl) (by omega) (by omega) ?_
      refine k_size (hL 1 (by decide)).1 ?_
      refine kt_v ?_
      refine wp_icmpT 68 dX8_signThatCounts_15 rfl (cgeT rfl (by omega) (by omega)) ?_
      refine wp_load (pc' := 70) (j := 4) dX8_signThatCounts_68 rfl rfl rfl ?_
      refine wp_aret dX8_signThatCounts_70 rfl (Or.inl ⟨_, rfl⟩) (Or.inr ⟨_, rfl⟩) ?_
      obtain rfl : k = N 1 := by omega
      rw [hr] at hP
      exact hP
  | j + 1, k, hk, z6 => by
    have ih := l_rule (E := E) (d := d) (mc := mc) (ms := ms) hd hH hI hq hP j (k + 1) (by omega)
    subst hd
    obtain ⟨hON, hN, hK, hL, hD, hT, hS, hW, hC, hPm, hY, hF⟩ := id hH
    obtain ⟨n0, n1, n2, n3, n4, n5, e7, e22, e29, e35, e40⟩ := id hN
    obtain ⟨mo1, hl1⟩ := (hL 1 (by decide)).1.1
    
    rcases hr : ruleO σ s mt (nI q) k with _ | f
    · skip
      refine wp_load (pc' := 8) (j := 5) dX8_signThatCounts_6 rfl rfl rfl ?_
      refine wp_load (pc' := 9) (j := 0) dX8_signThatCounts_8 rfl rfl rfl ?_
      refine wp_get (pc' := 12) dX8_signThatCounts_9 fl_X8_16 hK.1 rfl rfl ?_
      refine wp_v0 0 0 dX8_signThatCounts_12 ml_X8_88 hl1 (Nat.le_of_ble_eq_true rfl) (by omega) (by omega) ?_
      refine k_size (hL 1 (by decide)).1 ?_
      refine kt_v ?_
      refine wp_icmpF (pc' := 18) 68 dX8_signThatCounts_15 rfl rfl (cgeF rfl (by omega) (by omega)) ?_
      refine wp_load (pc' := 19) (j := 0) dX8_signThatCounts_18 rfl rfl rfl ?_
      refine wp_get (pc' := 22) dX8_signThatCounts_19 fl_X8_16 hK.1 rfl rfl ?_
      refine wp_load (pc' := 24) (j := 5) dX8_signThatCounts_22 rfl rfl rfl ?_
      refine wp_v1 0 0 dX8_signThatCounts_24 ml_X8_122 hl1 (Nat.le_of_ble_eq_true rfl) (by omega) (by omega) ?_
      refine k_get (hL 1 (by decide)).1 (show k < N 1 from by omega) (by omega) ?_
      refine kt_v ?_
      refine wp_cast (pc' := 30) dX8_signThatCounts_27 cw_X8_95 (hS k (show k < N 1 from by omega)).1.1 rfl rfl rfl ?_
      refine wp_store (pc' := 32) (j := 6) (ls' := [_, _, _, _, _, _, _]) dX8_signThatCounts_30 rfl (Nat.le_of_ble_eq_true rfl) rfl rfl ?_
      refine wp_load (pc' := 34) (j := 6) dX8_signThatCounts_32 rfl rfl rfl ?_
      refine wp_load (pc' := 35) (j := 1) dX8_signThatCounts_34 rfl rfl rfl ?_
      refine wp_load (pc' := 36) (j := 2) dX8_signThatCounts_35 rfl rfl rfl ?_
      refine wp_load (pc' := 37) (j := 3) dX8_signThatCounts_36 rfl rfl rfl ?_
      refine wp_v3 0 0 dX8_signThatCounts_37 ml_X8_134 (hS k (show k < N 1 from by omega)).1.1 (Nat.le_of_ble_eq_true rfl) (by omega) (by omega) ?_
      refine c_holds hH hI (show k < N 1 from by omega) hq ?_
      refine kt_v ?_
      refine wp_ifeqB (pc' := 43) 62 dX8_signThatCounts_40 rfl rfl (fun h40 => ?_) (fun h40 => ?_)
      · skip
        refine wp_iinc (pc' := 65) (j := 5) (ls' := [_, _, _, _, _, _, _]) (nI (k + 1)) dX8_signThatCounts_62 rfl (nI_1 k) rfl rfl ?_
        refine wp_goto 6 dX8_signThatCounts_65 rfl ?_
        simpa only [ruleO, hr, soV, h40, Bool.false_eq_true, decide_true, decide_false, Bool.not_true, Bool.not_false, Bool.and_true, Bool.true_and, Bool.and_false, Bool.false_and, Bool.or_true, Bool.true_or, Bool.or_false, Bool.false_or, if_true, if_false, ite_true, ite_false] using ih (some (.ref (A 4 k)))
      · skip
        refine wp_load (pc' := 45) (j := 4) dX8_signThatCounts_43 rfl rfl rfl ?_
        refine wp_nul 58 dX8_signThatCounts_45 rfl ?_
        refine wp_load (pc' := 60) (j := 6) dX8_signThatCounts_58 rfl rfl rfl ?_
        refine wp_store (pc' := 62) (j := 4) (ls' := [_, _, _, _, _, _, _]) dX8_signThatCounts_60 rfl (Nat.le_of_ble_eq_true rfl) rfl rfl ?_
        refine wp_iinc (pc' := 65) (j := 5) (ls' := [_, _, _, _, _, _, _]) (nI (k + 1)) dX8_signThatCounts_62 rfl (nI_1 k) rfl rfl ?_
        refine wp_goto 6 dX8_signThatCounts_65 rfl ?_
        simpa only [ruleO, hr, soV, h40, Bool.false_eq_true, decide_true, decide_false, Bool.not_true, Bool.not_false, Bool.and_true, Bool.true_and, Bool.and_false, Bool.false_and, Bool.or_true, Bool.true_or, Bool.or_false, Bool.false_or, if_true, if_false, ite_true, ite_false] using ih (some (.ref (A 4 k)))
    · skip
      have hfk := ruleO_lt hr
      refine wp_load (pc' := 8) (j := 5) dX8_signThatCounts_6 rfl rfl rfl ?_
      refine wp_load (pc' := 9) (j := 0) dX8_signThatCounts_8 rfl rfl rfl ?_
      refine wp_get (pc' := 12) dX8_signThatCounts_9 fl_X8_16 hK.1 rfl rfl ?_
      refine wp_v0 0 0 dX8_signThatCounts_12 ml_X8_88 hl1 (Nat.le_of_ble_eq_true rfl) (by omega) (by omega) ?_
      refine k_size (hL 1 (by decide)).1 ?_
      refine kt_v ?_
      refine wp_icmpF (pc' := 18) 68 dX8_signThatCounts_15 rfl rfl (cgeF rfl (by omega) (by omega)) ?_
      refine wp_load (pc' := 19) (j := 0) dX8_signThatCounts_18 rfl rfl rfl ?_
      refine wp_get (pc' := 22) dX8_signThatCounts_19 fl_X8_16 hK.1 rfl rfl ?_
      refine wp_load (pc' := 24) (j := 5) dX8_signThatCounts_22 rfl rfl rfl ?_
      refine wp_v1 0 0 dX8_signThatCounts_24 ml_X8_122 hl1 (Nat.le_of_ble_eq_true rfl) (by omega) (by omega) ?_
      refine k_get (hL 1 (by decide)).1 (show k < N 1 from by omega) (by omega) ?_
      refine kt_v ?_
      refine wp_cast (pc' := 30) dX8_signThatCounts_27 cw_X8_95 (hS k (show k < N 1 from by omega)).1.1 rfl rfl rfl ?_
      refine wp_store (pc' := 32) (j := 6) (ls' := [_, _, _, _, _, _, _]) dX8_signThatCounts_30 rfl (Nat.le_of_ble_eq_true rfl) rfl rfl ?_
      refine wp_load (pc' := 34) (j := 6) dX8_signThatCounts_32 rfl rfl rfl ?_
      refine wp_load (pc' := 35) (j := 1) dX8_signThatCounts_34 rfl rfl rfl ?_
      refine wp_load (pc' := 36) (j := 2) dX8_signThatCounts_35 rfl rfl rfl ?_
      refine wp_load (pc' := 37) (j := 3) dX8_signThatCounts_36 rfl rfl rfl ?_
      refine wp_v3 0 0 dX8_signThatCounts_37 ml_X8_134 (hS k (show k < N 1 from by omega)).1.1 (Nat.le_of_ble_eq_true rfl) (by omega) (by omega) ?_
      refine c_holds hH hI (show k < N 1 from by omega) hq ?_
      refine kt_v ?_
      refine wp_ifeqB (pc' := 43) 62 dX8_signThatCounts_40 rfl rfl (fun h40 => ?_) (fun h40 => ?_)
      · skip
        refine wp_iinc (pc' := 65) (j := 5) (ls' := [_, _, _, _, _, _, _]) (nI (k + 1)) dX8_signThatCounts_62 rfl (nI_1 k) rfl rfl ?_
        refine wp_goto 6 dX8_signThatCounts_65 rfl ?_
        simpa only [ruleO, hr, soV, h40, Bool.false_eq_true, decide_true, decide_false, Bool.not_true, Bool.not_false, Bool.and_true, Bool.true_and, Bool.and_false, Bool.false_and, Bool.or_true, Bool.true_or, Bool.or_false, Bool.false_or, if_true, if_false, ite_true, ite_false] using ih (some (.ref (A 4 k)))
      · skip
        refine wp_load (pc' := 45) (j := 4) dX8_signThatCounts_43 rfl rfl rfl ?_
        refine wp_nulR (pc' := 48) dX8_signThatCounts_45 rfl ?_
        refine wp_load (pc' := 50) (j := 6) dX8_signThatCounts_48 rfl rfl rfl ?_
        refine wp_load (pc' := 52) (j := 4) dX8_signThatCounts_50 rfl rfl rfl ?_
        refine wp_v1 0 0 dX8_signThatCounts_52 ml_X8_297 (hS k (show k < N 1 from by omega)).1.1 (Nat.le_of_ble_eq_true rfl) (by omega) (by omega) ?_
        refine c_ahead (hS k (by omega)).1.1 (hS f (by omega)).1.1 ?_
        rw [ahead_eq hfk (by omega)]
        refine kt_v ?_
        refine wp_ifeqB (pc' := 58) 62 dX8_signThatCounts_55 rfl rfl (fun h55 => ?_) (fun h55 => ?_)
        · skip
          refine wp_iinc (pc' := 65) (j := 5) (ls' := [_, _, _, _, _, _, _]) (nI (k + 1)) dX8_signThatCounts_62 rfl (nI_1 k) rfl rfl ?_
          refine wp_goto 6 dX8_signThatCounts_65 rfl ?_
          simpa only [ruleO, hr, soV, h40, h55, Bool.false_eq_true, decide_true, decide_false, Bool.not_true, Bool.not_false, Bool.and_true, Bool.true_and, Bool.and_false, Bool.false_and, Bool.or_true, Bool.true_or, Bool.or_false, Bool.false_or, if_true, if_false, ite_true, ite_false] using ih (some (.ref (A 4 k)))
        · skip
          refine wp_load (pc' := 60) (j := 6) dX8_signThatCounts_58 rfl rfl rfl ?_
          refine wp_store (pc' := 62) (j := 4) (ls' := [_, _, _, _, _, _, _]) dX8_signThatCounts_60 rfl (Nat.le_of_ble_eq_true rfl) rfl rfl ?_
          refine wp_iinc (pc' := 65) (j := 5) (ls' := [_, _, _, _, _, _, _]) (nI (k + 1)) dX8_signThatCounts_62 rfl (nI_1 k) rfl rfl ?_
          refine wp_goto 6 dX8_signThatCounts_65 rfl ?_
          simpa only [ruleO, hr, soV, h40, h55, Bool.false_eq_true, decide_true, decide_false, Bool.not_true, Bool.not_false, Bool.and_true, Bool.true_and, Bool.and_false, Bool.false_and, Bool.or_true, Bool.true_or, Bool.or_false, Bool.false_or, if_true, if_false, ite_true, ite_false] using ih (some (.ref (A 4 k)))

set_option maxRecDepth 20000 in
set_option maxHeartbeats 2000000 in
theorem c_rule {E : XE} {d mc ms : Nat} {P : Ps} {G : HP} {own : Nat → Nat} {A : Nat → Nat → Nat} {F : Nat → Int32} {σ : MS} {N : Nat → Nat} (hH : CH E own A F σ N G) {T : Nat} (hI : PI σ N T) {q : Nat} (hq : q ≤ 49999) {s mt : Int32} (hP : P (.inl (some (soV A (ruleO σ s mt (nI q) (N 1))))) G) : Sp E (d + 4) yX8_signThatCounts mc ms [.ref (A 0 0), .int s, .int mt, .int (nI q)] G P := by
  obtain ⟨hON, hN, hK, hL, hD, hT, hS, hW, hC, hPm, hY, hF⟩ := id hH
  obtain ⟨n0, n1, n2, n3, n4, n5, e7, e22, e29, e35, e40⟩ := id hN
  refine sp_intro bd_X8_signThatCounts (v1_all rfl) (Nat.le_of_ble_eq_true rfl) ?_
  change WX _ _ _ _ _ _ 0 [some (.ref (A 0 0)), some (.int s), some (.int mt), some (.int (nI q)), none, none, none] [] _ 0 0
  refine wp_pure (pc' := 1) dX8_signThatCounts_0 rfl rfl ?_
  refine wp_store (pc' := 3) (j := 4) (ls' := [_, _, _, _, _, _, _]) dX8_signThatCounts_1 rfl (Nat.le_of_ble_eq_true rfl) rfl rfl ?_
  refine wp_iconst (pc' := 4) (0) dX8_signThatCounts_3 rfl rfl ?_
  refine wp_store (pc' := 6) (j := 5) (ls' := [_, _, _, _, _, _, _]) dX8_signThatCounts_4 rfl (Nat.le_of_ble_eq_true rfl) rfl rfl ?_
  exact l_rule rfl hH hI hq hP (N 1) 0 (by omega) none

set_option maxRecDepth 20000 in
set_option maxHeartbeats 2000000 in
theorem l_hasPermit {E : XE} {d0 d mc ms : Nat} {P : Ps} {G : HP} {own : Nat → Nat} {A : Nat → Nat → Nat} {F : Nat → Int32} {σ : MS} {N : Nat → Nat} (hd : d = d0 + 3) (hH : CH E own A F σ N G) {i : Nat} {s day : Int32} (hi : i < N 2) (hP : P (.inl (some (.int (b2i (anyF (fun k => decide (σ.2.1 30 k = nI i) && decide (σ.2.1 31 k = s) && inB day (σ.2.1 33 k) (σ.2.1 34 k)) (N 3)))))) G) : ∀ j k, k + j = N 3 → ∀ z5 : Option Value, ∀ (hb : anyF (fun k => decide (σ.2.1 30 k = nI i) && decide (σ.2.1 31 k = s) && inB day (σ.2.1 33 k) (σ.2.1 34 k)) k = false), WX E d (yX8_hasPermit, cX8_hasPermit, (some .boolean), []) mc ms P 3 [some (.ref (A 0 0)), some (.ref (A 5 i)), some (.int s), some (.int day), some (.int (nI k)), z5] [] G 0 0
  | 0, k, hk, z5, hb => by
    subst hd
    have hr0 := b2i_t
    obtain ⟨hON, hN, hK, hL, hD, hT, hS, hW, hC, hPm, hY, hF⟩ := id hH
    obtain ⟨n0, n1, n2, n3, n4, n5, e7, e22, e29, e35, e40⟩ := id hN
    obtain ⟨mo3, hl3⟩ := (hL 3 (by decide)).1.1
    
    refine wp_load (pc' := 5) (j := 4) dX8_hasPermit_3 rfl rfl rfl ?_
    refine wp_load (pc' := 6) (j := 0) dX8_hasPermit_5 rfl rfl rfl ?_
    refine wp_get (pc' := 9) dX8_hasPermit_6 fl_X8_22 hK.1 rfl rfl ?_
    refine wp_v0 0 0 dX8_hasPermit_9 ml_X8_88 hl3 (Nat.le_of_ble_eq_true rfl) (by omega) (by omega) ?_
    refine k_size (hL 3 (by decide)).1 ?_
    refine kt_v ?_
    refine wp_icmpT 67 dX8_hasPermit_12 rfl (cgeT rfl (by omega) (by omega)) ?_
    refine wp_iconst (pc' := 68) (0) dX8_hasPermit_67 rfl rfl ?_
    refine wp_iret dX8_hasPermit_68 rfl rfl ?_
    obtain rfl : k = N 3 := by omega
    rw [hb] at hP
    exact hP
  | j + 1, k, hk, z5, hb => by
    have ih := l_hasPermit (E := E) (d := d) (mc := mc) (ms := ms) hd hH hi hP j (k + 1) (by omega)
    subst hd
    have hr0 := b2i_t
    obtain ⟨hON, hN, hK, hL, hD, hT, hS, hW, hC, hPm, hY, hF⟩ := id hH
    obtain ⟨n0, n1, n2, n3, n4, n5, e7, e22, e29, e35, e40⟩ := id hN
    obtain ⟨mo3, hl3⟩ := (hL 3 (by decide)).1.1
    
    refine wp_load (pc' := 5) (j := 4) dX8_hasPermit_3 rfl rfl rfl ?_
    refine wp_load (pc' := 6) (j := 0) dX8_hasPermit_5 rfl rfl rfl ?_
    refine wp_get (pc' := 9) dX8_hasPermit_6 fl_X8_22 hK.1 rfl rfl ?_
    refine wp_v0 0 0 dX8_hasPermit_9 ml_X8_88 hl3 (Nat.le_of_ble_eq_true rfl) (by omega) (by omega) ?_
    refine k_size (hL 3 (by decide)).1 ?_
    refine kt_v ?_
    refine wp_icmpF (pc' := 15) 67 dX8_hasPermit_12 rfl rfl (cgeF rfl (by omega) (by omega)) ?_
    refine wp_load (pc' := 16) (j := 0) dX8_hasPermit_15 rfl rfl rfl ?_
    refine wp_get (pc' := 19) dX8_hasPermit_16 fl_X8_22 hK.1 rfl rfl ?_
    refine wp_load (pc' := 21) (j := 4) dX8_hasPermit_19 rfl rfl rfl ?_
    refine wp_v1 0 0 dX8_hasPermit_21 ml_X8_122 hl3 (Nat.le_of_ble_eq_true rfl) (by omega) (by omega) ?_
    refine k_get (hL 3 (by decide)).1 (show k < N 3 from by omega) (by omega) ?_
    refine kt_v ?_
    refine wp_cast (pc' := 27) dX8_hasPermit_24 cw_X8_155 (hPm k (show k < N 3 from by omega)).1 rfl rfl rfl ?_
    refine wp_store (pc' := 29) (j := 5) (ls' := [_, _, _, _, _, _]) dX8_hasPermit_27 rfl (Nat.le_of_ble_eq_true rfl) rfl rfl ?_
    refine wp_load (pc' := 31) (j := 5) dX8_hasPermit_29 rfl rfl rfl ?_
    refine wp_get (pc' := 34) dX8_hasPermit_31 fl_X8_162 (hPm k (show k < N 3 from by omega)).1 rfl rfl ?_
    refine wp_load (pc' := 35) (j := 1) dX8_hasPermit_34 rfl rfl rfl ?_
    refine wp_get (pc' := 38) dX8_hasPermit_35 fl_X8_145 (hC i hi).1.1 rfl rfl ?_
    refine wp_icmp_ne (pc' := 41) 61 dX8_hasPermit_38 rfl rfl (fun h38 => ?_) (fun h38 => ?_)
    · skip
      refine wp_iinc (pc' := 64) (j := 4) (ls' := [_, _, _, _, _, _]) (nI (k + 1)) dX8_hasPermit_61 rfl (nI_1 k) rfl rfl ?_
      refine wp_goto 3 dX8_hasPermit_64 rfl ?_
      have hx : (decide (σ.2.1 30 k = nI i) && decide (σ.2.1 31 k = s) && inB day (σ.2.1 33 k) (σ.2.1 34 k)) = false := by
        simp only [hr0, h38, Bool.false_eq_true, decide_true, decide_false, Bool.not_true, Bool.not_false, Bool.and_true, Bool.true_and, Bool.and_false, Bool.false_and, Bool.or_true, Bool.true_or, Bool.or_false, Bool.false_or, if_true, if_false, ite_true, ite_false]
      exact ih (some (.ref (A 6 k))) (any_s hb hx)
    · skip
      refine wp_load (pc' := 43) (j := 5) dX8_hasPermit_41 rfl rfl rfl ?_
      refine wp_get (pc' := 46) dX8_hasPermit_43 fl_X8_321 (hPm k (show k < N 3 from by omega)).1 rfl rfl ?_
      refine wp_load (pc' := 47) (j := 2) dX8_hasPermit_46 rfl rfl rfl ?_
      refine wp_icmp_ne (pc' := 50) 61 dX8_hasPermit_47 rfl rfl (fun h47 => ?_) (fun h47 => ?_)
      · skip
        refine wp_iinc (pc' := 64) (j := 4) (ls' := [_, _, _, _, _, _]) (nI (k + 1)) dX8_hasPermit_61 rfl (nI_1 k) rfl rfl ?_
        refine wp_goto 3 dX8_hasPermit_64 rfl ?_
        have hx : (decide (σ.2.1 30 k = nI i) && decide (σ.2.1 31 k = s) && inB day (σ.2.1 33 k) (σ.2.1 34 k)) = false := by
          simp only [hr0, h38, h47, Bool.false_eq_true, decide_true, decide_false, Bool.not_true, Bool.not_false, Bool.and_true, Bool.true_and, Bool.and_false, Bool.false_and, Bool.or_true, Bool.true_or, Bool.or_false, Bool.false_or, if_true, if_false, ite_true, ite_false]
        exact ih (some (.ref (A 6 k))) (any_s hb hx)
      · skip
        refine wp_load (pc' := 52) (j := 5) dX8_hasPermit_50 rfl rfl rfl ?_
        refine wp_load (pc' := 53) (j := 3) dX8_hasPermit_52 rfl rfl rfl ?_
        refine wp_v1 0 0 dX8_hasPermit_53 ml_X8_311 (hPm k (show k < N 3 from by omega)).1 (Nat.le_of_ble_eq_true rfl) (by omega) (by omega) ?_
        refine c_holdsOn (hPm k (by omega)).1 ?_
        refine kt_v ?_
        refine wp_ifeqB (pc' := 59) 61 dX8_hasPermit_56 rfl rfl (fun h56 => ?_) (fun h56 => ?_)
        · skip
          refine wp_iinc (pc' := 64) (j := 4) (ls' := [_, _, _, _, _, _]) (nI (k + 1)) dX8_hasPermit_61 rfl (nI_1 k) rfl rfl ?_
          refine wp_goto 3 dX8_hasPermit_64 rfl ?_
          have hx : (decide (σ.2.1 30 k = nI i) && decide (σ.2.1 31 k = s) && inB day (σ.2.1 33 k) (σ.2.1 34 k)) = false := by
            simp only [hr0, h38, h47, h56, Bool.false_eq_true, decide_true, decide_false, Bool.not_true, Bool.not_false, Bool.and_true, Bool.true_and, Bool.and_false, Bool.false_and, Bool.or_true, Bool.true_or, Bool.or_false, Bool.false_or, if_true, if_false, ite_true, ite_false]
          exact ih (some (.ref (A 6 k))) (any_s hb hx)
        · skip
          refine wp_iconst (pc' := 60) (1) dX8_hasPermit_59 rfl rfl ?_
          refine wp_iret dX8_hasPermit_60 rfl rfl ?_
          have hx : (decide (σ.2.1 30 k = nI i) && decide (σ.2.1 31 k = s) && inB day (σ.2.1 33 k) (σ.2.1 34 k)) = true := by
            simp only [hr0, h38, h47, h56, Bool.false_eq_true, decide_true, decide_false, Bool.not_true, Bool.not_false, Bool.and_true, Bool.true_and, Bool.and_false, Bool.false_and, Bool.or_true, Bool.true_or, Bool.or_false, Bool.false_or, if_true, if_false, ite_true, ite_false]
          rw [any_t (show k < N 3 from by omega) hx] at hP
          exact hP

set_option maxRecDepth 20000 in
set_option maxHeartbeats 2000000 in
theorem c_hasPermit {E : XE} {d mc ms : Nat} {P : Ps} {G : HP} {own : Nat → Nat} {A : Nat → Nat → Nat} {F : Nat → Int32} {σ : MS} {N : Nat → Nat} (hH : CH E own A F σ N G) {i : Nat} {s day : Int32} (hi : i < N 2) (hP : P (.inl (some (.int (b2i (anyF (fun k => decide (σ.2.1 30 k = nI i) && decide (σ.2.1 31 k = s) && inB day (σ.2.1 33 k) (σ.2.1 34 k)) (N 3)))))) G) : Sp E (d + 4) yX8_hasPermit mc ms [.ref (A 0 0), .ref (A 5 i), .int s, .int day] G P := by
  obtain ⟨hON, hN, hK, hL, hD, hT, hS, hW, hC, hPm, hY, hF⟩ := id hH
  obtain ⟨n0, n1, n2, n3, n4, n5, e7, e22, e29, e35, e40⟩ := id hN
  refine sp_intro bd_X8_hasPermit (v1_all rfl) (Nat.le_of_ble_eq_true rfl) ?_
  change WX _ _ _ _ _ _ 0 [some (.ref (A 0 0)), some (.ref (A 5 i)), some (.int s), some (.int day), none, none] [] _ 0 0
  refine wp_iconst (pc' := 1) (0) dX8_hasPermit_0 rfl rfl ?_
  refine wp_store (pc' := 3) (j := 4) (ls' := [_, _, _, _, _, _]) dX8_hasPermit_1 rfl (Nat.le_of_ble_eq_true rfl) rfl rfl ?_
  exact l_hasPermit rfl hH hi hP (N 3) 0 (by omega) none rfl

set_option maxRecDepth 20000 in
set_option maxHeartbeats 2000000 in
theorem c_userOf {E : XE} {d mc ms : Nat} {P : Ps} {G : HP} {own : Nat → Nat} {A : Nat → Nat → Nat} {F : Nat → Int32} {σ : MS} {N : Nat → Nat} (hH : CH E own A F σ N G) {i : Nat} {s q : Int32} (hi : i < N 2) (hP : P (.inl (some (.int (userOnF σ i s (q / 96) (N 3))))) G) : Sp E (d + 5) yX8_userOf mc ms [.ref (A 0 0), .ref (A 5 i), .int s, .int q] G P := by
  obtain ⟨hON, hN, hK, hL, hD, hT, hS, hW, hC, hPm, hY, hF⟩ := id hH
  obtain ⟨n0, n1, n2, n3, n4, n5, e7, e22, e29, e35, e40⟩ := id hN
  unfold userOnF at hP
  rw [userF_any] at hP
  refine sp_intro bd_X8_userOf (v1_all rfl) (Nat.le_of_ble_eq_true rfl) ?_
  change WX _ _ _ _ _ _ 0 [some (.ref (A 0 0)), some (.ref (A 5 i)), some (.int s), some (.int q)] [] _ 0 0
  refine wp_load (pc' := 1) (j := 1) dX8_userOf_0 rfl rfl rfl ?_
  refine wp_get (pc' := 4) dX8_userOf_1 fl_X8_314 (hC i hi).1.1 rfl rfl ?_
  refine wp_if_ne (pc' := 7) 24 dX8_userOf_4 rfl rfl (fun h4 => ?_) (fun h4 => ?_)
  · skip
    refine wp_load (pc' := 25) (j := 1) dX8_userOf_24 rfl rfl rfl ?_
    refine wp_get (pc' := 28) dX8_userOf_25 fl_X8_314 (hC i hi).1.1 rfl rfl ?_
    refine wp_iret dX8_userOf_28 rfl rfl ?_
    simpa only [h4, Bool.false_eq_true, decide_true, decide_false, Bool.not_true, Bool.not_false, Bool.and_true, Bool.true_and, Bool.and_false, Bool.false_and, Bool.or_true, Bool.true_or, Bool.or_false, Bool.false_or, if_true, if_false, ite_true, ite_false] using hP
  · skip
    refine wp_load (pc' := 8) (j := 0) dX8_userOf_7 rfl rfl rfl ?_
    refine wp_load (pc' := 9) (j := 1) dX8_userOf_8 rfl rfl rfl ?_
    refine wp_load (pc' := 10) (j := 2) dX8_userOf_9 rfl rfl rfl ?_
    refine wp_load (pc' := 11) (j := 3) dX8_userOf_10 rfl rfl rfl ?_
    refine wp_bipush (pc' := 13) (96) dX8_userOf_11 rfl rfl ?_
    refine wp_div (pc' := 14) dX8_userOf_13 (by decide) rfl ?_
    refine wp_v3 0 0 dX8_userOf_14 ml_X8_317 hK.1 (Nat.le_of_ble_eq_true rfl) (by omega) (by omega) ?_
    refine c_hasPermit hH hi ?_
    refine kt_v ?_
    refine wp_ifneB (pc' := 20) 24 dX8_userOf_17 rfl rfl (fun h17 => ?_) (fun h17 => ?_)
    · skip
      refine wp_load (pc' := 25) (j := 1) dX8_userOf_24 rfl rfl rfl ?_
      refine wp_get (pc' := 28) dX8_userOf_25 fl_X8_314 (hC i hi).1.1 rfl rfl ?_
      refine wp_iret dX8_userOf_28 rfl rfl ?_
      simpa only [h4, h17, Bool.false_eq_true, decide_true, decide_false, Bool.not_true, Bool.not_false, Bool.and_true, Bool.true_and, Bool.and_false, Bool.false_and, Bool.or_true, Bool.true_or, Bool.or_false, Bool.false_or, if_true, if_false, ite_true, ite_false] using hP
    · skip
      refine wp_iconst (pc' := 21) (4) dX8_userOf_20 rfl rfl ?_
      refine wp_goto 28 dX8_userOf_21 rfl ?_
      refine wp_iret dX8_userOf_28 rfl rfl ?_
      simpa only [h4, h17, Bool.false_eq_true, decide_true, decide_false, Bool.not_true, Bool.not_false, Bool.and_true, Bool.true_and, Bool.and_false, Bool.false_and, Bool.or_true, Bool.true_or, Bool.or_false, Bool.false_or, if_true, if_false, ite_true, ite_false] using hP

set_option maxRecDepth 20000 in
set_option maxHeartbeats 2000000 in
theorem l_paid {E : XE} {d0 d mc ms : Nat} {P : Ps} {G : HP} {own : Nat → Nat} {A : Nat → Nat → Nat} {F : Nat → Int32} {σ : MS} {N : Nat → Nat} (hd : d = d0 + 3) (hH : CH E own A F σ N G) {sa i : Nat} {s mt fr fo : Int32} (hs : G sa = some (hO 6 [.ref (A 5 i), .int s, .int mt, .int fr, .int fo])) (hi : i < N 2) {q : Int32} (hP : P (.inl (some (.int (b2i (anyF (fun k => decide (σ.2.1 36 k = nI i) && decide (σ.2.1 37 k = s) && !decide (q < σ.2.1 38 k) && !decide (σ.2.1 38 k + σ.2.1 39 k ≤ q)) (N 4)))))) G) : ∀ j k, k + j = N 4 → ∀ z4 : Option Value, ∀ (hb : anyF (fun k => decide (σ.2.1 36 k = nI i) && decide (σ.2.1 37 k = s) && !decide (q < σ.2.1 38 k) && !decide (σ.2.1 38 k + σ.2.1 39 k ≤ q)) k = false), WX E d (yX8_isPaidFor, cX8_isPaidFor, (some .boolean), []) mc ms P 2 [some (.ref (A 0 0)), some (.ref sa), some (.int q), some (.int (nI k)), z4] [] G 0 0
  | 0, k, hk, z4, hb => by
    subst hd
    have hr0 := b2i_t
    obtain ⟨hON, hN, hK, hL, hD, hT, hS, hW, hC, hPm, hY, hF⟩ := id hH
    obtain ⟨n0, n1, n2, n3, n4, n5, e7, e22, e29, e35, e40⟩ := id hN
    obtain ⟨mo4, hl4⟩ := (hL 4 (by decide)).1.1
    
    refine wp_load (pc' := 3) (j := 3) dX8_isPaidFor_2 rfl rfl rfl ?_
    refine wp_load (pc' := 4) (j := 0) dX8_isPaidFor_3 rfl rfl rfl ?_
    refine wp_get (pc' := 7) dX8_isPaidFor_4 fl_X8_25 hK.1 rfl rfl ?_
    refine wp_v0 0 0 dX8_isPaidFor_7 ml_X8_88 hl4 (Nat.le_of_ble_eq_true rfl) (by omega) (by omega) ?_
    refine k_size (hL 4 (by decide)).1 ?_
    refine kt_v ?_
    refine wp_icmpT 70 dX8_isPaidFor_10 rfl (cgeT rfl (by omega) (by omega)) ?_
    refine wp_iconst (pc' := 71) (0) dX8_isPaidFor_70 rfl rfl ?_
    refine wp_iret dX8_isPaidFor_71 rfl rfl ?_
    obtain rfl : k = N 4 := by omega
    rw [hb] at hP
    exact hP
  | j + 1, k, hk, z4, hb => by
    have ih := l_paid (E := E) (d := d) (mc := mc) (ms := ms) hd hH hs hi hP j (k + 1) (by omega)
    subst hd
    have hr0 := b2i_t
    obtain ⟨hON, hN, hK, hL, hD, hT, hS, hW, hC, hPm, hY, hF⟩ := id hH
    obtain ⟨n0, n1, n2, n3, n4, n5, e7, e22, e29, e35, e40⟩ := id hN
    obtain ⟨mo4, hl4⟩ := (hL 4 (by decide)).1.1
    
    refine wp_load (pc' := 3) (j := 3) dX8_isPaidFor_2 rfl rfl rfl ?_
    refine wp_load (pc' := 4) (j := 0) dX8_isPaidFor_3 rfl rfl rfl ?_
    refine wp_get (pc' := 7) dX8_isPaidFor_4 fl_X8_25 hK.1 rfl rfl ?_
    refine wp_v0 0 0 dX8_isPaidFor_7 ml_X8_88 hl4 (Nat.le_of_ble_eq_true rfl) (by omega) (by omega) ?_
    refine k_size (hL 4 (by decide)).1 ?_
    refine kt_v ?_
    refine wp_icmpF (pc' := 13) 70 dX8_isPaidFor_10 rfl rfl (cgeF rfl (by omega) (by omega)) ?_
    refine wp_load (pc' := 14) (j := 0) dX8_isPaidFor_13 rfl rfl rfl ?_
    refine wp_get (pc' := 17) dX8_isPaidFor_14 fl_X8_25 hK.1 rfl rfl ?_
    refine wp_load (pc' := 18) (j := 3) dX8_isPaidFor_17 rfl rfl rfl ?_
    refine wp_v1 0 0 dX8_isPaidFor_18 ml_X8_122 hl4 (Nat.le_of_ble_eq_true rfl) (by omega) (by omega) ?_
    refine k_get (hL 4 (by decide)).1 (show k < N 4 from by omega) (by omega) ?_
    refine kt_v ?_
    refine wp_cast (pc' := 24) dX8_isPaidFor_21 cw_X8_205 (hY k (show k < N 4 from by omega)).1 rfl rfl rfl ?_
    refine wp_store (pc' := 26) (j := 4) (ls' := [_, _, _, _, _]) dX8_isPaidFor_24 rfl (Nat.le_of_ble_eq_true rfl) rfl rfl ?_
    refine wp_load (pc' := 28) (j := 4) dX8_isPaidFor_26 rfl rfl rfl ?_
    refine wp_get (pc' := 31) dX8_isPaidFor_28 fl_X8_344 (hY k (show k < N 4 from by omega)).1 rfl rfl ?_
    refine wp_load (pc' := 32) (j := 1) dX8_isPaidFor_31 rfl rfl rfl ?_
    refine wp_get (pc' := 35) dX8_isPaidFor_32 fl_X8_263 hs rfl rfl ?_
    refine wp_get (pc' := 38) dX8_isPaidFor_35 fl_X8_145 (hC i hi).1.1 rfl rfl ?_
    refine wp_icmp_ne (pc' := 41) 64 dX8_isPaidFor_38 rfl rfl (fun h38 => ?_) (fun h38 => ?_)
    · skip
      refine wp_iinc (pc' := 67) (j := 3) (ls' := [_, _, _, _, _]) (nI (k + 1)) dX8_isPaidFor_64 rfl (nI_1 k) rfl rfl ?_
      refine wp_goto 2 dX8_isPaidFor_67 rfl ?_
      have hx : (decide (σ.2.1 36 k = nI i) && decide (σ.2.1 37 k = s) && !decide (q < σ.2.1 38 k) && !decide (σ.2.1 38 k + σ.2.1 39 k ≤ q)) = false := by
        simp only [hr0, h38, Bool.false_eq_true, decide_true, decide_false, Bool.not_true, Bool.not_false, Bool.and_true, Bool.true_and, Bool.and_false, Bool.false_and, Bool.or_true, Bool.true_or, Bool.or_false, Bool.false_or, if_true, if_false, ite_true, ite_false]
      exact ih (some (.ref (A 7 k))) (any_s hb hx)
    · skip
      refine wp_load (pc' := 43) (j := 4) dX8_isPaidFor_41 rfl rfl rfl ?_
      refine wp_get (pc' := 46) dX8_isPaidFor_43 fl_X8_345 (hY k (show k < N 4 from by omega)).1 rfl rfl ?_
      refine wp_load (pc' := 47) (j := 1) dX8_isPaidFor_46 rfl rfl rfl ?_
      refine wp_get (pc' := 50) dX8_isPaidFor_47 fl_X8_226 hs rfl rfl ?_
      refine wp_icmp_ne (pc' := 53) 64 dX8_isPaidFor_50 rfl rfl (fun h50 => ?_) (fun h50 => ?_)
      · skip
        refine wp_iinc (pc' := 67) (j := 3) (ls' := [_, _, _, _, _]) (nI (k + 1)) dX8_isPaidFor_64 rfl (nI_1 k) rfl rfl ?_
        refine wp_goto 2 dX8_isPaidFor_67 rfl ?_
        have hx : (decide (σ.2.1 36 k = nI i) && decide (σ.2.1 37 k = s) && !decide (q < σ.2.1 38 k) && !decide (σ.2.1 38 k + σ.2.1 39 k ≤ q)) = false := by
          simp only [hr0, h38, h50, Bool.false_eq_true, decide_true, decide_false, Bool.not_true, Bool.not_false, Bool.and_true, Bool.true_and, Bool.and_false, Bool.false_and, Bool.or_true, Bool.true_or, Bool.or_false, Bool.false_or, if_true, if_false, ite_true, ite_false]
        exact ih (some (.ref (A 7 k))) (any_s hb hx)
      · skip
        refine wp_load (pc' := 55) (j := 4) dX8_isPaidFor_53 rfl rfl rfl ?_
        refine wp_load (pc' := 56) (j := 2) dX8_isPaidFor_55 rfl rfl rfl ?_
        refine wp_v1 0 0 dX8_isPaidFor_56 ml_X8_346 (hY k (show k < N 4 from by omega)).1 (Nat.le_of_ble_eq_true rfl) (by omega) (by omega) ?_
        refine c_covers (hY k (by omega)).1 ?_
        refine kt_v ?_
        refine wp_ifeqB (pc' := 62) 64 dX8_isPaidFor_59 rfl rfl (fun h59 => ?_) (fun h59 => ?_)
        · skip
          refine wp_iinc (pc' := 67) (j := 3) (ls' := [_, _, _, _, _]) (nI (k + 1)) dX8_isPaidFor_64 rfl (nI_1 k) rfl rfl ?_
          refine wp_goto 2 dX8_isPaidFor_67 rfl ?_
          have hx : (decide (σ.2.1 36 k = nI i) && decide (σ.2.1 37 k = s) && !decide (q < σ.2.1 38 k) && !decide (σ.2.1 38 k + σ.2.1 39 k ≤ q)) = false := by
            simp only [hr0, h38, h50, h59, Bool.false_eq_true, decide_true, decide_false, Bool.not_true, Bool.not_false, Bool.and_true, Bool.true_and, Bool.and_false, Bool.false_and, Bool.or_true, Bool.true_or, Bool.or_false, Bool.false_or, if_true, if_false, ite_true, ite_false]
          exact ih (some (.ref (A 7 k))) (any_s hb hx)
        · skip
          refine wp_iconst (pc' := 63) (1) dX8_isPaidFor_62 rfl rfl ?_
          refine wp_iret dX8_isPaidFor_63 rfl rfl ?_
          have hx : (decide (σ.2.1 36 k = nI i) && decide (σ.2.1 37 k = s) && !decide (q < σ.2.1 38 k) && !decide (σ.2.1 38 k + σ.2.1 39 k ≤ q)) = true := by
            simp only [hr0, h38, h50, h59, Bool.false_eq_true, decide_true, decide_false, Bool.not_true, Bool.not_false, Bool.and_true, Bool.true_and, Bool.and_false, Bool.false_and, Bool.or_true, Bool.true_or, Bool.or_false, Bool.false_or, if_true, if_false, ite_true, ite_false]
          rw [any_t (show k < N 4 from by omega) hx] at hP
          exact hP

set_option maxRecDepth 20000 in
set_option maxHeartbeats 2000000 in
theorem c_paid {E : XE} {d mc ms : Nat} {P : Ps} {G : HP} {own : Nat → Nat} {A : Nat → Nat → Nat} {F : Nat → Int32} {σ : MS} {N : Nat → Nat} (hH : CH E own A F σ N G) {sa i : Nat} {s mt fr fo : Int32} (hs : G sa = some (hO 6 [.ref (A 5 i), .int s, .int mt, .int fr, .int fo])) (hi : i < N 2) {q : Int32} (hP : P (.inl (some (.int (b2i (covF σ i s q (N 4)))))) G) : Sp E (d + 4) yX8_isPaidFor mc ms [.ref (A 0 0), .ref sa, .int q] G P := by
  obtain ⟨hON, hN, hK, hL, hD, hT, hS, hW, hC, hPm, hY, hF⟩ := id hH
  obtain ⟨n0, n1, n2, n3, n4, n5, e7, e22, e29, e35, e40⟩ := id hN
  rw [covF_any] at hP
  refine sp_intro bd_X8_isPaidFor (v1_all rfl) (Nat.le_of_ble_eq_true rfl) ?_
  change WX _ _ _ _ _ _ 0 [some (.ref (A 0 0)), some (.ref sa), some (.int q), none, none] [] _ 0 0
  refine wp_iconst (pc' := 1) (0) dX8_isPaidFor_0 rfl rfl ?_
  refine wp_store (pc' := 2) (j := 3) (ls' := [_, _, _, _, _]) dX8_isPaidFor_1 rfl (Nat.le_of_ble_eq_true rfl) rfl rfl ?_
  exact l_paid rfl hH hs hi hP (N 4) 0 (by omega) none rfl

