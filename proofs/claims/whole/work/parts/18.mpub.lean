/-! the public methods of the reference -/
abbrev ix (x : Int32) : Nat := x.toNatClampNeg
theorem ix_nI {n : Nat} (h : n < 2 ^ 31) : ix (nI n) = n := nI_clamp h
abbrev zz (σ : MS) : MS := msc σ 56 0
def K_block (s mt : Int32) : Int32 := mcode (isStreetB s && isMetreB mt) true true
def K_times (w f t : Int32) : Int32 := mcode (inB w 1 127 && inB f 0 95 && !decide (t ≤ f) && !decide (96 < t)) true true
def K_dates (f t : Int32) : Int32 := mcode (inB f 0 520 && inB t f 520) true true
def K_sign (σ : MS) (st f t u sy : Int32) : Int32 := mcode (isStreetB st && isMetreB f && isMetreB t) (!decide (t < f) && inB u 0 31 && inB sy 0 96) (!decide (30 ≤ σ.1 7))
def K_takeDown (σ : MS) (i : Int32) : Int32 := mcode (inB i 0 (σ.1 7 - 1)) (inB i 0 (σ.1 7 - 1) && !decide (σ.2.1 21 (ix i) ≤ 49999)) true
def K_rule (s mt q : Int32) : Int32 := mcode (isStreetB s && isMetreB mt) (inB q 0 49999) true
def K_car (σ : MS) (l u : Int32) : Int32 := mcode (inB l 3 12 && inB u 0 4) (!decide (30 ≤ σ.1 22)) true
def K_permit (σ : MS) (np : Nat) (i s h f t : Int32) : Int32 := mcode (isCarB σ i && isStreetB s && inB h 0 9) (inB f 0 520 && inB t f 520) (!decide (40 ≤ σ.1 29) && (inB f 0 520 && inB t f 520) && roomF σ np h (ix f) (ix t + 1 - ix f))
def K_hand (σ : MS) (p i : Int32) : Int32 := mcode (inB p 0 (σ.1 29 - 1) && isCarB σ i) true true
def K_countsAs (σ : MS) (i s : Int32) : Int32 := mcode (isCarB σ i && isStreetB s) true true
def K_park (σ : MS) (nc : Nat) (i s mt : Int32) : Int32 := mcode (isCarB σ i && isStreetB s && isMetreB mt) (isCarB σ i && isStreetB s && isMetreB mt && decide (σ.2.1 25 (ix i) = -1) && gapB σ s mt (σ.2.1 23 (ix i)) nc) true
def K_leave (σ : MS) (i : Int32) : Int32 := mcode (isCarB σ i) (isCarB σ i && !decide (σ.2.1 25 (ix i) = -1)) true
def K_gap (s l : Int32) : Int32 := mcode (isStreetB s) (inB l 3 12) true
def K_pay (σ : MS) (i s f q : Int32) : Int32 := mcode (isCarB σ i && isStreetB s) (inB f (if 96 ≤ σ.1 0 then σ.1 0 - 96 else 0) (σ.1 0) && inB q 1 96) (!decide (200 ≤ σ.1 35))
def K_car1 (σ : MS) (i : Int32) : Int32 := mcode (isCarB σ i) true true
def K_look (s : Int32) : Int32 := mcode (isStreetB s) true true
def K_appeal (σ : MS) (i : Int32) : Int32 := mcode (isFineB σ i) (isFineB σ i && !σ.2.2 49 (ix i) && !σ.2.2 51 (ix i)) true
def K_payFine (σ : MS) (i : Int32) : Int32 := mcode (isFineB σ i) (isFineB σ i && !σ.2.2 51 (ix i) && !σ.2.2 50 (ix i)) true
def K_fine (σ : MS) (i w : Int32) : Int32 := mcode (isFineB σ i) (inB w 0 5) true
def K_tow (σ : MS) (nf : Nat) (i : Int32) : Int32 := mcode (isCarB σ i) (isCarB σ i && !decide (σ.2.1 25 (ix i) = -1) && !decide (debtF σ (ix i) nf < 200)) true
def K_streetIs (s w : Int32) : Int32 := mcode (isStreetB s) (inB w 0 4) true
def K_pass (σ : MS) (q : Int32) : Int32 := mcode (inB q 1 96) (!decide (49999 < σ.1 0 + q)) true
def rsF (σ : MS) : MS := msc (msc (msc (msc (msc σ 2 127) 3 0) 4 96) 5 0) 6 520
def sgnF (σ : MS) (n : Nat) (st f t u sy : Int32) (fee tmp : Bool) : MS := msc (rsF (mar (mar (mar (mar (mar (mar (mar (mbr (mbr (mar (mar (mar (mar (mar (zz σ) 8 n st) 9 n f) 10 n t) 11 n u) 12 n sy) 13 n fee) 14 n tmp) 15 n (σ.1 2)) 16 n (σ.1 3)) 17 n (σ.1 4)) 18 n (σ.1 5)) 19 n (σ.1 6)) 20 n (σ.1 0)) 21 n 50000)) 7 (σ.1 7 + 1)
def carF (σ : MS) (n : Nat) (l u : Int32) : MS := msc (mar (mar (mar (zz σ) 23 n l) 24 n u) 25 n (-1)) 22 (σ.1 22 + 1)
def perF (σ : MS) (n : Nat) (i s h f t : Int32) : MS := msc (mar (mar (mar (mar (mar (zz σ) 30 n i) 31 n s) 32 n h) 33 n f) 34 n t) 29 (σ.1 29 + 1)
def parkF (σ : MS) (i : Nat) (s mt : Int32) : MS := mar (mar (mar (mar (zz σ) 25 i s) 26 i mt) 27 i (σ.1 0)) 28 i (σ.2.1 28 i + 1)
def payF (σ : MS) (n : Nat) (i s f q : Int32) (a : Nat) : MS := mar (msc (mar (mar (mar (mar (zz σ) 36 n i) 37 n s) 38 n f) 39 n q) 35 (σ.1 35 + 1)) 53 a (σ.2.1 53 a + q * σ.2.1 52 a)
def judNow (σ : MS) (i : Nat) : Int32 := judNF σ i (ix (σ.2.1 23 i)) (ix (σ.1 7)) (ix (σ.1 29)) (ix (σ.1 35)) (ix (60 * σ.2.1 25 i + σ.2.1 26 i))
def givF (σ : MS) (i : Nat) (w : Int32) : MS := msc (mar (mbr (mar (mar (mar (mar (mar (mar (mar σ 41 (ix (σ.1 40)) (nI i)) 42 (ix (σ.1 40)) (σ.2.1 25 i)) 43 (ix (σ.1 40)) (σ.2.1 26 i)) 44 (ix (σ.1 40)) (σ.2.1 27 i)) 45 (ix (σ.1 40)) (σ.2.1 28 i)) 46 (ix (σ.1 40)) (σ.1 0)) 47 (ix (σ.1 40)) w) 48 (ix (σ.1 40)) (decide (w = 1))) 54 (ix (σ.2.1 25 i)) (σ.2.1 54 (ix (σ.2.1 25 i)) + 1)) 40 (σ.1 40 + 1)
def look1 (σ : MS) (s : Int32) (i : Nat) : MS := if decide (σ.2.1 25 i = s) && !decide (60 ≤ σ.1 40) && !hfF σ i (ix (σ.1 40)) && !decide (judNow σ i = 0) then givF σ i (judNow σ i) else σ
def lookF (σ : MS) (s : Int32) : Nat → MS
  | 0 => σ
  | k + 1 => look1 (lookF σ s k) s k
def begF (σ : MS) (k : Nat) : MS := mar (mar σ 52 k (σ.2.1 52 k + (if !decide (100 * σ.2.1 55 k ≤ 460800) && !decide (20 ≤ σ.2.1 52 k) then 1 else if !decide (230400 ≤ 100 * σ.2.1 55 k) && !decide (σ.2.1 52 k ≤ 0) then -1 else 0))) 55 k 0
def tkF (σ : MS) (nc : Nat) : Nat → MS
  | 0 => σ
  | s + 1 => mar (tkF σ nc s) 55 s ((tkF σ nc s).2.1 55 s + takenF (tkF σ nc s) (nI s) nc)
def bgF (σ : MS) : Nat → MS
  | 0 => σ
  | s + 1 => begF (bgF σ s) s
def quarF (σ : MS) (nc : Nat) : MS := if rem (σ.1 0 + 1) 96 = 0 then bgF (msc (tkF σ nc 4) 0 (σ.1 0 + 1)) 4 else msc (tkF σ nc 4) 0 (σ.1 0 + 1)
def passF (σ : MS) (nc : Nat) : Nat → MS
  | 0 => σ
  | n + 1 => quarF (passF σ nc n) nc
def fineV (σ : MS) (k : Nat) (w : Int32) : Int32 := if w = 0 then σ.2.1 41 k else if w = 1 then σ.2.1 42 k else if w = 2 then σ.2.1 46 k else if w = 3 then σ.2.1 47 k else if w = 4 then b2i (σ.2.2 50 k) else b2i (σ.2.2 51 k)
def strV (σ : MS) (a nc : Nat) (w : Int32) : Int32 := if w = 0 then σ.2.1 52 a else if w = 1 then takenF σ (nI a) nc else if w = 2 then σ.2.1 53 a else if w = 3 then σ.2.1 54 a else σ.2.1 55 a
theorem st_nI {x : Int32} (h : isStreetB x = true) : ∃ j, j < 4 ∧ x = nI j := clt_nI (n := 4) h (by decide)
theorem mt_nI {x : Int32} (h : isMetreB x = true) : ∃ j, j < 60 ∧ x = nI j := clt_nI (n := 60) h (by decide)
theorem day_nI {x : Int32} (h : inB x 0 520 = true) : ∃ j, j < 521 ∧ x = nI j := clt_nI (n := 521) h (by decide)
theorem mul60 {a b : Nat} : (60 : Int32) * nI a + nI b = nI (60 * a + b) := by rw [show (60 : Int32) = nI 60 from rfl, pk_mul, nI_add]
theorem mbr_at {σ : MS} {k i : Nat} {x : Bool} : (mbr σ k i x).2.2 k i = x := by simp only [mbr, va_up, if_true]
theorem mar_at {σ : MS} {k i : Nat} {x : Int32} : (mar σ k i x).2.1 k i = x := by simp only [mar, va_up, if_true]
set_option maxRecDepth 20000 in
set_option maxHeartbeats 2000000 in
theorem s_goes {E : XE} {d mc ms : Nat} {G : HP} {P : Ps} {m : Nat} {aM own : Nat → Nat} {σ : MS} (hM : MH m aM own σ G) {G0 : HP} (hF : Fr1 own G0 G) (a b c : Bool) (hP : ∀ G', MH m aM own (msc σ 56 (mcode a b c)) G' → Fr1 own G0 G' → P (.inl (some (.int (b2i (decide (mcode a b c = 0)))))) G') : Sp E (d + 1) yX9_goes mc ms [.ref m, .int (b2i a), .int (b2i b), .int (b2i c)] G P := by
  obtain ⟨hm, hA, -⟩ := id hM
  refine sp_intro bd_X9_goes (v1_all rfl) (Nat.le_of_ble_eq_true rfl) ?_
  change WX _ _ _ _ _ _ 0 [some (.ref m), some (.int (b2i a)), some (.int (b2i b)), some (.int (b2i c))] [] _ 0 0
  refine wp_load (pc' := 1) (j := 0) dX9_goes_0 rfl rfl rfl ?_
  refine wp_load (pc' := 2) (j := 1) dX9_goes_1 rfl rfl rfl ?_
  refine wp_ifneB (pc' := 5) 9 dX9_goes_2 rfl rfl (fun h2 => ?_) (fun h2 => ?_)
  · skip
    refine wp_load (pc' := 10) (j := 2) dX9_goes_9 rfl rfl rfl ?_
    refine wp_ifneB (pc' := 13) 17 dX9_goes_10 rfl rfl (fun h10 => ?_) (fun h10 => ?_)
    · skip
      refine wp_load (pc' := 18) (j := 3) dX9_goes_17 rfl rfl rfl ?_
      refine wp_ifneB (pc' := 21) 25 dX9_goes_18 rfl rfl (fun h18 => ?_) (fun h18 => ?_)
      · skip
        refine wp_iconst (pc' := 26) (0) dX9_goes_25 rfl rfl ?_
        refine wp_mput (pc' := 29) hM hF dX9_goes_26 fl_X9_149 rfl (by decide) rfl (fun G1 hM1 hF1 => ?_)
        obtain ⟨hm1, hA1, -⟩ := id hM1
        refine wp_load (pc' := 30) (j := 0) dX9_goes_29 rfl rfl rfl ?_
        refine wp_get (pc' := 33) dX9_goes_30 fl_X9_149 hm1 rfl rfl ?_
        refine wp_ifF (pc' := 36) 40 dX9_goes_33 rfl rfl (cmpF rfl) ?_
        refine wp_iconst (pc' := 37) (1) dX9_goes_36 rfl rfl ?_
        refine wp_goto 41 dX9_goes_37 rfl ?_
        refine wp_iret dX9_goes_41 rfl rfl ?_
        simp only [mcode, h2, h10, h18, Bool.false_eq_true, decide_true, decide_false, Bool.not_true, Bool.not_false, Bool.and_true, Bool.true_and, Bool.and_false, Bool.false_and, Bool.or_true, Bool.true_or, Bool.or_false, Bool.false_or, if_true, if_false, ite_true, ite_false] at hP
        exact hP _ hM1 hF1
      · skip
        refine wp_iconst (pc' := 22) (3) dX9_goes_21 rfl rfl ?_
        refine wp_goto 26 dX9_goes_22 rfl ?_
        refine wp_mput (pc' := 29) hM hF dX9_goes_26 fl_X9_149 rfl (by decide) rfl (fun G2 hM2 hF2 => ?_)
        obtain ⟨hm2, hA2, -⟩ := id hM2
        refine wp_load (pc' := 30) (j := 0) dX9_goes_29 rfl rfl rfl ?_
        refine wp_get (pc' := 33) dX9_goes_30 fl_X9_149 hm2 rfl rfl ?_
        refine wp_ifT 40 dX9_goes_33 rfl (cmpT rfl) ?_
        refine wp_iconst (pc' := 41) (0) dX9_goes_40 rfl rfl ?_
        refine wp_iret dX9_goes_41 rfl rfl ?_
        simp only [mcode, h2, h10, h18, Bool.false_eq_true, decide_true, decide_false, Bool.not_true, Bool.not_false, Bool.and_true, Bool.true_and, Bool.and_false, Bool.false_and, Bool.or_true, Bool.true_or, Bool.or_false, Bool.false_or, if_true, if_false, ite_true, ite_false] at hP
        exact hP _ hM2 hF2
    · skip
      refine wp_iconst (pc' := 14) (2) dX9_goes_13 rfl rfl ?_
      refine wp_goto 26 dX9_goes_14 rfl ?_
      refine wp_mput (pc' := 29) hM hF dX9_goes_26 fl_X9_149 rfl (by decide) rfl (fun G3 hM3 hF3 => ?_)
      obtain ⟨hm3, hA3, -⟩ := id hM3
      refine wp_load (pc' := 30) (j := 0) dX9_goes_29 rfl rfl rfl ?_
      refine wp_get (pc' := 33) dX9_goes_30 fl_X9_149 hm3 rfl rfl ?_
      refine wp_ifT 40 dX9_goes_33 rfl (cmpT rfl) ?_
      refine wp_iconst (pc' := 41) (0) dX9_goes_40 rfl rfl ?_
      refine wp_iret dX9_goes_41 rfl rfl ?_
      simp only [mcode, h2, h10, Bool.false_eq_true, decide_true, decide_false, Bool.not_true, Bool.not_false, Bool.and_true, Bool.true_and, Bool.and_false, Bool.false_and, Bool.or_true, Bool.true_or, Bool.or_false, Bool.false_or, if_true, if_false, ite_true, ite_false] at hP
      exact hP _ hM3 hF3
  · skip
    refine wp_iconst (pc' := 6) (1) dX9_goes_5 rfl rfl ?_
    refine wp_goto 26 dX9_goes_6 rfl ?_
    refine wp_mput (pc' := 29) hM hF dX9_goes_26 fl_X9_149 rfl (by decide) rfl (fun G4 hM4 hF4 => ?_)
    obtain ⟨hm4, hA4, -⟩ := id hM4
    refine wp_load (pc' := 30) (j := 0) dX9_goes_29 rfl rfl rfl ?_
    refine wp_get (pc' := 33) dX9_goes_30 fl_X9_149 hm4 rfl rfl ?_
    refine wp_ifT 40 dX9_goes_33 rfl (cmpT rfl) ?_
    refine wp_iconst (pc' := 41) (0) dX9_goes_40 rfl rfl ?_
    refine wp_iret dX9_goes_41 rfl rfl ?_
    simp only [mcode, h2, Bool.false_eq_true, decide_true, decide_false, Bool.not_true, Bool.not_false, Bool.and_true, Bool.true_and, Bool.and_false, Bool.false_and, Bool.or_true, Bool.true_or, Bool.or_false, Bool.false_or, if_true, if_false, ite_true, ite_false] at hP
    exact hP _ hM4 hF4

set_option maxRecDepth 20000 in
set_option maxHeartbeats 2000000 in
theorem s_resets {E : XE} {d mc ms : Nat} {G : HP} {P : Ps} {m : Nat} {aM own : Nat → Nat} {σ : MS} (hM : MH m aM own σ G) {G0 : HP} (hF : Fr1 own G0 G) (hP : ∀ G', MH m aM own (rsF σ) G' → Fr1 own G0 G' → P (.inl none) G') : Sp E (d + 1) yX9_resets mc ms [.ref m] G P := by
  obtain ⟨hm, hA, -⟩ := id hM
  refine sp_intro bd_X9_resets (v1_all rfl) (Nat.le_of_ble_eq_true rfl) ?_
  change WX _ _ _ _ _ _ 0 [some (.ref m)] [] _ 0 0
  refine wp_load (pc' := 1) (j := 0) dX9_resets_0 rfl rfl rfl ?_
  refine wp_bipush (pc' := 3) (127) dX9_resets_1 rfl rfl ?_
  refine wp_mput (pc' := 6) hM hF dX9_resets_3 fl_X9_171 rfl (by decide) rfl (fun G1 hM1 hF1 => ?_)
  obtain ⟨hm1, hA1, -⟩ := id hM1
  refine wp_load (pc' := 7) (j := 0) dX9_resets_6 rfl rfl rfl ?_
  refine wp_iconst (pc' := 8) (0) dX9_resets_7 rfl rfl ?_
  refine wp_mput (pc' := 11) hM1 hF1 dX9_resets_8 fl_X9_174 rfl (by decide) rfl (fun G2 hM2 hF2 => ?_)
  obtain ⟨hm2, hA2, -⟩ := id hM2
  refine wp_load (pc' := 12) (j := 0) dX9_resets_11 rfl rfl rfl ?_
  refine wp_bipush (pc' := 14) (96) dX9_resets_12 rfl rfl ?_
  refine wp_mput (pc' := 17) hM2 hF2 dX9_resets_14 fl_X9_177 rfl (by decide) rfl (fun G3 hM3 hF3 => ?_)
  obtain ⟨hm3, hA3, -⟩ := id hM3
  refine wp_load (pc' := 18) (j := 0) dX9_resets_17 rfl rfl rfl ?_
  refine wp_iconst (pc' := 19) (0) dX9_resets_18 rfl rfl ?_
  refine wp_mput (pc' := 22) hM3 hF3 dX9_resets_19 fl_X9_180 rfl (by decide) rfl (fun G4 hM4 hF4 => ?_)
  obtain ⟨hm4, hA4, -⟩ := id hM4
  refine wp_load (pc' := 23) (j := 0) dX9_resets_22 rfl rfl rfl ?_
  refine wp_sipush (pc' := 26) (520) dX9_resets_23 rfl rfl ?_
  refine wp_mput (pc' := 29) hM4 hF4 dX9_resets_26 fl_X9_183 rfl (by decide) rfl (fun G5 hM5 hF5 => ?_)
  obtain ⟨hm5, hA5, -⟩ := id hM5
  refine wp_vret dX9_resets_29 rfl ?_
  exact hP _ hM5 hF5

set_option maxRecDepth 20000 in
set_option maxHeartbeats 2000000 in
theorem p_block {E : XE} {d mc ms : Nat} {G : HP} {P : Ps} {m : Nat} {aM own : Nat → Nat} {σ : MS} (hM : MH m aM own σ G) {s mt : Int32} {is : Bool} (hX : ∀ c G', c = K_block s mt → c ≠ 0 → MH m aM own (msc σ 56 c) G' → Fr1 own G G' → P (.inl (some (.int 0))) G') (hT : ∀ a b, a < 4 → b < 60 → s = nI a → mt = nI b → ∀ G', MH m aM own (mbr (zz σ) 1 (60 * a + b) is) G' → Fr1 own G G' → P (.inl (some (.int (b2i (σ.2.2 1 (60 * a + b)))))) G') : Sp E (d + 3) yX9_block mc ms [.ref m, .int s, .int mt, .int (b2i is)] G P := by
  have hF : Fr1 own G G := fr1_rf
  obtain ⟨hm, hA, -⟩ := id hM
  refine sp_intro bd_X9_block (v1_all rfl) (Nat.le_of_ble_eq_true rfl) ?_
  change WX _ _ _ _ _ _ 0 [some (.ref m), some (.int s), some (.int mt), some (.int (b2i is)), none] [] _ 0 0
  refine wp_load (pc' := 1) (j := 0) dX9_block_0 rfl rfl rfl ?_
  refine wp_load (pc' := 2) (j := 1) dX9_block_1 rfl rfl rfl ?_
  refine wp_s1 0 0 dX9_block_2 ml_X9_160 (Nat.le_of_ble_eq_true rfl) (by omega) (by omega) ?_
  refine s_isStreet _ ?_
  refine kt_v ?_
  refine wp_ifeqB (pc' := 8) 19 dX9_block_5 rfl rfl (fun h5 => ?_) (fun h5 => ?_)
  · skip
    refine wp_iconst (pc' := 20) (0) dX9_block_19 rfl rfl ?_
    refine wp_iconst (pc' := 21) (1) dX9_block_20 rfl rfl ?_
    refine wp_iconst (pc' := 22) (1) dX9_block_21 rfl rfl ?_
    refine wp_v3 0 0 dX9_block_22 ml_X9_167 hm (Nat.le_of_ble_eq_true rfl) (by omega) (by omega) ?_
    refine s_goes hM hF false true true (fun G1 hM1 hF1 => ?_)
    refine kt_v ?_
    obtain ⟨hm1, hA1, -⟩ := id hM1
    refine wp_ifF (pc' := 28) 30 dX9_block_25 rfl rfl (cmpF rfl) ?_
    refine wp_iconst (pc' := 29) (0) dX9_block_28 rfl rfl ?_
    refine wp_iret dX9_block_29 rfl rfl ?_
    exact hX _ _ (by simp only [mcode, K_block, h5, Bool.false_eq_true, decide_true, decide_false, Bool.not_true, Bool.not_false, Bool.and_true, Bool.true_and, Bool.and_false, Bool.false_and, Bool.or_true, Bool.true_or, Bool.or_false, Bool.false_or, if_true, if_false, ite_true, ite_false]) (by decide) hM1 hF1
  · skip
    refine wp_load (pc' := 9) (j := 2) dX9_block_8 rfl rfl rfl ?_
    refine wp_s1 0 0 dX9_block_9 ml_X9_164 (Nat.le_of_ble_eq_true rfl) (by omega) (by omega) ?_
    refine s_isMetre _ ?_
    refine kt_v ?_
    refine wp_ifeqB (pc' := 15) 19 dX9_block_12 rfl rfl (fun h12 => ?_) (fun h12 => ?_)
    · skip
      refine wp_iconst (pc' := 20) (0) dX9_block_19 rfl rfl ?_
      refine wp_iconst (pc' := 21) (1) dX9_block_20 rfl rfl ?_
      refine wp_iconst (pc' := 22) (1) dX9_block_21 rfl rfl ?_
      refine wp_v3 0 0 dX9_block_22 ml_X9_167 hm (Nat.le_of_ble_eq_true rfl) (by omega) (by omega) ?_
      refine s_goes hM hF false true true (fun G2 hM2 hF2 => ?_)
      refine kt_v ?_
      obtain ⟨hm2, hA2, -⟩ := id hM2
      refine wp_ifF (pc' := 28) 30 dX9_block_25 rfl rfl (cmpF rfl) ?_
      refine wp_iconst (pc' := 29) (0) dX9_block_28 rfl rfl ?_
      refine wp_iret dX9_block_29 rfl rfl ?_
      exact hX _ _ (by simp only [mcode, K_block, h5, h12, Bool.false_eq_true, decide_true, decide_false, Bool.not_true, Bool.not_false, Bool.and_true, Bool.true_and, Bool.and_false, Bool.false_and, Bool.or_true, Bool.true_or, Bool.or_false, Bool.false_or, if_true, if_false, ite_true, ite_false]) (by decide) hM2 hF2
    · skip
      refine wp_iconst (pc' := 16) (1) dX9_block_15 rfl rfl ?_
      refine wp_goto 20 dX9_block_16 rfl ?_
      refine wp_iconst (pc' := 21) (1) dX9_block_20 rfl rfl ?_
      refine wp_iconst (pc' := 22) (1) dX9_block_21 rfl rfl ?_
      refine wp_v3 0 0 dX9_block_22 ml_X9_167 hm (Nat.le_of_ble_eq_true rfl) (by omega) (by omega) ?_
      refine s_goes hM hF true true true (fun G3 hM3 hF3 => ?_)
      refine kt_v ?_
      obtain ⟨hm3, hA3, -⟩ := id hM3
      refine wp_ifT 30 dX9_block_25 rfl (cmpT rfl) ?_
      obtain ⟨a, ha, rfl⟩ := st_nI h5
      obtain ⟨b, hb, rfl⟩ := mt_nI h12
      refine wp_load (pc' := 31) (j := 0) dX9_block_30 rfl rfl rfl ?_
      refine wp_get (pc' := 34) dX9_block_31 fl_X9_7 hm3 rfl rfl ?_
      refine wp_bipush (pc' := 36) (60) dX9_block_34 rfl rfl ?_
      refine wp_load (pc' := 37) (j := 1) dX9_block_36 rfl rfl rfl ?_
      refine wp_pure (pc' := 38) dX9_block_37 rfl rfl ?_
      refine wp_load (pc' := 39) (j := 2) dX9_block_38 rfl rfl rfl ?_
      refine wp_pure (pc' := 40) dX9_block_39 rfl rfl ?_
      refine wp_zald (pc' := 41) dX9_block_40 (hA3 1 (by decide)) mul60 (show 60 * a + b < 240 from by omega) (by decide) rfl ?_
      refine wp_store (pc' := 43) (j := 4) (ls' := [_, _, _, _, _]) dX9_block_41 rfl (Nat.le_of_ble_eq_true rfl) rfl rfl ?_
      refine wp_load (pc' := 44) (j := 0) dX9_block_43 rfl rfl rfl ?_
      refine wp_get (pc' := 47) dX9_block_44 fl_X9_7 hm3 rfl rfl ?_
      refine wp_bipush (pc' := 49) (60) dX9_block_47 rfl rfl ?_
      refine wp_load (pc' := 50) (j := 1) dX9_block_49 rfl rfl rfl ?_
      refine wp_pure (pc' := 51) dX9_block_50 rfl rfl ?_
      refine wp_load (pc' := 52) (j := 2) dX9_block_51 rfl rfl rfl ?_
      refine wp_pure (pc' := 53) dX9_block_52 rfl rfl ?_
      refine wp_load (pc' := 54) (j := 3) dX9_block_53 rfl rfl rfl ?_
      refine wp_mza (pc' := 55) hM3 hF3 1 (by decide) (by decide) dX9_block_54 mul60 (show 60 * a + b < 240 from by omega) (by decide) rfl (fun G4 hM4 hF4 => ?_)
      obtain ⟨hm4, hA4, -⟩ := id hM4
      refine wp_load (pc' := 57) (j := 4) dX9_block_55 rfl rfl rfl ?_
      refine wp_iret dX9_block_57 rfl nar_b2i ?_
      exact hT a b ha hb rfl rfl _ hM4 hF4

set_option maxRecDepth 20000 in
set_option maxHeartbeats 2000000 in
theorem p_times {E : XE} {d mc ms : Nat} {G : HP} {P : Ps} {m : Nat} {aM own : Nat → Nat} {σ : MS} (hM : MH m aM own σ G) {w f t : Int32} (hX : ∀ c G', c = K_times w f t → c ≠ 0 → MH m aM own (msc σ 56 c) G' → Fr1 own G G' → P (.inl none) G') (hT : K_times w f t = 0 → ∀ G', MH m aM own (msc (msc (msc (zz σ) 2 w) 3 f) 4 t) G' → Fr1 own G G' → P (.inl none) G') : Sp E (d + 3) yX9_times mc ms [.ref m, .int w, .int f, .int t] G P := by
  have hF : Fr1 own G G := fr1_rf
  obtain ⟨hm, hA, -⟩ := id hM
  refine sp_intro bd_X9_times (v1_all rfl) (Nat.le_of_ble_eq_true rfl) ?_
  change WX _ _ _ _ _ _ 0 [some (.ref m), some (.int w), some (.int f), some (.int t)] [] _ 0 0
  refine wp_load (pc' := 1) (j := 0) dX9_times_0 rfl rfl rfl ?_
  refine wp_load (pc' := 2) (j := 1) dX9_times_1 rfl rfl rfl ?_
  refine wp_iconst (pc' := 3) (1) dX9_times_2 rfl rfl ?_
  refine wp_bipush (pc' := 5) (127) dX9_times_3 rfl rfl ?_
  refine wp_s3 0 0 dX9_times_5 ml_X9_153 (Nat.le_of_ble_eq_true rfl) (by omega) (by omega) ?_
  refine s_in _ _ _ ?_
  refine kt_v ?_
  refine wp_ifeqB (pc' := 11) 36 dX9_times_8 rfl rfl (fun h8 => ?_) (fun h8 => ?_)
  · skip
    refine wp_iconst (pc' := 37) (0) dX9_times_36 rfl rfl ?_
    refine wp_iconst (pc' := 38) (1) dX9_times_37 rfl rfl ?_
    refine wp_iconst (pc' := 39) (1) dX9_times_38 rfl rfl ?_
    refine wp_v3 0 0 dX9_times_39 ml_X9_167 hm (Nat.le_of_ble_eq_true rfl) (by omega) (by omega) ?_
    refine s_goes hM hF false true true (fun G1 hM1 hF1 => ?_)
    refine kt_v ?_
    obtain ⟨hm1, hA1, -⟩ := id hM1
    refine wp_ifT 60 dX9_times_42 rfl (cmpT rfl) ?_
    refine wp_vret dX9_times_60 rfl ?_
    exact hX _ _ (by simp only [mcode, K_times, h8, Bool.false_eq_true, decide_true, decide_false, Bool.not_true, Bool.not_false, Bool.and_true, Bool.true_and, Bool.and_false, Bool.false_and, Bool.or_true, Bool.true_or, Bool.or_false, Bool.false_or, if_true, if_false, ite_true, ite_false]) (by decide) hM1 hF1
  · skip
    refine wp_load (pc' := 12) (j := 2) dX9_times_11 rfl rfl rfl ?_
    refine wp_iconst (pc' := 13) (0) dX9_times_12 rfl rfl ?_
    refine wp_bipush (pc' := 15) (95) dX9_times_13 rfl rfl ?_
    refine wp_s3 0 0 dX9_times_15 ml_X9_153 (Nat.le_of_ble_eq_true rfl) (by omega) (by omega) ?_
    refine s_in _ _ _ ?_
    refine kt_v ?_
    refine wp_ifeqB (pc' := 21) 36 dX9_times_18 rfl rfl (fun h18 => ?_) (fun h18 => ?_)
    · skip
      refine wp_iconst (pc' := 37) (0) dX9_times_36 rfl rfl ?_
      refine wp_iconst (pc' := 38) (1) dX9_times_37 rfl rfl ?_
      refine wp_iconst (pc' := 39) (1) dX9_times_38 rfl rfl ?_
      refine wp_v3 0 0 dX9_times_39 ml_X9_167 hm (Nat.le_of_ble_eq_true rfl) (by omega) (by omega) ?_
      refine s_goes hM hF false true true (fun G2 hM2 hF2 => ?_)
      refine kt_v ?_
      obtain ⟨hm2, hA2, -⟩ := id hM2
      refine wp_ifT 60 dX9_times_42 rfl (cmpT rfl) ?_
      refine wp_vret dX9_times_60 rfl ?_
      exact hX _ _ (by simp only [mcode, K_times, h8, h18, Bool.false_eq_true, decide_true, decide_false, Bool.not_true, Bool.not_false, Bool.and_true, Bool.true_and, Bool.and_false, Bool.false_and, Bool.or_true, Bool.true_or, Bool.or_false, Bool.false_or, if_true, if_false, ite_true, ite_false]) (by decide) hM2 hF2
    · skip
      refine wp_load (pc' := 22) (j := 3) dX9_times_21 rfl rfl rfl ?_
      refine wp_load (pc' := 23) (j := 2) dX9_times_22 rfl rfl rfl ?_
      refine wp_icmp_le (pc' := 26) 36 dX9_times_23 rfl rfl (fun h23 => ?_) (fun h23 => ?_)
      · skip
        refine wp_iconst (pc' := 37) (0) dX9_times_36 rfl rfl ?_
        refine wp_iconst (pc' := 38) (1) dX9_times_37 rfl rfl ?_
        refine wp_iconst (pc' := 39) (1) dX9_times_38 rfl rfl ?_
        refine wp_v3 0 0 dX9_times_39 ml_X9_167 hm (Nat.le_of_ble_eq_true rfl) (by omega) (by omega) ?_
        refine s_goes hM hF false true true (fun G3 hM3 hF3 => ?_)
        refine kt_v ?_
        obtain ⟨hm3, hA3, -⟩ := id hM3
        refine wp_ifT 60 dX9_times_42 rfl (cmpT rfl) ?_
        refine wp_vret dX9_times_60 rfl ?_
        exact hX _ _ (by simp only [mcode, K_times, h8, h18, h23, Bool.false_eq_true, decide_true, decide_false, Bool.not_true, Bool.not_false, Bool.and_true, Bool.true_and, Bool.and_false, Bool.false_and, Bool.or_true, Bool.true_or, Bool.or_false, Bool.false_or, if_true, if_false, ite_true, ite_false]) (by decide) hM3 hF3
      · skip
        refine wp_load (pc' := 27) (j := 3) dX9_times_26 rfl rfl rfl ?_
        refine wp_bipush (pc' := 29) (96) dX9_times_27 rfl rfl ?_
        refine wp_icmp_gt (pc' := 32) 36 dX9_times_29 rfl rfl (fun h29 => ?_) (fun h29 => ?_)
        · skip
          refine wp_iconst (pc' := 37) (0) dX9_times_36 rfl rfl ?_
          refine wp_iconst (pc' := 38) (1) dX9_times_37 rfl rfl ?_
          refine wp_iconst (pc' := 39) (1) dX9_times_38 rfl rfl ?_
          refine wp_v3 0 0 dX9_times_39 ml_X9_167 hm (Nat.le_of_ble_eq_true rfl) (by omega) (by omega) ?_
          refine s_goes hM hF false true true (fun G4 hM4 hF4 => ?_)
          refine kt_v ?_
          obtain ⟨hm4, hA4, -⟩ := id hM4
          refine wp_ifT 60 dX9_times_42 rfl (cmpT rfl) ?_
          refine wp_vret dX9_times_60 rfl ?_
          exact hX _ _ (by simp only [mcode, K_times, h8, h18, h23, h29, Bool.false_eq_true, decide_true, decide_false, Bool.not_true, Bool.not_false, Bool.and_true, Bool.true_and, Bool.and_false, Bool.false_and, Bool.or_true, Bool.true_or, Bool.or_false, Bool.false_or, if_true, if_false, ite_true, ite_false]) (by decide) hM4 hF4
        · skip
          refine wp_iconst (pc' := 33) (1) dX9_times_32 rfl rfl ?_
          refine wp_goto 37 dX9_times_33 rfl ?_
          refine wp_iconst (pc' := 38) (1) dX9_times_37 rfl rfl ?_
          refine wp_iconst (pc' := 39) (1) dX9_times_38 rfl rfl ?_
          refine wp_v3 0 0 dX9_times_39 ml_X9_167 hm (Nat.le_of_ble_eq_true rfl) (by omega) (by omega) ?_
          refine s_goes hM hF true true true (fun G5 hM5 hF5 => ?_)
          refine kt_v ?_
          obtain ⟨hm5, hA5, -⟩ := id hM5
          refine wp_ifF (pc' := 45) 60 dX9_times_42 rfl rfl (cmpF rfl) ?_
          refine wp_load (pc' := 46) (j := 0) dX9_times_45 rfl rfl rfl ?_
          refine wp_load (pc' := 47) (j := 1) dX9_times_46 rfl rfl rfl ?_
          refine wp_mput (pc' := 50) hM5 hF5 dX9_times_47 fl_X9_171 rfl (by decide) rfl (fun G6 hM6 hF6 => ?_)
          obtain ⟨hm6, hA6, -⟩ := id hM6
          refine wp_load (pc' := 51) (j := 0) dX9_times_50 rfl rfl rfl ?_
          refine wp_load (pc' := 52) (j := 2) dX9_times_51 rfl rfl rfl ?_
          refine wp_mput (pc' := 55) hM6 hF6 dX9_times_52 fl_X9_174 rfl (by decide) rfl (fun G7 hM7 hF7 => ?_)
          obtain ⟨hm7, hA7, -⟩ := id hM7
          refine wp_load (pc' := 56) (j := 0) dX9_times_55 rfl rfl rfl ?_
          refine wp_load (pc' := 57) (j := 3) dX9_times_56 rfl rfl rfl ?_
          refine wp_mput (pc' := 60) hM7 hF7 dX9_times_57 fl_X9_177 rfl (by decide) rfl (fun G8 hM8 hF8 => ?_)
          obtain ⟨hm8, hA8, -⟩ := id hM8
          refine wp_vret dX9_times_60 rfl ?_
          exact hT (by simp only [mcode, K_times, h8, h18, h23, h29, Bool.false_eq_true, decide_true, decide_false, Bool.not_true, Bool.not_false, Bool.and_true, Bool.true_and, Bool.and_false, Bool.false_and, Bool.or_true, Bool.true_or, Bool.or_false, Bool.false_or, if_true, if_false, ite_true, ite_false]) _ hM8 hF8

set_option maxRecDepth 20000 in
set_option maxHeartbeats 2000000 in
theorem p_dates {E : XE} {d mc ms : Nat} {G : HP} {P : Ps} {m : Nat} {aM own : Nat → Nat} {σ : MS} (hM : MH m aM own σ G) {f t : Int32} (hX : ∀ c G', c = K_dates f t → c ≠ 0 → MH m aM own (msc σ 56 c) G' → Fr1 own G G' → P (.inl none) G') (hT : K_dates f t = 0 → ∀ G', MH m aM own (msc (msc (zz σ) 5 f) 6 t) G' → Fr1 own G G' → P (.inl none) G') : Sp E (d + 3) yX9_dates mc ms [.ref m, .int f, .int t] G P := by
  have hF : Fr1 own G G := fr1_rf
  obtain ⟨hm, hA, -⟩ := id hM
  refine sp_intro bd_X9_dates (v1_all rfl) (Nat.le_of_ble_eq_true rfl) ?_
  change WX _ _ _ _ _ _ 0 [some (.ref m), some (.int f), some (.int t)] [] _ 0 0
  refine wp_load (pc' := 1) (j := 0) dX9_dates_0 rfl rfl rfl ?_
  refine wp_load (pc' := 2) (j := 1) dX9_dates_1 rfl rfl rfl ?_
  refine wp_iconst (pc' := 3) (0) dX9_dates_2 rfl rfl ?_
  refine wp_sipush (pc' := 6) (520) dX9_dates_3 rfl rfl ?_
  refine wp_s3 0 0 dX9_dates_6 ml_X9_153 (Nat.le_of_ble_eq_true rfl) (by omega) (by omega) ?_
  refine s_in _ _ _ ?_
  refine kt_v ?_
  refine wp_ifeqB (pc' := 12) 27 dX9_dates_9 rfl rfl (fun h9 => ?_) (fun h9 => ?_)
  · skip
    refine wp_iconst (pc' := 28) (0) dX9_dates_27 rfl rfl ?_
    refine wp_iconst (pc' := 29) (1) dX9_dates_28 rfl rfl ?_
    refine wp_iconst (pc' := 30) (1) dX9_dates_29 rfl rfl ?_
    refine wp_v3 0 0 dX9_dates_30 ml_X9_167 hm (Nat.le_of_ble_eq_true rfl) (by omega) (by omega) ?_
    refine s_goes hM hF false true true (fun G1 hM1 hF1 => ?_)
    refine kt_v ?_
    obtain ⟨hm1, hA1, -⟩ := id hM1
    refine wp_ifT 46 dX9_dates_33 rfl (cmpT rfl) ?_
    refine wp_vret dX9_dates_46 rfl ?_
    exact hX _ _ (by simp only [mcode, K_dates, h9, Bool.false_eq_true, decide_true, decide_false, Bool.not_true, Bool.not_false, Bool.and_true, Bool.true_and, Bool.and_false, Bool.false_and, Bool.or_true, Bool.true_or, Bool.or_false, Bool.false_or, if_true, if_false, ite_true, ite_false]) (by decide) hM1 hF1
  · skip
    refine wp_load (pc' := 13) (j := 2) dX9_dates_12 rfl rfl rfl ?_
    refine wp_load (pc' := 14) (j := 1) dX9_dates_13 rfl rfl rfl ?_
    refine wp_sipush (pc' := 17) (520) dX9_dates_14 rfl rfl ?_
    refine wp_s3 0 0 dX9_dates_17 ml_X9_153 (Nat.le_of_ble_eq_true rfl) (by omega) (by omega) ?_
    refine s_in _ _ _ ?_
    refine kt_v ?_
    refine wp_ifeqB (pc' := 23) 27 dX9_dates_20 rfl rfl (fun h20 => ?_) (fun h20 => ?_)
    · skip
      refine wp_iconst (pc' := 28) (0) dX9_dates_27 rfl rfl ?_
      refine wp_iconst (pc' := 29) (1) dX9_dates_28 rfl rfl ?_
      refine wp_iconst (pc' := 30) (1) dX9_dates_29 rfl rfl ?_
      refine wp_v3 0 0 dX9_dates_30 ml_X9_167 hm (Nat.le_of_ble_eq_true rfl) (by omega) (by omega) ?_
      refine s_goes hM hF false true true (fun G2 hM2 hF2 => ?_)
      refine kt_v ?_
      obtain ⟨hm2, hA2, -⟩ := id hM2
      refine wp_ifT 46 dX9_dates_33 rfl (cmpT rfl) ?_
      refine wp_vret dX9_dates_46 rfl ?_
      exact hX _ _ (by simp only [mcode, K_dates, h9, h20, Bool.false_eq_true, decide_true, decide_false, Bool.not_true, Bool.not_false, Bool.and_true, Bool.true_and, Bool.and_false, Bool.false_and, Bool.or_true, Bool.true_or, Bool.or_false, Bool.false_or, if_true, if_false, ite_true, ite_false]) (by decide) hM2 hF2
    · skip
      refine wp_iconst (pc' := 24) (1) dX9_dates_23 rfl rfl ?_
      refine wp_goto 28 dX9_dates_24 rfl ?_
      refine wp_iconst (pc' := 29) (1) dX9_dates_28 rfl rfl ?_
      refine wp_iconst (pc' := 30) (1) dX9_dates_29 rfl rfl ?_
      refine wp_v3 0 0 dX9_dates_30 ml_X9_167 hm (Nat.le_of_ble_eq_true rfl) (by omega) (by omega) ?_
      refine s_goes hM hF true true true (fun G3 hM3 hF3 => ?_)
      refine kt_v ?_
      obtain ⟨hm3, hA3, -⟩ := id hM3
      refine wp_ifF (pc' := 36) 46 dX9_dates_33 rfl rfl (cmpF rfl) ?_
      refine wp_load (pc' := 37) (j := 0) dX9_dates_36 rfl rfl rfl ?_
      refine wp_load (pc' := 38) (j := 1) dX9_dates_37 rfl rfl rfl ?_
      refine wp_mput (pc' := 41) hM3 hF3 dX9_dates_38 fl_X9_180 rfl (by decide) rfl (fun G4 hM4 hF4 => ?_)
      obtain ⟨hm4, hA4, -⟩ := id hM4
      refine wp_load (pc' := 42) (j := 0) dX9_dates_41 rfl rfl rfl ?_
      refine wp_load (pc' := 43) (j := 2) dX9_dates_42 rfl rfl rfl ?_
      refine wp_mput (pc' := 46) hM4 hF4 dX9_dates_43 fl_X9_183 rfl (by decide) rfl (fun G5 hM5 hF5 => ?_)
      obtain ⟨hm5, hA5, -⟩ := id hM5
      refine wp_vret dX9_dates_46 rfl ?_
      exact hT (by simp only [mcode, K_dates, h9, h20, Bool.false_eq_true, decide_true, decide_false, Bool.not_true, Bool.not_false, Bool.and_true, Bool.true_and, Bool.and_false, Bool.false_and, Bool.or_true, Bool.true_or, Bool.or_false, Bool.false_or, if_true, if_false, ite_true, ite_false]) _ hM5 hF5

set_option maxRecDepth 20000 in
set_option maxHeartbeats 2000000 in
theorem p_sign {E : XE} {d mc ms : Nat} {G : HP} {P : Ps} {m : Nat} {aM own : Nat → Nat} {σ : MS} (hM : MH m aM own σ G) {n : Nat} (hs : σ.1 7 = nI n) (hs30 : n ≤ 30) {st f t u sy : Int32} {fee tmp : Bool} (hX : ∀ c G', c = K_sign σ st f t u sy → c ≠ 0 → MH m aM own (msc σ 56 c) G' → Fr1 own G G' → P (.inl (some (.int 0))) G') (hT : K_sign σ st f t u sy = 0 → n < 30 → ∀ G', MH m aM own (sgnF σ n st f t u sy fee tmp) G' → Fr1 own G G' → P (.inl (some (.int (σ.1 7 + 1 - 1)))) G') : Sp E (d + 3) yX9_sign mc ms [.ref m, .int st, .int f, .int t, .int u, .int sy, .int (b2i fee), .int (b2i tmp)] G P := by
  have hF : Fr1 own G G := fr1_rf
  obtain ⟨hm, hA, -⟩ := id hM
  refine sp_intro bd_X9_sign (v1_all rfl) (Nat.le_of_ble_eq_true rfl) ?_
  change WX _ _ _ _ _ _ 0 [some (.ref m), some (.int st), some (.int f), some (.int t), some (.int u), some (.int sy), some (.int (b2i fee)), some (.int (b2i tmp))] [] _ 0 0
  refine wp_load (pc' := 1) (j := 0) dX9_sign_0 rfl rfl rfl ?_
  refine wp_load (pc' := 2) (j := 1) dX9_sign_1 rfl rfl rfl ?_
  refine wp_s1 0 0 dX9_sign_2 ml_X9_160 (Nat.le_of_ble_eq_true rfl) (by omega) (by omega) ?_
  refine s_isStreet _ ?_
  refine kt_v ?_
  refine wp_ifeqB (pc' := 8) 26 dX9_sign_5 rfl rfl (fun h5 => ?_) (fun h5 => ?_)
  · skip
    refine wp_iconst (pc' := 27) (0) dX9_sign_26 rfl rfl ?_
    refine wp_load (pc' := 28) (j := 3) dX9_sign_27 rfl rfl rfl ?_
    refine wp_load (pc' := 29) (j := 2) dX9_sign_28 rfl rfl rfl ?_
    refine wp_icmp_lt (pc' := 32) 58 dX9_sign_29 rfl rfl (fun h29 => ?_) (fun h29 => ?_)
    · skip
      refine wp_iconst (pc' := 59) (0) dX9_sign_58 rfl rfl ?_
      refine wp_load (pc' := 60) (j := 0) dX9_sign_59 rfl rfl rfl ?_
      refine wp_get (pc' := 63) dX9_sign_60 fl_X9_186 hm rfl rfl ?_
      refine wp_bipush (pc' := 65) (30) dX9_sign_63 rfl rfl ?_
      refine wp_icmp_ge (pc' := 68) 72 dX9_sign_65 rfl rfl (fun h65 => ?_) (fun h65 => ?_)
      · skip
        refine wp_iconst (pc' := 73) (0) dX9_sign_72 rfl rfl ?_
        refine wp_v3 0 0 dX9_sign_73 ml_X9_167 hm (Nat.le_of_ble_eq_true rfl) (by omega) (by omega) ?_
        refine s_goes hM hF false false false (fun G1 hM1 hF1 => ?_)
        refine kt_v ?_
        obtain ⟨hm1, hA1, -⟩ := id hM1
        refine wp_ifF (pc' := 79) 81 dX9_sign_76 rfl rfl (cmpF rfl) ?_
        refine wp_iconst (pc' := 80) (0) dX9_sign_79 rfl rfl ?_
        refine wp_iret dX9_sign_80 rfl rfl ?_
        exact hX _ _ (by simp only [mcode, K_sign, h5, h29, h65, Bool.false_eq_true, decide_true, decide_false, Bool.not_true, Bool.not_false, Bool.and_true, Bool.true_and, Bool.and_false, Bool.false_and, Bool.or_true, Bool.true_or, Bool.or_false, Bool.false_or, if_true, if_false, ite_true, ite_false]) (by decide) hM1 hF1
      · skip
        refine wp_iconst (pc' := 69) (1) dX9_sign_68 rfl rfl ?_
        refine wp_goto 73 dX9_sign_69 rfl ?_
        refine wp_v3 0 0 dX9_sign_73 ml_X9_167 hm (Nat.le_of_ble_eq_true rfl) (by omega) (by omega) ?_
        refine s_goes hM hF false false true (fun G2 hM2 hF2 => ?_)
        refine kt_v ?_
        obtain ⟨hm2, hA2, -⟩ := id hM2
        refine wp_ifF (pc' := 79) 81 dX9_sign_76 rfl rfl (cmpF rfl) ?_
        refine wp_iconst (pc' := 80) (0) dX9_sign_79 rfl rfl ?_
        refine wp_iret dX9_sign_80 rfl rfl ?_
        exact hX _ _ (by simp only [mcode, K_sign, h5, h29, h65, Bool.false_eq_true, decide_true, decide_false, Bool.not_true, Bool.not_false, Bool.and_true, Bool.true_and, Bool.and_false, Bool.false_and, Bool.or_true, Bool.true_or, Bool.or_false, Bool.false_or, if_true, if_false, ite_true, ite_false]) (by decide) hM2 hF2
    · skip
      refine wp_load (pc' := 34) (j := 4) dX9_sign_32 rfl rfl rfl ?_
      refine wp_iconst (pc' := 35) (0) dX9_sign_34 rfl rfl ?_
      refine wp_bipush (pc' := 37) (31) dX9_sign_35 rfl rfl ?_
      refine wp_s3 0 0 dX9_sign_37 ml_X9_153 (Nat.le_of_ble_eq_true rfl) (by omega) (by omega) ?_
      refine s_in _ _ _ ?_
      refine kt_v ?_
      refine wp_ifeqB (pc' := 43) 58 dX9_sign_40 rfl rfl (fun h40 => ?_) (fun h40 => ?_)
      · skip
        refine wp_iconst (pc' := 59) (0) dX9_sign_58 rfl rfl ?_
        refine wp_load (pc' := 60) (j := 0) dX9_sign_59 rfl rfl rfl ?_
        refine wp_get (pc' := 63) dX9_sign_60 fl_X9_186 hm rfl rfl ?_
        refine wp_bipush (pc' := 65) (30) dX9_sign_63 rfl rfl ?_
        refine wp_icmp_ge (pc' := 68) 72 dX9_sign_65 rfl rfl (fun h65 => ?_) (fun h65 => ?_)
        · skip
          refine wp_iconst (pc' := 73) (0) dX9_sign_72 rfl rfl ?_
          refine wp_v3 0 0 dX9_sign_73 ml_X9_167 hm (Nat.le_of_ble_eq_true rfl) (by omega) (by omega) ?_
          refine s_goes hM hF false false false (fun G3 hM3 hF3 => ?_)
          refine kt_v ?_
          obtain ⟨hm3, hA3, -⟩ := id hM3
          refine wp_ifF (pc' := 79) 81 dX9_sign_76 rfl rfl (cmpF rfl) ?_
          refine wp_iconst (pc' := 80) (0) dX9_sign_79 rfl rfl ?_
          refine wp_iret dX9_sign_80 rfl rfl ?_
          exact hX _ _ (by simp only [mcode, K_sign, h5, h29, h40, h65, Bool.false_eq_true, decide_true, decide_false, Bool.not_true, Bool.not_false, Bool.and_true, Bool.true_and, Bool.and_false, Bool.false_and, Bool.or_true, Bool.true_or, Bool.or_false, Bool.false_or, if_true, if_false, ite_true, ite_false]) (by decide) hM3 hF3
        · skip
          refine wp_iconst (pc' := 69) (1) dX9_sign_68 rfl rfl ?_
          refine wp_goto 73 dX9_sign_69 rfl ?_
          refine wp_v3 0 0 dX9_sign_73 ml_X9_167 hm (Nat.le_of_ble_eq_true rfl) (by omega) (by omega) ?_
          refine s_goes hM hF false false true (fun G4 hM4 hF4 => ?_)
          refine kt_v ?_
          obtain ⟨hm4, hA4, -⟩ := id hM4
          refine wp_ifF (pc' := 79) 81 dX9_sign_76 rfl rfl (cmpF rfl) ?_
          refine wp_iconst (pc' := 80) (0) dX9_sign_79 rfl rfl ?_
          refine wp_iret dX9_sign_80 rfl rfl ?_
          exact hX _ _ (by simp only [mcode, K_sign, h5, h29, h40, h65, Bool.false_eq_true, decide_true, decide_false, Bool.not_true, Bool.not_false, Bool.and_true, Bool.true_and, Bool.and_false, Bool.false_and, Bool.or_true, Bool.true_or, Bool.or_false, Bool.false_or, if_true, if_false, ite_true, ite_false]) (by decide) hM4 hF4
      · skip
        refine wp_load (pc' := 45) (j := 5) dX9_sign_43 rfl rfl rfl ?_
        refine wp_iconst (pc' := 46) (0) dX9_sign_45 rfl rfl ?_
        refine wp_bipush (pc' := 48) (96) dX9_sign_46 rfl rfl ?_
        refine wp_s3 0 0 dX9_sign_48 ml_X9_153 (Nat.le_of_ble_eq_true rfl) (by omega) (by omega) ?_
        refine s_in _ _ _ ?_
        refine kt_v ?_
        refine wp_ifeqB (pc' := 54) 58 dX9_sign_51 rfl rfl (fun h51 => ?_) (fun h51 => ?_)
        · skip
          refine wp_iconst (pc' := 59) (0) dX9_sign_58 rfl rfl ?_
          refine wp_load (pc' := 60) (j := 0) dX9_sign_59 rfl rfl rfl ?_
          refine wp_get (pc' := 63) dX9_sign_60 fl_X9_186 hm rfl rfl ?_
          refine wp_bipush (pc' := 65) (30) dX9_sign_63 rfl rfl ?_
          refine wp_icmp_ge (pc' := 68) 72 dX9_sign_65 rfl rfl (fun h65 => ?_) (fun h65 => ?_)
          · skip
            refine wp_iconst (pc' := 73) (0) dX9_sign_72 rfl rfl ?_
            refine wp_v3 0 0 dX9_sign_73 ml_X9_167 hm (Nat.le_of_ble_eq_true rfl) (by omega) (by omega) ?_
            refine s_goes hM hF false false false (fun G5 hM5 hF5 => ?_)
            refine kt_v ?_
            obtain ⟨hm5, hA5, -⟩ := id hM5
            refine wp_ifF (pc' := 79) 81 dX9_sign_76 rfl rfl (cmpF rfl) ?_
            refine wp_iconst (pc' := 80) (0) dX9_sign_79 rfl rfl ?_
            refine wp_iret dX9_sign_80 rfl rfl ?_
            exact hX _ _ (by simp only [mcode, K_sign, h5, h29, h40, h51, h65, Bool.false_eq_true, decide_true, decide_false, Bool.not_true, Bool.not_false, Bool.and_true, Bool.true_and, Bool.and_false, Bool.false_and, Bool.or_true, Bool.true_or, Bool.or_false, Bool.false_or, if_true, if_false, ite_true, ite_false]) (by decide) hM5 hF5
          · skip
            refine wp_iconst (pc' := 69) (1) dX9_sign_68 rfl rfl ?_
            refine wp_goto 73 dX9_sign_69 rfl ?_
            refine wp_v3 0 0 dX9_sign_73 ml_X9_167 hm (Nat.le_of_ble_eq_true rfl) (by omega) (by omega) ?_
            refine s_goes hM hF false false true (fun G6 hM6 hF6 => ?_)
            refine kt_v ?_
            obtain ⟨hm6, hA6, -⟩ := id hM6
            refine wp_ifF (pc' := 79) 81 dX9_sign_76 rfl rfl (cmpF rfl) ?_
            refine wp_iconst (pc' := 80) (0) dX9_sign_79 rfl rfl ?_
            refine wp_iret dX9_sign_80 rfl rfl ?_
            exact hX _ _ (by simp only [mcode, K_sign, h5, h29, h40, h51, h65, Bool.false_eq_true, decide_true, decide_false, Bool.not_true, Bool.not_false, Bool.and_true, Bool.true_and, Bool.and_false, Bool.false_and, Bool.or_true, Bool.true_or, Bool.or_false, Bool.false_or, if_true, if_false, ite_true, ite_false]) (by decide) hM6 hF6
        · skip
          refine wp_iconst (pc' := 55) (1) dX9_sign_54 rfl rfl ?_
          refine wp_goto 59 dX9_sign_55 rfl ?_
          refine wp_load (pc' := 60) (j := 0) dX9_sign_59 rfl rfl rfl ?_
          refine wp_get (pc' := 63) dX9_sign_60 fl_X9_186 hm rfl rfl ?_
          refine wp_bipush (pc' := 65) (30) dX9_sign_63 rfl rfl ?_
          refine wp_icmp_ge (pc' := 68) 72 dX9_sign_65 rfl rfl (fun h65 => ?_) (fun h65 => ?_)
          · skip
            refine wp_iconst (pc' := 73) (0) dX9_sign_72 rfl rfl ?_
            refine wp_v3 0 0 dX9_sign_73 ml_X9_167 hm (Nat.le_of_ble_eq_true rfl) (by omega) (by omega) ?_
            refine s_goes hM hF false true false (fun G7 hM7 hF7 => ?_)
            refine kt_v ?_
            obtain ⟨hm7, hA7, -⟩ := id hM7
            refine wp_ifF (pc' := 79) 81 dX9_sign_76 rfl rfl (cmpF rfl) ?_
            refine wp_iconst (pc' := 80) (0) dX9_sign_79 rfl rfl ?_
            refine wp_iret dX9_sign_80 rfl rfl ?_
            exact hX _ _ (by simp only [mcode, K_sign, h5, h29, h40, h51, h65, Bool.false_eq_true, decide_true, decide_false, Bool.not_true, Bool.not_false, Bool.and_true, Bool.true_and, Bool.and_false, Bool.false_and, Bool.or_true, Bool.true_or, Bool.or_false, Bool.false_or, if_true, if_false, ite_true, ite_false]) (by decide) hM7 hF7
          · skip
            refine wp_iconst (pc' := 69) (1) dX9_sign_68 rfl rfl ?_
            refine wp_goto 73 dX9_sign_69 rfl ?_
            refine wp_v3 0 0 dX9_sign_73 ml_X9_167 hm (Nat.le_of_ble_eq_true rfl) (by omega) (by omega) ?_
            refine s_goes hM hF false true true (fun G8 hM8 hF8 => ?_)
            refine kt_v ?_
            obtain ⟨hm8, hA8, -⟩ := id hM8
            refine wp_ifF (pc' := 79) 81 dX9_sign_76 rfl rfl (cmpF rfl) ?_
            refine wp_iconst (pc' := 80) (0) dX9_sign_79 rfl rfl ?_
            refine wp_iret dX9_sign_80 rfl rfl ?_
            exact hX _ _ (by simp only [mcode, K_sign, h5, h29, h40, h51, h65, Bool.false_eq_true, decide_true, decide_false, Bool.not_true, Bool.not_false, Bool.and_true, Bool.true_and, Bool.and_false, Bool.false_and, Bool.or_true, Bool.true_or, Bool.or_false, Bool.false_or, if_true, if_false, ite_true, ite_false]) (by decide) hM8 hF8
  · skip
    refine wp_load (pc' := 9) (j := 2) dX9_sign_8 rfl rfl rfl ?_
    refine wp_s1 0 0 dX9_sign_9 ml_X9_164 (Nat.le_of_ble_eq_true rfl) (by omega) (by omega) ?_
    refine s_isMetre _ ?_
    refine kt_v ?_
    refine wp_ifeqB (pc' := 15) 26 dX9_sign_12 rfl rfl (fun h12 => ?_) (fun h12 => ?_)
    · skip
      refine wp_iconst (pc' := 27) (0) dX9_sign_26 rfl rfl ?_
      refine wp_load (pc' := 28) (j := 3) dX9_sign_27 rfl rfl rfl ?_
      refine wp_load (pc' := 29) (j := 2) dX9_sign_28 rfl rfl rfl ?_
      refine wp_icmp_lt (pc' := 32) 58 dX9_sign_29 rfl rfl (fun h29 => ?_) (fun h29 => ?_)
      · skip
        refine wp_iconst (pc' := 59) (0) dX9_sign_58 rfl rfl ?_
        refine wp_load (pc' := 60) (j := 0) dX9_sign_59 rfl rfl rfl ?_
        refine wp_get (pc' := 63) dX9_sign_60 fl_X9_186 hm rfl rfl ?_
        refine wp_bipush (pc' := 65) (30) dX9_sign_63 rfl rfl ?_
        refine wp_icmp_ge (pc' := 68) 72 dX9_sign_65 rfl rfl (fun h65 => ?_) (fun h65 => ?_)
        · skip
          refine wp_iconst (pc' := 73) (0) dX9_sign_72 rfl rfl ?_
          refine wp_v3 0 0 dX9_sign_73 ml_X9_167 hm (Nat.le_of_ble_eq_true rfl) (by omega) (by omega) ?_
          refine s_goes hM hF false false false (fun G9 hM9 hF9 => ?_)
          refine kt_v ?_
          obtain ⟨hm9, hA9, -⟩ := id hM9
          refine wp_ifF (pc' := 79) 81 dX9_sign_76 rfl rfl (cmpF rfl) ?_
          refine wp_iconst (pc' := 80) (0) dX9_sign_79 rfl rfl ?_
          refine wp_iret dX9_sign_80 rfl rfl ?_
          exact hX _ _ (by simp only [mcode, K_sign, h5, h12, h29, h65, Bool.false_eq_true, decide_true, decide_false, Bool.not_true, Bool.not_false, Bool.and_true, Bool.true_and, Bool.and_false, Bool.false_and, Bool.or_true, Bool.true_or, Bool.or_false, Bool.false_or, if_true, if_false, ite_true, ite_false]) (by decide) hM9 hF9
        · skip
          refine wp_iconst (pc' := 69) (1) dX9_sign_68 rfl rfl ?_
          refine wp_goto 73 dX9_sign_69 rfl ?_
          refine wp_v3 0 0 dX9_sign_73 ml_X9_167 hm (Nat.le_of_ble_eq_true rfl) (by omega) (by omega) ?_
          refine s_goes hM hF false false true (fun G10 hM10 hF10 => ?_)
          refine kt_v ?_
          obtain ⟨hm10, hA10, -⟩ := id hM10
          refine wp_ifF (pc' := 79) 81 dX9_sign_76 rfl rfl (cmpF rfl) ?_
          refine wp_iconst (pc' := 80) (0) dX9_sign_79 rfl rfl ?_
          refine wp_iret dX9_sign_80 rfl rfl ?_
          exact hX _ _ (by simp only [mcode, K_sign, h5, h12, h29, h65, Bool.false_eq_true, decide_true, decide_false, Bool.not_true, Bool.not_false, Bool.and_true, Bool.true_and, Bool.and_false, Bool.false_and, Bool.or_true, Bool.true_or, Bool.or_false, Bool.false_or, if_true, if_false, ite_true, ite_false]) (by decide) hM10 hF10
      · skip
        refine wp_load (pc' := 34) (j := 4) dX9_sign_32 rfl rfl rfl ?_
        refine wp_iconst (pc' := 35) (0) dX9_sign_34 rfl rfl ?_
        refine wp_bipush (pc' := 37) (31) dX9_sign_35 rfl rfl ?_
        refine wp_s3 0 0 dX9_sign_37 ml_X9_153 (Nat.le_of_ble_eq_true rfl) (by omega) (by omega) ?_
        refine s_in _ _ _ ?_
        refine kt_v ?_
        refine wp_ifeqB (pc' := 43) 58 dX9_sign_40 rfl rfl (fun h40 => ?_) (fun h40 => ?_)
        · skip
          refine wp_iconst (pc' := 59) (0) dX9_sign_58 rfl rfl ?_
          refine wp_load (pc' := 60) (j := 0) dX9_sign_59 rfl rfl rfl ?_
          refine wp_get (pc' := 63) dX9_sign_60 fl_X9_186 hm rfl rfl ?_
          refine wp_bipush (pc' := 65) (30) dX9_sign_63 rfl rfl ?_
          refine wp_icmp_ge (pc' := 68) 72 dX9_sign_65 rfl rfl (fun h65 => ?_) (fun h65 => ?_)
          · skip
            refine wp_iconst (pc' := 73) (0) dX9_sign_72 rfl rfl ?_
            refine wp_v3 0 0 dX9_sign_73 ml_X9_167 hm (Nat.le_of_ble_eq_true rfl) (by omega) (by omega) ?_
            refine s_goes hM hF false false false (fun G11 hM11 hF11 => ?_)
            refine kt_v ?_
            obtain ⟨hm11, hA11, -⟩ := id hM11
            refine wp_ifF (pc' := 79) 81 dX9_sign_76 rfl rfl (cmpF rfl) ?_
            refine wp_iconst (pc' := 80) (0) dX9_sign_79 rfl rfl ?_
            refine wp_iret dX9_sign_80 rfl rfl ?_
            exact hX _ _ (by simp only [mcode, K_sign, h5, h12, h29, h40, h65, Bool.false_eq_true, decide_true, decide_false, Bool.not_true, Bool.not_false, Bool.and_true, Bool.true_and, Bool.and_false, Bool.false_and, Bool.or_true, Bool.true_or, Bool.or_false, Bool.false_or, if_true, if_false, ite_true, ite_false]) (by decide) hM11 hF11
          · skip
            refine wp_iconst (pc' := 69) (1) dX9_sign_68 rfl rfl ?_
            refine wp_goto 73 dX9_sign_69 rfl ?_
            refine wp_v3 0 0 dX9_sign_73 ml_X9_167 hm (Nat.le_of_ble_eq_true rfl) (by omega) (by omega) ?_
            refine s_goes hM hF false false true (fun G12 hM12 hF12 => ?_)
            refine kt_v ?_
            obtain ⟨hm12, hA12, -⟩ := id hM12
            refine wp_ifF (pc' := 79) 81 dX9_sign_76 rfl rfl (cmpF rfl) ?_
            refine wp_iconst (pc' := 80) (0) dX9_sign_79 rfl rfl ?_
            refine wp_iret dX9_sign_80 rfl rfl ?_
            exact hX _ _ (by simp only [mcode, K_sign, h5, h12, h29, h40, h65, Bool.false_eq_true, decide_true, decide_false, Bool.not_true, Bool.not_false, Bool.and_true, Bool.true_and, Bool.and_false, Bool.false_and, Bool.or_true, Bool.true_or, Bool.or_false, Bool.false_or, if_true, if_false, ite_true, ite_false]) (by decide) hM12 hF12
        · skip
          refine wp_load (pc' := 45) (j := 5) dX9_sign_43 rfl rfl rfl ?_
          refine wp_iconst (pc' := 46) (0) dX9_sign_45 rfl rfl ?_
          refine wp_bipush (pc' := 48) (96) dX9_sign_46 rfl rfl ?_
          refine wp_s3 0 0 dX9_sign_48 ml_X9_153 (Nat.le_of_ble_eq_true rfl) (by omega) (by omega) ?_
          refine s_in _ _ _ ?_
          refine kt_v ?_
          refine wp_ifeqB (pc' := 54) 58 dX9_sign_51 rfl rfl (fun h51 => ?_) (fun h51 => ?_)
          · skip
            refine wp_iconst (pc' := 59) (0) dX9_sign_58 rfl rfl ?_
            refine wp_load (pc' := 60) (j := 0) dX9_sign_59 rfl rfl rfl ?_
            refine wp_get (pc' := 63) dX9_sign_60 fl_X9_186 hm rfl rfl ?_
            refine wp_bipush (pc' := 65) (30) dX9_sign_63 rfl rfl ?_
            refine wp_icmp_ge (pc' := 68) 72 dX9_sign_65 rfl rfl (fun h65 => ?_) (fun h65 => ?_)
            · skip
              refine wp_iconst (pc' := 73) (0) dX9_sign_72 rfl rfl ?_
              refine wp_v3 0 0 dX9_sign_73 ml_X9_167 hm (Nat.le_of_ble_eq_true rfl) (by omega) (by omega) ?_
              refine s_goes hM hF false false false (fun G13 hM13 hF13 => ?_)
              refine kt_v ?_
              obtain ⟨hm13, hA13, -⟩ := id hM13
              refine wp_ifF (pc' := 79) 81 dX9_sign_76 rfl rfl (cmpF rfl) ?_
              refine wp_iconst (pc' := 80) (0) dX9_sign_79 rfl rfl ?_
              refine wp_iret dX9_sign_80 rfl rfl ?_
              exact hX _ _ (by simp only [mcode, K_sign, h5, h12, h29, h40, h51, h65, Bool.false_eq_true, decide_true, decide_false, Bool.not_true, Bool.not_false, Bool.and_true, Bool.true_and, Bool.and_false, Bool.false_and, Bool.or_true, Bool.true_or, Bool.or_false, Bool.false_or, if_true, if_false, ite_true, ite_false]) (by decide) hM13 hF13
            · skip
              refine wp_iconst (pc' := 69) (1) dX9_sign_68 rfl rfl ?_
              refine wp_goto 73 dX9_sign_69 rfl ?_
              refine wp_v3 0 0 dX9_sign_73 ml_X9_167 hm (Nat.le_of_ble_eq_true rfl) (by omega) (by omega) ?_
              refine s_goes hM hF false false true (fun G14 hM14 hF14 => ?_)
              refine kt_v ?_
              obtain ⟨hm14, hA14, -⟩ := id hM14
              refine wp_ifF (pc' := 79) 81 dX9_sign_76 rfl rfl (cmpF rfl) ?_
              refine wp_iconst (pc' := 80) (0) dX9_sign_79 rfl rfl ?_
              refine wp_iret dX9_sign_80 rfl rfl ?_
              exact hX _ _ (by simp only [mcode, K_sign, h5, h12, h29, h40, h51, h65, Bool.false_eq_true, decide_true, decide_false, Bool.not_true, Bool.not_false, Bool.and_true, Bool.true_and, Bool.and_false, Bool.false_and, Bool.or_true, Bool.true_or, Bool.or_false, Bool.false_or, if_true, if_false, ite_true, ite_false]) (by decide) hM14 hF14
          · skip
            refine wp_iconst (pc' := 55) (1) dX9_sign_54 rfl rfl ?_
            refine wp_goto 59 dX9_sign_55 rfl ?_
            refine wp_load (pc' := 60) (j := 0) dX9_sign_59 rfl rfl rfl ?_
            refine wp_get (pc' := 63) dX9_sign_60 fl_X9_186 hm rfl rfl ?_
            refine wp_bipush (pc' := 65) (30) dX9_sign_63 rfl rfl ?_
            refine wp_icmp_ge (pc' := 68) 72 dX9_sign_65 rfl rfl (fun h65 => ?_) (fun h65 => ?_)
            · skip
              refine wp_iconst (pc' := 73) (0) dX9_sign_72 rfl rfl ?_
              refine wp_v3 0 0 dX9_sign_73 ml_X9_167 hm (Nat.le_of_ble_eq_true rfl) (by omega) (by omega) ?_
              refine s_goes hM hF false true false (fun G15 hM15 hF15 => ?_)
              refine kt_v ?_
              obtain ⟨hm15, hA15, -⟩ := id hM15
              refine wp_ifF (pc' := 79) 81 dX9_sign_76 rfl rfl (cmpF rfl) ?_
              refine wp_iconst (pc' := 80) (0) dX9_sign_79 rfl rfl ?_
              refine wp_iret dX9_sign_80 rfl rfl ?_
              exact hX _ _ (by simp only [mcode, K_sign, h5, h12, h29, h40, h51, h65, Bool.false_eq_true, decide_true, decide_false, Bool.not_true, Bool.not_false, Bool.and_true, Bool.true_and, Bool.and_false, Bool.false_and, Bool.or_true, Bool.true_or, Bool.or_false, Bool.false_or, if_true, if_false, ite_true, ite_false]) (by decide) hM15 hF15
            · skip
              refine wp_iconst (pc' := 69) (1) dX9_sign_68 rfl rfl ?_
              refine wp_goto 73 dX9_sign_69 rfl ?_
              refine wp_v3 0 0 dX9_sign_73 ml_X9_167 hm (Nat.le_of_ble_eq_true rfl) (by omega) (by omega) ?_
              refine s_goes hM hF false true true (fun G16 hM16 hF16 => ?_)
              refine kt_v ?_
              obtain ⟨hm16, hA16, -⟩ := id hM16
              refine wp_ifF (pc' := 79) 81 dX9_sign_76 rfl rfl (cmpF rfl) ?_
              refine wp_iconst (pc' := 80) (0) dX9_sign_79 rfl rfl ?_
              refine wp_iret dX9_sign_80 rfl rfl ?_
              exact hX _ _ (by simp only [mcode, K_sign, h5, h12, h29, h40, h51, h65, Bool.false_eq_true, decide_true, decide_false, Bool.not_true, Bool.not_false, Bool.and_true, Bool.true_and, Bool.and_false, Bool.false_and, Bool.or_true, Bool.true_or, Bool.or_false, Bool.false_or, if_true, if_false, ite_true, ite_false]) (by decide) hM16 hF16
    · skip
      refine wp_load (pc' := 16) (j := 3) dX9_sign_15 rfl rfl rfl ?_
      refine wp_s1 0 0 dX9_sign_16 ml_X9_164 (Nat.le_of_ble_eq_true rfl) (by omega) (by omega) ?_
      refine s_isMetre _ ?_
      refine kt_v ?_
      refine wp_ifeqB (pc' := 22) 26 dX9_sign_19 rfl rfl (fun h19 => ?_) (fun h19 => ?_)
      · skip
        refine wp_iconst (pc' := 27) (0) dX9_sign_26 rfl rfl ?_
        refine wp_load (pc' := 28) (j := 3) dX9_sign_27 rfl rfl rfl ?_
        refine wp_load (pc' := 29) (j := 2) dX9_sign_28 rfl rfl rfl ?_
        refine wp_icmp_lt (pc' := 32) 58 dX9_sign_29 rfl rfl (fun h29 => ?_) (fun h29 => ?_)
        · skip
          refine wp_iconst (pc' := 59) (0) dX9_sign_58 rfl rfl ?_
          refine wp_load (pc' := 60) (j := 0) dX9_sign_59 rfl rfl rfl ?_
          refine wp_get (pc' := 63) dX9_sign_60 fl_X9_186 hm rfl rfl ?_
          refine wp_bipush (pc' := 65) (30) dX9_sign_63 rfl rfl ?_
          refine wp_icmp_ge (pc' := 68) 72 dX9_sign_65 rfl rfl (fun h65 => ?_) (fun h65 => ?_)
          · skip
            refine wp_iconst (pc' := 73) (0) dX9_sign_72 rfl rfl ?_
            refine wp_v3 0 0 dX9_sign_73 ml_X9_167 hm (Nat.le_of_ble_eq_true rfl) (by omega) (by omega) ?_
            refine s_goes hM hF false false false (fun G17 hM17 hF17 => ?_)
            refine kt_v ?_
            obtain ⟨hm17, hA17, -⟩ := id hM17
            refine wp_ifF (pc' := 79) 81 dX9_sign_76 rfl rfl (cmpF rfl) ?_
            refine wp_iconst (pc' := 80) (0) dX9_sign_79 rfl rfl ?_
            refine wp_iret dX9_sign_80 rfl rfl ?_
            exact hX _ _ (by simp only [mcode, K_sign, h5, h12, h19, h29, h65, Bool.false_eq_true, decide_true, decide_false, Bool.not_true, Bool.not_false, Bool.and_true, Bool.true_and, Bool.and_false, Bool.false_and, Bool.or_true, Bool.true_or, Bool.or_false, Bool.false_or, if_true, if_false, ite_true, ite_false]) (by decide) hM17 hF17
          · skip
            refine wp_iconst (pc' := 69) (1) dX9_sign_68 rfl rfl ?_
            refine wp_goto 73 dX9_sign_69 rfl ?_
            refine wp_v3 0 0 dX9_sign_73 ml_X9_167 hm (Nat.le_of_ble_eq_true rfl) (by omega) (by omega) ?_
            refine s_goes hM hF false false true (fun G18 hM18 hF18 => ?_)
            refine kt_v ?_
            obtain ⟨hm18, hA18, -⟩ := id hM18
            refine wp_ifF (pc' := 79) 81 dX9_sign_76 rfl rfl (cmpF rfl) ?_
            refine wp_iconst (pc' := 80) (0) dX9_sign_79 rfl rfl ?_
            refine wp_iret dX9_sign_80 rfl rfl ?_
            exact hX _ _ (by simp only [mcode, K_sign, h5, h12, h19, h29, h65, Bool.false_eq_true, decide_true, decide_false, Bool.not_true, Bool.not_false, Bool.and_true, Bool.true_and, Bool.and_false, Bool.false_and, Bool.or_true, Bool.true_or, Bool.or_false, Bool.false_or, if_true, if_false, ite_true, ite_false]) (by decide) hM18 hF18
        · skip
          refine wp_load (pc' := 34) (j := 4) dX9_sign_32 rfl rfl rfl ?_
          refine wp_iconst (pc' := 35) (0) dX9_sign_34 rfl rfl ?_
          refine wp_bipush (pc' := 37) (31) dX9_sign_35 rfl rfl ?_
          refine wp_s3 0 0 dX9_sign_37 ml_X9_153 (Nat.le_of_ble_eq_true rfl) (by omega) (by omega) ?_
          refine s_in _ _ _ ?_
          refine kt_v ?_
          refine wp_ifeqB (pc' := 43) 58 dX9_sign_40 rfl rfl (fun h40 => ?_) (fun h40 => ?_)
          · skip
            refine wp_iconst (pc' := 59) (0) dX9_sign_58 rfl rfl ?_
            refine wp_load (pc' := 60) (j := 0) dX9_sign_59 rfl rfl rfl ?_
            refine wp_get (pc' := 63) dX9_sign_60 fl_X9_186 hm rfl rfl ?_
            refine wp_bipush (pc' := 65) (30) dX9_sign_63 rfl rfl ?_
            refine wp_icmp_ge (pc' := 68) 72 dX9_sign_65 rfl rfl (fun h65 => ?_) (fun h65 => ?_)
            · skip
              refine wp_iconst (pc' := 73) (0) dX9_sign_72 rfl rfl ?_
              refine wp_v3 0 0 dX9_sign_73 ml_X9_167 hm (Nat.le_of_ble_eq_true rfl) (by omega) (by omega) ?_
              refine s_goes hM hF false false false (fun G19 hM19 hF19 => ?_)
              refine kt_v ?_
              obtain ⟨hm19, hA19, -⟩ := id hM19
              refine wp_ifF (pc' := 79) 81 dX9_sign_76 rfl rfl (cmpF rfl) ?_
              refine wp_iconst (pc' := 80) (0) dX9_sign_79 rfl rfl ?_
              refine wp_iret dX9_sign_80 rfl rfl ?_
              exact hX _ _ (by simp only [mcode, K_sign, h5, h12, h19, h29, h40, h65, Bool.false_eq_true, decide_true, decide_false, Bool.not_true, Bool.not_false, Bool.and_true, Bool.true_and, Bool.and_false, Bool.false_and, Bool.or_true, Bool.true_or, Bool.or_false, Bool.false_or, if_true, if_false, ite_true, ite_false]) (by decide) hM19 hF19
            · skip
              refine wp_iconst (pc' := 69) (1) dX9_sign_68 rfl rfl ?_
              refine wp_goto 73 dX9_sign_69 rfl ?_
              refine wp_v3 0 0 dX9_sign_73 ml_X9_167 hm (Nat.le_of_ble_eq_true rfl) (by omega) (by omega) ?_
              refine s_goes hM hF false false true (fun G20 hM20 hF20 => ?_)
              refine kt_v ?_
              obtain ⟨hm20, hA20, -⟩ := id hM20
              refine wp_ifF (pc' := 79) 81 dX9_sign_76 rfl rfl (cmpF rfl) ?_
              refine wp_iconst (pc' := 80) (0) dX9_sign_79 rfl rfl ?_
              refine wp_iret dX9_sign_80 rfl rfl ?_
              exact hX _ _ (by simp only [mcode, K_sign, h5, h12, h19, h29, h40, h65, Bool.false_eq_true, decide_true, decide_false, Bool.not_true, Bool.not_false, Bool.and_true, Bool.true_and, Bool.and_false, Bool.false_and, Bool.or_true, Bool.true_or, Bool.or_false, Bool.false_or, if_true, if_false, ite_true, ite_false]) (by decide) hM20 hF20
          · skip
            refine wp_load (pc' := 45) (j := 5) dX9_sign_43 rfl rfl rfl ?_
            refine wp_iconst (pc' := 46) (0) dX9_sign_45 rfl rfl ?_
            refine wp_bipush (pc' := 48) (96) dX9_sign_46 rfl rfl ?_
            refine wp_s3 0 0 dX9_sign_48 ml_X9_153 (Nat.le_of_ble_eq_true rfl) (by omega) (by omega) ?_
            refine s_in _ _ _ ?_
            refine kt_v ?_
            refine wp_ifeqB (pc' := 54) 58 dX9_sign_51 rfl rfl (fun h51 => ?_) (fun h51 => ?_)
            · skip
              refine wp_iconst (pc' := 59) (0) dX9_sign_58 rfl rfl ?_
              refine wp_load (pc' := 60) (j := 0) dX9_sign_59 rfl rfl rfl ?_
              refine wp_get (pc' := 63) dX9_sign_60 fl_X9_186 hm rfl rfl ?_
              refine wp_bipush (pc' := 65) (30) dX9_sign_63 rfl rfl ?_
              refine wp_icmp_ge (pc' := 68) 72 dX9_sign_65 rfl rfl (fun h65 => ?_) (fun h65 => ?_)
              · skip
                refine wp_iconst (pc' := 73) (0) dX9_sign_72 rfl rfl ?_
                refine wp_v3 0 0 dX9_sign_73 ml_X9_167 hm (Nat.le_of_ble_eq_true rfl) (by omega) (by omega) ?_
                refine s_goes hM hF false false false (fun G21 hM21 hF21 => ?_)
                refine kt_v ?_
                obtain ⟨hm21, hA21, -⟩ := id hM21
                refine wp_ifF (pc' := 79) 81 dX9_sign_76 rfl rfl (cmpF rfl) ?_
                refine wp_iconst (pc' := 80) (0) dX9_sign_79 rfl rfl ?_
                refine wp_iret dX9_sign_80 rfl rfl ?_
                exact hX _ _ (by simp only [mcode, K_sign, h5, h12, h19, h29, h40, h51, h65, Bool.false_eq_true, decide_true, decide_false, Bool.not_true, Bool.not_false, Bool.and_true, Bool.true_and, Bool.and_false, Bool.false_and, Bool.or_true, Bool.true_or, Bool.or_false, Bool.false_or, if_true, if_false, ite_true, ite_false]) (by decide) hM21 hF21
              · skip
                refine wp_iconst (pc' := 69) (1) dX9_sign_68 rfl rfl ?_
                refine wp_goto 73 dX9_sign_69 rfl ?_
                refine wp_v3 0 0 dX9_sign_73 ml_X9_167 hm (Nat.le_of_ble_eq_true rfl) (by omega) (by omega) ?_
                refine s_goes hM hF false false true (fun G22 hM22 hF22 => ?_)
                refine kt_v ?_
                obtain ⟨hm22, hA22, -⟩ := id hM22
                refine wp_ifF (pc' := 79) 81 dX9_sign_76 rfl rfl (cmpF rfl) ?_
                refine wp_iconst (pc' := 80) (0) dX9_sign_79 rfl rfl ?_
                refine wp_iret dX9_sign_80 rfl rfl ?_
                exact hX _ _ (by simp only [mcode, K_sign, h5, h12, h19, h29, h40, h51, h65, Bool.false_eq_true, decide_true, decide_false, Bool.not_true, Bool.not_false, Bool.and_true, Bool.true_and, Bool.and_false, Bool.false_and, Bool.or_true, Bool.true_or, Bool.or_false, Bool.false_or, if_true, if_false, ite_true, ite_false]) (by decide) hM22 hF22
            · skip
              refine wp_iconst (pc' := 55) (1) dX9_sign_54 rfl rfl ?_
              refine wp_goto 59 dX9_sign_55 rfl ?_
              refine wp_load (pc' := 60) (j := 0) dX9_sign_59 rfl rfl rfl ?_
              refine wp_get (pc' := 63) dX9_sign_60 fl_X9_186 hm rfl rfl ?_
              refine wp_bipush (pc' := 65) (30) dX9_sign_63 rfl rfl ?_
              refine wp_icmp_ge (pc' := 68) 72 dX9_sign_65 rfl rfl (fun h65 => ?_) (fun h65 => ?_)
              · skip
                refine wp_iconst (pc' := 73) (0) dX9_sign_72 rfl rfl ?_
                refine wp_v3 0 0 dX9_sign_73 ml_X9_167 hm (Nat.le_of_ble_eq_true rfl) (by omega) (by omega) ?_
                refine s_goes hM hF false true false (fun G23 hM23 hF23 => ?_)
                refine kt_v ?_
                obtain ⟨hm23, hA23, -⟩ := id hM23
                refine wp_ifF (pc' := 79) 81 dX9_sign_76 rfl rfl (cmpF rfl) ?_
                refine wp_iconst (pc' := 80) (0) dX9_sign_79 rfl rfl ?_
                refine wp_iret dX9_sign_80 rfl rfl ?_
                exact hX _ _ (by simp only [mcode, K_sign, h5, h12, h19, h29, h40, h51, h65, Bool.false_eq_true, decide_true, decide_false, Bool.not_true, Bool.not_false, Bool.and_true, Bool.true_and, Bool.and_false, Bool.false_and, Bool.or_true, Bool.true_or, Bool.or_false, Bool.false_or, if_true, if_false, ite_true, ite_false]) (by decide) hM23 hF23
              · skip
                refine wp_iconst (pc' := 69) (1) dX9_sign_68 rfl rfl ?_
                refine wp_goto 73 dX9_sign_69 rfl ?_
                refine wp_v3 0 0 dX9_sign_73 ml_X9_167 hm (Nat.le_of_ble_eq_true rfl) (by omega) (by omega) ?_
                refine s_goes hM hF false true true (fun G24 hM24 hF24 => ?_)
                refine kt_v ?_
                obtain ⟨hm24, hA24, -⟩ := id hM24
                refine wp_ifF (pc' := 79) 81 dX9_sign_76 rfl rfl (cmpF rfl) ?_
                refine wp_iconst (pc' := 80) (0) dX9_sign_79 rfl rfl ?_
                refine wp_iret dX9_sign_80 rfl rfl ?_
                exact hX _ _ (by simp only [mcode, K_sign, h5, h12, h19, h29, h40, h51, h65, Bool.false_eq_true, decide_true, decide_false, Bool.not_true, Bool.not_false, Bool.and_true, Bool.true_and, Bool.and_false, Bool.false_and, Bool.or_true, Bool.true_or, Bool.or_false, Bool.false_or, if_true, if_false, ite_true, ite_false]) (by decide) hM24 hF24
      · skip
        refine wp_iconst (pc' := 23) (1) dX9_sign_22 rfl rfl ?_
        refine wp_goto 27 dX9_sign_23 rfl ?_
        refine wp_load (pc' := 28) (j := 3) dX9_sign_27 rfl rfl rfl ?_
        refine wp_load (pc' := 29) (j := 2) dX9_sign_28 rfl rfl rfl ?_
        refine wp_icmp_lt (pc' := 32) 58 dX9_sign_29 rfl rfl (fun h29 => ?_) (fun h29 => ?_)
        · skip
          refine wp_iconst (pc' := 59) (0) dX9_sign_58 rfl rfl ?_
          refine wp_load (pc' := 60) (j := 0) dX9_sign_59 rfl rfl rfl ?_
          refine wp_get (pc' := 63) dX9_sign_60 fl_X9_186 hm rfl rfl ?_
          refine wp_bipush (pc' := 65) (30) dX9_sign_63 rfl rfl ?_
          refine wp_icmp_ge (pc' := 68) 72 dX9_sign_65 rfl rfl (fun h65 => ?_) (fun h65 => ?_)
          · skip
            refine wp_iconst (pc' := 73) (0) dX9_sign_72 rfl rfl ?_
            refine wp_v3 0 0 dX9_sign_73 ml_X9_167 hm (Nat.le_of_ble_eq_true rfl) (by omega) (by omega) ?_
            refine s_goes hM hF true false false (fun G25 hM25 hF25 => ?_)
            refine kt_v ?_
            obtain ⟨hm25, hA25, -⟩ := id hM25
            refine wp_ifF (pc' := 79) 81 dX9_sign_76 rfl rfl (cmpF rfl) ?_
            refine wp_iconst (pc' := 80) (0) dX9_sign_79 rfl rfl ?_
            refine wp_iret dX9_sign_80 rfl rfl ?_
            exact hX _ _ (by simp only [mcode, K_sign, h5, h12, h19, h29, h65, Bool.false_eq_true, decide_true, decide_false, Bool.not_true, Bool.not_false, Bool.and_true, Bool.true_and, Bool.and_false, Bool.false_and, Bool.or_true, Bool.true_or, Bool.or_false, Bool.false_or, if_true, if_false, ite_true, ite_false]) (by decide) hM25 hF25
          · skip
            refine wp_iconst (pc' := 69) (1) dX9_sign_68 rfl rfl ?_
            refine wp_goto 73 dX9_sign_69 rfl ?_
            refine wp_v3 0 0 dX9_sign_73 ml_X9_167 hm (Nat.le_of_ble_eq_true rfl) (by omega) (by omega) ?_
            refine s_goes hM hF true false true (fun G26 hM26 hF26 => ?_)
            refine kt_v ?_
            obtain ⟨hm26, hA26, -⟩ := id hM26
            refine wp_ifF (pc' := 79) 81 dX9_sign_76 rfl rfl (cmpF rfl) ?_
            refine wp_iconst (pc' := 80) (0) dX9_sign_79 rfl rfl ?_
            refine wp_iret dX9_sign_80 rfl rfl ?_
            exact hX _ _ (by simp only [mcode, K_sign, h5, h12, h19, h29, h65, Bool.false_eq_true, decide_true, decide_false, Bool.not_true, Bool.not_false, Bool.and_true, Bool.true_and, Bool.and_false, Bool.false_and, Bool.or_true, Bool.true_or, Bool.or_false, Bool.false_or, if_true, if_false, ite_true, ite_false]) (by decide) hM26 hF26
        · skip
          refine wp_load (pc' := 34) (j := 4) dX9_sign_32 rfl rfl rfl ?_
          refine wp_iconst (pc' := 35) (0) dX9_sign_34 rfl rfl ?_
          refine wp_bipush (pc' := 37) (31) dX9_sign_35 rfl rfl ?_
          refine wp_s3 0 0 dX9_sign_37 ml_X9_153 (Nat.le_of_ble_eq_true rfl) (by omega) (by omega) ?_
          refine s_in _ _ _ ?_
          refine kt_v ?_
          refine wp_ifeqB (pc' := 43) 58 dX9_sign_40 rfl rfl (fun h40 => ?_) (fun h40 => ?_)
          · skip
            refine wp_iconst (pc' := 59) (0) dX9_sign_58 rfl rfl ?_
            refine wp_load (pc' := 60) (j := 0) dX9_sign_59 rfl rfl rfl ?_
            refine wp_get (pc' := 63) dX9_sign_60 fl_X9_186 hm rfl rfl ?_
            refine wp_bipush (pc' := 65) (30) dX9_sign_63 rfl rfl ?_
            refine wp_icmp_ge (pc' := 68) 72 dX9_sign_65 rfl rfl (fun h65 => ?_) (fun h65 => ?_)
            · skip
              refine wp_iconst (pc' := 73) (0) dX9_sign_72 rfl rfl ?_
              refine wp_v3 0 0 dX9_sign_73 ml_X9_167 hm (Nat.le_of_ble_eq_true rfl) (by omega) (by omega) ?_
              refine s_goes hM hF true false false (fun G27 hM27 hF27 => ?_)
              refine kt_v ?_
              obtain ⟨hm27, hA27, -⟩ := id hM27
              refine wp_ifF (pc' := 79) 81 dX9_sign_76 rfl rfl (cmpF rfl) ?_
              refine wp_iconst (pc' := 80) (0) dX9_sign_79 rfl rfl ?_
              refine wp_iret dX9_sign_80 rfl rfl ?_
              exact hX _ _ (by simp only [mcode, K_sign, h5, h12, h19, h29, h40, h65, Bool.false_eq_true, decide_true, decide_false, Bool.not_true, Bool.not_false, Bool.and_true, Bool.true_and, Bool.and_false, Bool.false_and, Bool.or_true, Bool.true_or, Bool.or_false, Bool.false_or, if_true, if_false, ite_true, ite_false]) (by decide) hM27 hF27
            · skip
              refine wp_iconst (pc' := 69) (1) dX9_sign_68 rfl rfl ?_
              refine wp_goto 73 dX9_sign_69 rfl ?_
              refine wp_v3 0 0 dX9_sign_73 ml_X9_167 hm (Nat.le_of_ble_eq_true rfl) (by omega) (by omega) ?_
              refine s_goes hM hF true false true (fun G28 hM28 hF28 => ?_)
              refine kt_v ?_
              obtain ⟨hm28, hA28, -⟩ := id hM28
              refine wp_ifF (pc' := 79) 81 dX9_sign_76 rfl rfl (cmpF rfl) ?_
              refine wp_iconst (pc' := 80) (0) dX9_sign_79 rfl rfl ?_
              refine wp_iret dX9_sign_80 rfl rfl ?_
              exact hX _ _ (by simp only [mcode, K_sign, h5, h12, h19, h29, h40, h65, Bool.false_eq_true, decide_true, decide_false, Bool.not_true, Bool.not_false, Bool.and_true, Bool.true_and, Bool.and_false, Bool.false_and, Bool.or_true, Bool.true_or, Bool.or_false, Bool.false_or, if_true, if_false, ite_true, ite_false]) (by decide) hM28 hF28
          · skip
            refine wp_load (pc' := 45) (j := 5) dX9_sign_43 rfl rfl rfl ?_
            refine wp_iconst (pc' := 46) (0) dX9_sign_45 rfl rfl ?_
            refine wp_bipush (pc' := 48) (96) dX9_sign_46 rfl rfl ?_
            refine wp_s3 0 0 dX9_sign_48 ml_X9_153 (Nat.le_of_ble_eq_true rfl) (by omega) (by omega) ?_
            refine s_in _ _ _ ?_
            refine kt_v ?_
            refine wp_ifeqB (pc' := 54) 58 dX9_sign_51 rfl rfl (fun h51 => ?_) (fun h51 => ?_)
            · skip
              refine wp_iconst (pc' := 59) (0) dX9_sign_58 rfl rfl ?_
              refine wp_load (pc' := 60) (j := 0) dX9_sign_59 rfl rfl rfl ?_
              refine wp_get (pc' := 63) dX9_sign_60 fl_X9_186 hm rfl rfl ?_
              refine wp_bipush (pc' := 65) (30) dX9_sign_63 rfl rfl ?_
              refine wp_icmp_ge (pc' := 68) 72 dX9_sign_65 rfl rfl (fun h65 => ?_) (fun h65 => ?_)
              · skip
                refine wp_iconst (pc' := 73) (0) dX9_sign_72 rfl rfl ?_
                refine wp_v3 0 0 dX9_sign_73 ml_X9_167 hm (Nat.le_of_ble_eq_true rfl) (by omega) (by omega) ?_
                refine s_goes hM hF true false false (fun G29 hM29 hF29 => ?_)
                refine kt_v ?_
                obtain ⟨hm29, hA29, -⟩ := id hM29
                refine wp_ifF (pc' := 79) 81 dX9_sign_76 rfl rfl (cmpF rfl) ?_
                refine wp_iconst (pc' := 80) (0) dX9_sign_79 rfl rfl ?_
                refine wp_iret dX9_sign_80 rfl rfl ?_
                exact hX _ _ (by simp only [mcode, K_sign, h5, h12, h19, h29, h40, h51, h65, Bool.false_eq_true, decide_true, decide_false, Bool.not_true, Bool.not_false, Bool.and_true, Bool.true_and, Bool.and_false, Bool.false_and, Bool.or_true, Bool.true_or, Bool.or_false, Bool.false_or, if_true, if_false, ite_true, ite_false]) (by decide) hM29 hF29
              · skip
                refine wp_iconst (pc' := 69) (1) dX9_sign_68 rfl rfl ?_
                refine wp_goto 73 dX9_sign_69 rfl ?_
                refine wp_v3 0 0 dX9_sign_73 ml_X9_167 hm (Nat.le_of_ble_eq_true rfl) (by omega) (by omega) ?_
                refine s_goes hM hF true false true (fun G30 hM30 hF30 => ?_)
                refine kt_v ?_
                obtain ⟨hm30, hA30, -⟩ := id hM30
                refine wp_ifF (pc' := 79) 81 dX9_sign_76 rfl rfl (cmpF rfl) ?_
                refine wp_iconst (pc' := 80) (0) dX9_sign_79 rfl rfl ?_
                refine wp_iret dX9_sign_80 rfl rfl ?_
                exact hX _ _ (by simp only [mcode, K_sign, h5, h12, h19, h29, h40, h51, h65, Bool.false_eq_true, decide_true, decide_false, Bool.not_true, Bool.not_false, Bool.and_true, Bool.true_and, Bool.and_false, Bool.false_and, Bool.or_true, Bool.true_or, Bool.or_false, Bool.false_or, if_true, if_false, ite_true, ite_false]) (by decide) hM30 hF30
            · skip
              refine wp_iconst (pc' := 55) (1) dX9_sign_54 rfl rfl ?_
              refine wp_goto 59 dX9_sign_55 rfl ?_
              refine wp_load (pc' := 60) (j := 0) dX9_sign_59 rfl rfl rfl ?_
              refine wp_get (pc' := 63) dX9_sign_60 fl_X9_186 hm rfl rfl ?_
              refine wp_bipush (pc' := 65) (30) dX9_sign_63 rfl rfl ?_
              refine wp_icmp_ge (pc' := 68) 72 dX9_sign_65 rfl rfl (fun h65 => ?_) (fun h65 => ?_)
              · skip
                refine wp_iconst (pc' := 73) (0) dX9_sign_72 rfl rfl ?_
                refine wp_v3 0 0 dX9_sign_73 ml_X9_167 hm (Nat.le_of_ble_eq_true rfl) (by omega) (by omega) ?_
                refine s_goes hM hF true true false (fun G31 hM31 hF31 => ?_)
                refine kt_v ?_
                obtain ⟨hm31, hA31, -⟩ := id hM31
                refine wp_ifF (pc' := 79) 81 dX9_sign_76 rfl rfl (cmpF rfl) ?_
                refine wp_iconst (pc' := 80) (0) dX9_sign_79 rfl rfl ?_
                refine wp_iret dX9_sign_80 rfl rfl ?_
                exact hX _ _ (by simp only [mcode, K_sign, h5, h12, h19, h29, h40, h51, h65, Bool.false_eq_true, decide_true, decide_false, Bool.not_true, Bool.not_false, Bool.and_true, Bool.true_and, Bool.and_false, Bool.false_and, Bool.or_true, Bool.true_or, Bool.or_false, Bool.false_or, if_true, if_false, ite_true, ite_false]) (by decide) hM31 hF31
              · skip
                refine wp_iconst (pc' := 69) (1) dX9_sign_68 rfl rfl ?_
                refine wp_goto 73 dX9_sign_69 rfl ?_
                refine wp_v3 0 0 dX9_sign_73 ml_X9_167 hm (Nat.le_of_ble_eq_true rfl) (by omega) (by omega) ?_
                refine s_goes hM hF true true true (fun G32 hM32 hF32 => ?_)
                refine kt_v ?_
                obtain ⟨hm32, hA32, -⟩ := id hM32
                refine wp_ifT 81 dX9_sign_76 rfl (cmpT rfl) ?_
                have hlt : n < 30 := by
                  rw [hs] at h65
                  rcases Nat.lt_or_ge n 30 with q | q
                  · exact q
                  · exact absurd (show (30 : Int32) ≤ nI n from nI_le q (by omega)) h65
                refine wp_load (pc' := 82) (j := 0) dX9_sign_81 rfl rfl rfl ?_
                refine wp_get (pc' := 85) dX9_sign_82 fl_X9_13 hm32 rfl rfl ?_
                refine wp_load (pc' := 86) (j := 0) dX9_sign_85 rfl rfl rfl ?_
                refine wp_get (pc' := 89) dX9_sign_86 fl_X9_186 hm32 rfl rfl ?_
                refine wp_load (pc' := 90) (j := 1) dX9_sign_89 rfl rfl rfl ?_
                refine wp_mia (pc' := 91) hM32 hF32 8 (by decide) (by decide) dX9_sign_90 hs (show n < 30 from hlt) (by decide) rfl (fun G33 hM33 hF33 => ?_)
                obtain ⟨hm33, hA33, -⟩ := id hM33
                refine wp_load (pc' := 92) (j := 0) dX9_sign_91 rfl rfl rfl ?_
                refine wp_get (pc' := 95) dX9_sign_92 fl_X9_17 hm33 rfl rfl ?_
                refine wp_load (pc' := 96) (j := 0) dX9_sign_95 rfl rfl rfl ?_
                refine wp_get (pc' := 99) dX9_sign_96 fl_X9_186 hm33 rfl rfl ?_
                refine wp_load (pc' := 100) (j := 2) dX9_sign_99 rfl rfl rfl ?_
                refine wp_mia (pc' := 101) hM33 hF33 9 (by decide) (by decide) dX9_sign_100 hs (show n < 30 from hlt) (by decide) rfl (fun G34 hM34 hF34 => ?_)
                obtain ⟨hm34, hA34, -⟩ := id hM34
                refine wp_load (pc' := 102) (j := 0) dX9_sign_101 rfl rfl rfl ?_
                refine wp_get (pc' := 105) dX9_sign_102 fl_X9_20 hm34 rfl rfl ?_
                refine wp_load (pc' := 106) (j := 0) dX9_sign_105 rfl rfl rfl ?_
                refine wp_get (pc' := 109) dX9_sign_106 fl_X9_186 hm34 rfl rfl ?_
                refine wp_load (pc' := 110) (j := 3) dX9_sign_109 rfl rfl rfl ?_
                refine wp_mia (pc' := 111) hM34 hF34 10 (by decide) (by decide) dX9_sign_110 hs (show n < 30 from hlt) (by decide) rfl (fun G35 hM35 hF35 => ?_)
                obtain ⟨hm35, hA35, -⟩ := id hM35
                refine wp_load (pc' := 112) (j := 0) dX9_sign_111 rfl rfl rfl ?_
                refine wp_get (pc' := 115) dX9_sign_112 fl_X9_23 hm35 rfl rfl ?_
                refine wp_load (pc' := 116) (j := 0) dX9_sign_115 rfl rfl rfl ?_
                refine wp_get (pc' := 119) dX9_sign_116 fl_X9_186 hm35 rfl rfl ?_
                refine wp_load (pc' := 121) (j := 4) dX9_sign_119 rfl rfl rfl ?_
                refine wp_mia (pc' := 122) hM35 hF35 11 (by decide) (by decide) dX9_sign_121 hs (show n < 30 from hlt) (by decide) rfl (fun G36 hM36 hF36 => ?_)
                obtain ⟨hm36, hA36, -⟩ := id hM36
                refine wp_load (pc' := 123) (j := 0) dX9_sign_122 rfl rfl rfl ?_
                refine wp_get (pc' := 126) dX9_sign_123 fl_X9_26 hm36 rfl rfl ?_
                refine wp_load (pc' := 127) (j := 0) dX9_sign_126 rfl rfl rfl ?_
                refine wp_get (pc' := 130) dX9_sign_127 fl_X9_186 hm36 rfl rfl ?_
                refine wp_load (pc' := 132) (j := 5) dX9_sign_130 rfl rfl rfl ?_
                refine wp_mia (pc' := 133) hM36 hF36 12 (by decide) (by decide) dX9_sign_132 hs (show n < 30 from hlt) (by decide) rfl (fun G37 hM37 hF37 => ?_)
                obtain ⟨hm37, hA37, -⟩ := id hM37
                refine wp_load (pc' := 134) (j := 0) dX9_sign_133 rfl rfl rfl ?_
                refine wp_get (pc' := 137) dX9_sign_134 fl_X9_29 hm37 rfl rfl ?_
                refine wp_load (pc' := 138) (j := 0) dX9_sign_137 rfl rfl rfl ?_
                refine wp_get (pc' := 141) dX9_sign_138 fl_X9_186 hm37 rfl rfl ?_
                refine wp_load (pc' := 143) (j := 6) dX9_sign_141 rfl rfl rfl ?_
                refine wp_mza (pc' := 144) hM37 hF37 13 (by decide) (by decide) dX9_sign_143 hs (show n < 30 from hlt) (by decide) rfl (fun G38 hM38 hF38 => ?_)
                obtain ⟨hm38, hA38, -⟩ := id hM38
                refine wp_load (pc' := 145) (j := 0) dX9_sign_144 rfl rfl rfl ?_
                refine wp_get (pc' := 148) dX9_sign_145 fl_X9_32 hm38 rfl rfl ?_
                refine wp_load (pc' := 149) (j := 0) dX9_sign_148 rfl rfl rfl ?_
                refine wp_get (pc' := 152) dX9_sign_149 fl_X9_186 hm38 rfl rfl ?_
                refine wp_load (pc' := 154) (j := 7) dX9_sign_152 rfl rfl rfl ?_
                refine wp_mza (pc' := 155) hM38 hF38 14 (by decide) (by decide) dX9_sign_154 hs (show n < 30 from hlt) (by decide) rfl (fun G39 hM39 hF39 => ?_)
                obtain ⟨hm39, hA39, -⟩ := id hM39
                refine wp_load (pc' := 156) (j := 0) dX9_sign_155 rfl rfl rfl ?_
                refine wp_get (pc' := 159) dX9_sign_156 fl_X9_35 hm39 rfl rfl ?_
                refine wp_load (pc' := 160) (j := 0) dX9_sign_159 rfl rfl rfl ?_
                refine wp_get (pc' := 163) dX9_sign_160 fl_X9_186 hm39 rfl rfl ?_
                refine wp_load (pc' := 164) (j := 0) dX9_sign_163 rfl rfl rfl ?_
                refine wp_get (pc' := 167) dX9_sign_164 fl_X9_171 hm39 rfl rfl ?_
                refine wp_mia (pc' := 168) hM39 hF39 15 (by decide) (by decide) dX9_sign_167 hs (show n < 30 from hlt) (by decide) rfl (fun G40 hM40 hF40 => ?_)
                obtain ⟨hm40, hA40, -⟩ := id hM40
                refine wp_load (pc' := 169) (j := 0) dX9_sign_168 rfl rfl rfl ?_
                refine wp_get (pc' := 172) dX9_sign_169 fl_X9_38 hm40 rfl rfl ?_
                refine wp_load (pc' := 173) (j := 0) dX9_sign_172 rfl rfl rfl ?_
                refine wp_get (pc' := 176) dX9_sign_173 fl_X9_186 hm40 rfl rfl ?_
                refine wp_load (pc' := 177) (j := 0) dX9_sign_176 rfl rfl rfl ?_
                refine wp_get (pc' := 180) dX9_sign_177 fl_X9_174 hm40 rfl rfl ?_
                refine wp_mia (pc' := 181) hM40 hF40 16 (by decide) (by decide) dX9_sign_180 hs (show n < 30 from hlt) (by decide) rfl (fun G41 hM41 hF41 => ?_)
                obtain ⟨hm41, hA41, -⟩ := id hM41
                refine wp_load (pc' := 182) (j := 0) dX9_sign_181 rfl rfl rfl ?_
                refine wp_get (pc' := 185) dX9_sign_182 fl_X9_41 hm41 rfl rfl ?_
                refine wp_load (pc' := 186) (j := 0) dX9_sign_185 rfl rfl rfl ?_
                refine wp_get (pc' := 189) dX9_sign_186 fl_X9_186 hm41 rfl rfl ?_
                refine wp_load (pc' := 190) (j := 0) dX9_sign_189 rfl rfl rfl ?_
                refine wp_get (pc' := 193) dX9_sign_190 fl_X9_177 hm41 rfl rfl ?_
                refine wp_mia (pc' := 194) hM41 hF41 17 (by decide) (by decide) dX9_sign_193 hs (show n < 30 from hlt) (by decide) rfl (fun G42 hM42 hF42 => ?_)
                obtain ⟨hm42, hA42, -⟩ := id hM42
                refine wp_load (pc' := 195) (j := 0) dX9_sign_194 rfl rfl rfl ?_
                refine wp_get (pc' := 198) dX9_sign_195 fl_X9_44 hm42 rfl rfl ?_
                refine wp_load (pc' := 199) (j := 0) dX9_sign_198 rfl rfl rfl ?_
                refine wp_get (pc' := 202) dX9_sign_199 fl_X9_186 hm42 rfl rfl ?_
                refine wp_load (pc' := 203) (j := 0) dX9_sign_202 rfl rfl rfl ?_
                refine wp_get (pc' := 206) dX9_sign_203 fl_X9_180 hm42 rfl rfl ?_
                refine wp_mia (pc' := 207) hM42 hF42 18 (by decide) (by decide) dX9_sign_206 hs (show n < 30 from hlt) (by decide) rfl (fun G43 hM43 hF43 => ?_)
                obtain ⟨hm43, hA43, -⟩ := id hM43
                refine wp_load (pc' := 208) (j := 0) dX9_sign_207 rfl rfl rfl ?_
                refine wp_get (pc' := 211) dX9_sign_208 fl_X9_47 hm43 rfl rfl ?_
                refine wp_load (pc' := 212) (j := 0) dX9_sign_211 rfl rfl rfl ?_
                refine wp_get (pc' := 215) dX9_sign_212 fl_X9_186 hm43 rfl rfl ?_
                refine wp_load (pc' := 216) (j := 0) dX9_sign_215 rfl rfl rfl ?_
                refine wp_get (pc' := 219) dX9_sign_216 fl_X9_183 hm43 rfl rfl ?_
                refine wp_mia (pc' := 220) hM43 hF43 19 (by decide) (by decide) dX9_sign_219 hs (show n < 30 from hlt) (by decide) rfl (fun G44 hM44 hF44 => ?_)
                obtain ⟨hm44, hA44, -⟩ := id hM44
                refine wp_load (pc' := 221) (j := 0) dX9_sign_220 rfl rfl rfl ?_
                refine wp_get (pc' := 224) dX9_sign_221 fl_X9_50 hm44 rfl rfl ?_
                refine wp_load (pc' := 225) (j := 0) dX9_sign_224 rfl rfl rfl ?_
                refine wp_get (pc' := 228) dX9_sign_225 fl_X9_186 hm44 rfl rfl ?_
                refine wp_load (pc' := 229) (j := 0) dX9_sign_228 rfl rfl rfl ?_
                refine wp_get (pc' := 232) dX9_sign_229 fl_X9_189 hm44 rfl rfl ?_
                refine wp_mia (pc' := 233) hM44 hF44 20 (by decide) (by decide) dX9_sign_232 hs (show n < 30 from hlt) (by decide) rfl (fun G45 hM45 hF45 => ?_)
                obtain ⟨hm45, hA45, -⟩ := id hM45
                refine wp_load (pc' := 234) (j := 0) dX9_sign_233 rfl rfl rfl ?_
                refine wp_get (pc' := 237) dX9_sign_234 fl_X9_53 hm45 rfl rfl ?_
                refine wp_load (pc' := 238) (j := 0) dX9_sign_237 rfl rfl rfl ?_
                refine wp_get (pc' := 241) dX9_sign_238 fl_X9_186 hm45 rfl rfl ?_
                refine wp_ldc (pc' := 243) dX9_sign_241 kw_X9_192 rfl ?_
                refine wp_mia (pc' := 244) hM45 hF45 21 (by decide) (by decide) dX9_sign_243 hs (show n < 30 from hlt) (by decide) rfl (fun G46 hM46 hF46 => ?_)
                obtain ⟨hm46, hA46, -⟩ := id hM46
                refine wp_load (pc' := 245) (j := 0) dX9_sign_244 rfl rfl rfl ?_
                refine wp_v0 0 0 dX9_sign_245 ml_X9_146 hm46 (Nat.le_of_ble_eq_true rfl) (by omega) (by omega) ?_
                refine s_resets hM46 hF46 (fun G47 hM47 hF47 => ?_)
                refine kt_u ?_
                obtain ⟨hm47, hA47, -⟩ := id hM47
                refine wp_load (pc' := 249) (j := 0) dX9_sign_248 rfl rfl rfl ?_
                refine wp_dup (pc' := 250) dX9_sign_249 rfl rfl ?_
                refine wp_get (pc' := 253) dX9_sign_250 fl_X9_186 hm47 rfl rfl ?_
                refine wp_iconst (pc' := 254) (1) dX9_sign_253 rfl rfl ?_
                refine wp_pure (pc' := 255) dX9_sign_254 rfl rfl ?_
                refine wp_mput (pc' := 258) hM47 hF47 dX9_sign_255 fl_X9_186 rfl (by decide) rfl (fun G48 hM48 hF48 => ?_)
                obtain ⟨hm48, hA48, -⟩ := id hM48
                refine wp_load (pc' := 259) (j := 0) dX9_sign_258 rfl rfl rfl ?_
                refine wp_get (pc' := 262) dX9_sign_259 fl_X9_186 hm48 rfl rfl ?_
                refine wp_iconst (pc' := 263) (1) dX9_sign_262 rfl rfl ?_
                refine wp_pure (pc' := 264) dX9_sign_263 rfl rfl ?_
                refine wp_iret dX9_sign_264 rfl rfl ?_
                exact hT (by simp only [mcode, K_sign, h5, h12, h19, h29, h40, h51, h65, Bool.false_eq_true, decide_true, decide_false, Bool.not_true, Bool.not_false, Bool.and_true, Bool.true_and, Bool.and_false, Bool.false_and, Bool.or_true, Bool.true_or, Bool.or_false, Bool.false_or, if_true, if_false, ite_true, ite_false]) hlt _ hM48 hF48

set_option maxRecDepth 20000 in
set_option maxHeartbeats 2000000 in
theorem p_takeDown {E : XE} {d mc ms : Nat} {G : HP} {P : Ps} {m : Nat} {aM own : Nat → Nat} {σ : MS} (hM : MH m aM own σ G) {n : Nat} (hs : σ.1 7 = nI n) (hs30 : n ≤ 30) {i : Int32} (hX : ∀ c G', c = K_takeDown σ i → c ≠ 0 → MH m aM own (msc σ 56 c) G' → Fr1 own G G' → P (.inl none) G') (hT : K_takeDown σ i = 0 → ∀ j, j < n → i = nI j → ∀ G', MH m aM own (mar (zz σ) 21 j (σ.1 0)) G' → Fr1 own G G' → P (.inl none) G') : Sp E (d + 2) yX9_takeDown mc ms [.ref m, .int i] G P := by
  have hF : Fr1 own G G := fr1_rf
  obtain ⟨hm, hA, -⟩ := id hM
  refine sp_intro bd_X9_takeDown (v1_all rfl) (Nat.le_of_ble_eq_true rfl) ?_
  change WX _ _ _ _ _ _ 0 [some (.ref m), some (.int i), none] [] _ 0 0
  refine wp_load (pc' := 1) (j := 1) dX9_takeDown_0 rfl rfl rfl ?_
  refine wp_iconst (pc' := 2) (0) dX9_takeDown_1 rfl rfl ?_
  refine wp_load (pc' := 3) (j := 0) dX9_takeDown_2 rfl rfl rfl ?_
  refine wp_get (pc' := 6) dX9_takeDown_3 fl_X9_186 hm rfl rfl ?_
  refine wp_iconst (pc' := 7) (1) dX9_takeDown_6 rfl rfl ?_
  refine wp_pure (pc' := 8) dX9_takeDown_7 rfl rfl ?_
  refine wp_s3 0 0 dX9_takeDown_8 ml_X9_153 (Nat.le_of_ble_eq_true rfl) (by omega) (by omega) ?_
  refine s_in _ _ _ ?_
  refine kt_v ?_
  rcases hb : inB i 0 (σ.1 7 - 1) with _ | _
  · skip
    refine wp_store (pc' := 12) (j := 2) (ls' := [_, _, _]) dX9_takeDown_11 rfl (Nat.le_of_ble_eq_true rfl) rfl rfl ?_
    refine wp_load (pc' := 13) (j := 0) dX9_takeDown_12 rfl rfl rfl ?_
    refine wp_load (pc' := 14) (j := 2) dX9_takeDown_13 rfl rfl rfl ?_
    refine wp_load (pc' := 15) (j := 2) dX9_takeDown_14 rfl rfl rfl ?_
    refine wp_ifT 41 dX9_takeDown_15 rfl (cmpT rfl) ?_
    refine wp_iconst (pc' := 42) (0) dX9_takeDown_41 rfl rfl ?_
    refine wp_iconst (pc' := 43) (1) dX9_takeDown_42 rfl rfl ?_
    refine wp_v3 0 0 dX9_takeDown_43 ml_X9_167 hm (Nat.le_of_ble_eq_true rfl) (by omega) (by omega) ?_
    refine s_goes hM hF false false true (fun G1 hM1 hF1 => ?_)
    refine kt_v ?_
    obtain ⟨hm1, hA1, -⟩ := id hM1
    refine wp_ifT 59 dX9_takeDown_46 rfl (cmpT rfl) ?_
    refine wp_vret dX9_takeDown_59 rfl ?_
    exact hX _ _ (by simp only [mcode, K_takeDown, hb, Bool.false_eq_true, decide_true, decide_false, Bool.not_true, Bool.not_false, Bool.and_true, Bool.true_and, Bool.and_false, Bool.false_and, Bool.or_true, Bool.true_or, Bool.or_false, Bool.false_or, if_true, if_false, ite_true, ite_false]) (by decide) hM1 hF1
  · skip
    obtain ⟨j, hj, rfl⟩ := clt_nI (n := n) (by rw [← hs]; exact hb) (by omega)
    have hjl : j < 30 := by omega
    have hix : ix (nI j) = j := ix_nI (by omega)
    refine wp_store (pc' := 12) (j := 2) (ls' := [_, _, _]) dX9_takeDown_11 rfl (Nat.le_of_ble_eq_true rfl) rfl rfl ?_
    refine wp_load (pc' := 13) (j := 0) dX9_takeDown_12 rfl rfl rfl ?_
    refine wp_load (pc' := 14) (j := 2) dX9_takeDown_13 rfl rfl rfl ?_
    refine wp_load (pc' := 15) (j := 2) dX9_takeDown_14 rfl rfl rfl ?_
    refine wp_ifF (pc' := 18) 41 dX9_takeDown_15 rfl rfl (cmpF rfl) ?_
    refine wp_load (pc' := 19) (j := 0) dX9_takeDown_18 rfl rfl rfl ?_
    refine wp_get (pc' := 22) dX9_takeDown_19 fl_X9_53 hm rfl rfl ?_
    refine wp_load (pc' := 23) (j := 2) dX9_takeDown_22 rfl rfl rfl ?_
    refine wp_ifF (pc' := 26) 30 dX9_takeDown_23 rfl rfl (cmpF rfl) ?_
    refine wp_load (pc' := 27) (j := 1) dX9_takeDown_26 rfl rfl rfl ?_
    refine wp_goto 31 dX9_takeDown_27 rfl ?_
    refine wp_iald (pc' := 32) dX9_takeDown_31 (hA 21 (by decide)) rfl hjl (by decide) rfl ?_
    refine wp_ldc (pc' := 34) dX9_takeDown_32 kw_X9_193 rfl ?_
    refine wp_icmp_le (pc' := 37) 41 dX9_takeDown_34 rfl rfl (fun h34 => ?_) (fun h34 => ?_)
    · skip
      refine wp_iconst (pc' := 42) (0) dX9_takeDown_41 rfl rfl ?_
      refine wp_iconst (pc' := 43) (1) dX9_takeDown_42 rfl rfl ?_
      refine wp_v3 0 0 dX9_takeDown_43 ml_X9_167 hm (Nat.le_of_ble_eq_true rfl) (by omega) (by omega) ?_
      refine s_goes hM hF true false true (fun G2 hM2 hF2 => ?_)
      refine kt_v ?_
      obtain ⟨hm2, hA2, -⟩ := id hM2
      refine wp_ifT 59 dX9_takeDown_46 rfl (cmpT rfl) ?_
      refine wp_vret dX9_takeDown_59 rfl ?_
      exact hX _ _ (by simp only [mcode, K_takeDown, hix, hb, h34, Bool.false_eq_true, decide_true, decide_false, Bool.not_true, Bool.not_false, Bool.and_true, Bool.true_and, Bool.and_false, Bool.false_and, Bool.or_true, Bool.true_or, Bool.or_false, Bool.false_or, if_true, if_false, ite_true, ite_false]) (by decide) hM2 hF2
    · skip
      refine wp_iconst (pc' := 38) (1) dX9_takeDown_37 rfl rfl ?_
      refine wp_goto 42 dX9_takeDown_38 rfl ?_
      refine wp_iconst (pc' := 43) (1) dX9_takeDown_42 rfl rfl ?_
      refine wp_v3 0 0 dX9_takeDown_43 ml_X9_167 hm (Nat.le_of_ble_eq_true rfl) (by omega) (by omega) ?_
      refine s_goes hM hF true true true (fun G3 hM3 hF3 => ?_)
      refine kt_v ?_
      obtain ⟨hm3, hA3, -⟩ := id hM3
      refine wp_ifF (pc' := 49) 59 dX9_takeDown_46 rfl rfl (cmpF rfl) ?_
      refine wp_load (pc' := 50) (j := 0) dX9_takeDown_49 rfl rfl rfl ?_
      refine wp_get (pc' := 53) dX9_takeDown_50 fl_X9_53 hm3 rfl rfl ?_
      refine wp_load (pc' := 54) (j := 1) dX9_takeDown_53 rfl rfl rfl ?_
      refine wp_load (pc' := 55) (j := 0) dX9_takeDown_54 rfl rfl rfl ?_
      refine wp_get (pc' := 58) dX9_takeDown_55 fl_X9_189 hm3 rfl rfl ?_
      refine wp_mia (pc' := 59) hM3 hF3 21 (by decide) (by decide) dX9_takeDown_58 rfl hjl (by decide) rfl (fun G4 hM4 hF4 => ?_)
      obtain ⟨hm4, hA4, -⟩ := id hM4
      refine wp_vret dX9_takeDown_59 rfl ?_
      exact hT (by simp only [mcode, K_takeDown, hix, hb, h34, Bool.false_eq_true, decide_true, decide_false, Bool.not_true, Bool.not_false, Bool.and_true, Bool.true_and, Bool.and_false, Bool.false_and, Bool.or_true, Bool.true_or, Bool.or_false, Bool.false_or, if_true, if_false, ite_true, ite_false]) j hj rfl _ hM4 hF4

set_option maxRecDepth 20000 in
set_option maxHeartbeats 2000000 in
theorem p_rule {E : XE} {d mc ms : Nat} {G : HP} {P : Ps} {m : Nat} {aM own : Nat → Nat} {σ : MS} (hM : MH m aM own σ G) {n : Nat} (hs : σ.1 7 = nI n) (hs30 : n ≤ 30) {s mt q : Int32} (hX : ∀ c G', c = K_rule s mt q → c ≠ 0 → MH m aM own (msc σ 56 c) G' → Fr1 own G G' → P (.inl (some (.int 0))) G') (hT : K_rule s mt q = 0 → ∀ G', MH m aM own (zz σ) G' → Fr1 own G G' → P (.inl (some (.int (roI (ruleO (zz σ) s mt q n))))) G') : Sp E (d + 4) yX9_rule mc ms [.ref m, .int s, .int mt, .int q] G P := by
  have hF : Fr1 own G G := fr1_rf
  obtain ⟨hm, hA, -⟩ := id hM
  refine sp_intro bd_X9_rule (v1_all rfl) (Nat.le_of_ble_eq_true rfl) ?_
  change WX _ _ _ _ _ _ 0 [some (.ref m), some (.int s), some (.int mt), some (.int q)] [] _ 0 0
  refine wp_load (pc' := 1) (j := 0) dX9_rule_0 rfl rfl rfl ?_
  refine wp_load (pc' := 2) (j := 1) dX9_rule_1 rfl rfl rfl ?_
  refine wp_s1 0 0 dX9_rule_2 ml_X9_160 (Nat.le_of_ble_eq_true rfl) (by omega) (by omega) ?_
  refine s_isStreet _ ?_
  refine kt_v ?_
  refine wp_ifeqB (pc' := 8) 19 dX9_rule_5 rfl rfl (fun h5 => ?_) (fun h5 => ?_)
  · skip
    refine wp_iconst (pc' := 20) (0) dX9_rule_19 rfl rfl ?_
    refine wp_load (pc' := 21) (j := 3) dX9_rule_20 rfl rfl rfl ?_
    refine wp_iconst (pc' := 22) (0) dX9_rule_21 rfl rfl ?_
    refine wp_ldc (pc' := 24) dX9_rule_22 kw_X9_193 rfl ?_
    refine wp_s3 0 0 dX9_rule_24 ml_X9_153 (Nat.le_of_ble_eq_true rfl) (by omega) (by omega) ?_
    refine s_in _ _ _ ?_
    refine kt_v ?_
    rcases hb2 : inB q 0 49999 with _ | _
    · skip
      refine wp_iconst (pc' := 28) (1) dX9_rule_27 rfl rfl ?_
      refine wp_v3 0 0 dX9_rule_28 ml_X9_167 hm (Nat.le_of_ble_eq_true rfl) (by omega) (by omega) ?_
      refine s_goes hM hF false false true (fun G1 hM1 hF1 => ?_)
      refine kt_v ?_
      obtain ⟨hm1, hA1, -⟩ := id hM1
      refine wp_ifT 44 dX9_rule_31 rfl (cmpT rfl) ?_
      refine wp_iconst (pc' := 45) (0) dX9_rule_44 rfl rfl ?_
      refine wp_iret dX9_rule_45 rfl rfl ?_
      exact hX _ _ (by simp only [mcode, K_rule, h5, hb2, Bool.false_eq_true, decide_true, decide_false, Bool.not_true, Bool.not_false, Bool.and_true, Bool.true_and, Bool.and_false, Bool.false_and, Bool.or_true, Bool.true_or, Bool.or_false, Bool.false_or, if_true, if_false, ite_true, ite_false]) (by decide) hM1 hF1
    · skip
      refine wp_iconst (pc' := 28) (1) dX9_rule_27 rfl rfl ?_
      refine wp_v3 0 0 dX9_rule_28 ml_X9_167 hm (Nat.le_of_ble_eq_true rfl) (by omega) (by omega) ?_
      refine s_goes hM hF false true true (fun G2 hM2 hF2 => ?_)
      refine kt_v ?_
      obtain ⟨hm2, hA2, -⟩ := id hM2
      refine wp_ifT 44 dX9_rule_31 rfl (cmpT rfl) ?_
      refine wp_iconst (pc' := 45) (0) dX9_rule_44 rfl rfl ?_
      refine wp_iret dX9_rule_45 rfl rfl ?_
      exact hX _ _ (by simp only [mcode, K_rule, h5, hb2, Bool.false_eq_true, decide_true, decide_false, Bool.not_true, Bool.not_false, Bool.and_true, Bool.true_and, Bool.and_false, Bool.false_and, Bool.or_true, Bool.true_or, Bool.or_false, Bool.false_or, if_true, if_false, ite_true, ite_false]) (by decide) hM2 hF2
  · skip
    refine wp_load (pc' := 9) (j := 2) dX9_rule_8 rfl rfl rfl ?_
    refine wp_s1 0 0 dX9_rule_9 ml_X9_164 (Nat.le_of_ble_eq_true rfl) (by omega) (by omega) ?_
    refine s_isMetre _ ?_
    refine kt_v ?_
    refine wp_ifeqB (pc' := 15) 19 dX9_rule_12 rfl rfl (fun h12 => ?_) (fun h12 => ?_)
    · skip
      refine wp_iconst (pc' := 20) (0) dX9_rule_19 rfl rfl ?_
      refine wp_load (pc' := 21) (j := 3) dX9_rule_20 rfl rfl rfl ?_
      refine wp_iconst (pc' := 22) (0) dX9_rule_21 rfl rfl ?_
      refine wp_ldc (pc' := 24) dX9_rule_22 kw_X9_193 rfl ?_
      refine wp_s3 0 0 dX9_rule_24 ml_X9_153 (Nat.le_of_ble_eq_true rfl) (by omega) (by omega) ?_
      refine s_in _ _ _ ?_
      refine kt_v ?_
      rcases hb2 : inB q 0 49999 with _ | _
      · skip
        refine wp_iconst (pc' := 28) (1) dX9_rule_27 rfl rfl ?_
        refine wp_v3 0 0 dX9_rule_28 ml_X9_167 hm (Nat.le_of_ble_eq_true rfl) (by omega) (by omega) ?_
        refine s_goes hM hF false false true (fun G3 hM3 hF3 => ?_)
        refine kt_v ?_
        obtain ⟨hm3, hA3, -⟩ := id hM3
        refine wp_ifT 44 dX9_rule_31 rfl (cmpT rfl) ?_
        refine wp_iconst (pc' := 45) (0) dX9_rule_44 rfl rfl ?_
        refine wp_iret dX9_rule_45 rfl rfl ?_
        exact hX _ _ (by simp only [mcode, K_rule, h5, h12, hb2, Bool.false_eq_true, decide_true, decide_false, Bool.not_true, Bool.not_false, Bool.and_true, Bool.true_and, Bool.and_false, Bool.false_and, Bool.or_true, Bool.true_or, Bool.or_false, Bool.false_or, if_true, if_false, ite_true, ite_false]) (by decide) hM3 hF3
      · skip
        refine wp_iconst (pc' := 28) (1) dX9_rule_27 rfl rfl ?_
        refine wp_v3 0 0 dX9_rule_28 ml_X9_167 hm (Nat.le_of_ble_eq_true rfl) (by omega) (by omega) ?_
        refine s_goes hM hF false true true (fun G4 hM4 hF4 => ?_)
        refine kt_v ?_
        obtain ⟨hm4, hA4, -⟩ := id hM4
        refine wp_ifT 44 dX9_rule_31 rfl (cmpT rfl) ?_
        refine wp_iconst (pc' := 45) (0) dX9_rule_44 rfl rfl ?_
        refine wp_iret dX9_rule_45 rfl rfl ?_
        exact hX _ _ (by simp only [mcode, K_rule, h5, h12, hb2, Bool.false_eq_true, decide_true, decide_false, Bool.not_true, Bool.not_false, Bool.and_true, Bool.true_and, Bool.and_false, Bool.false_and, Bool.or_true, Bool.true_or, Bool.or_false, Bool.false_or, if_true, if_false, ite_true, ite_false]) (by decide) hM4 hF4
    · skip
      refine wp_iconst (pc' := 16) (1) dX9_rule_15 rfl rfl ?_
      refine wp_goto 20 dX9_rule_16 rfl ?_
      refine wp_load (pc' := 21) (j := 3) dX9_rule_20 rfl rfl rfl ?_
      refine wp_iconst (pc' := 22) (0) dX9_rule_21 rfl rfl ?_
      refine wp_ldc (pc' := 24) dX9_rule_22 kw_X9_193 rfl ?_
      refine wp_s3 0 0 dX9_rule_24 ml_X9_153 (Nat.le_of_ble_eq_true rfl) (by omega) (by omega) ?_
      refine s_in _ _ _ ?_
      refine kt_v ?_
      rcases hb2 : inB q 0 49999 with _ | _
      · skip
        refine wp_iconst (pc' := 28) (1) dX9_rule_27 rfl rfl ?_
        refine wp_v3 0 0 dX9_rule_28 ml_X9_167 hm (Nat.le_of_ble_eq_true rfl) (by omega) (by omega) ?_
        refine s_goes hM hF true false true (fun G5 hM5 hF5 => ?_)
        refine kt_v ?_
        obtain ⟨hm5, hA5, -⟩ := id hM5
        refine wp_ifT 44 dX9_rule_31 rfl (cmpT rfl) ?_
        refine wp_iconst (pc' := 45) (0) dX9_rule_44 rfl rfl ?_
        refine wp_iret dX9_rule_45 rfl rfl ?_
        exact hX _ _ (by simp only [mcode, K_rule, h5, h12, hb2, Bool.false_eq_true, decide_true, decide_false, Bool.not_true, Bool.not_false, Bool.and_true, Bool.true_and, Bool.and_false, Bool.false_and, Bool.or_true, Bool.true_or, Bool.or_false, Bool.false_or, if_true, if_false, ite_true, ite_false]) (by decide) hM5 hF5
      · skip
        refine wp_iconst (pc' := 28) (1) dX9_rule_27 rfl rfl ?_
        refine wp_v3 0 0 dX9_rule_28 ml_X9_167 hm (Nat.le_of_ble_eq_true rfl) (by omega) (by omega) ?_
        refine s_goes hM hF true true true (fun G6 hM6 hF6 => ?_)
        refine kt_v ?_
        obtain ⟨hm6, hA6, -⟩ := id hM6
        refine wp_ifF (pc' := 34) 44 dX9_rule_31 rfl rfl (cmpF rfl) ?_
        refine wp_load (pc' := 35) (j := 0) dX9_rule_34 rfl rfl rfl ?_
        refine wp_load (pc' := 36) (j := 1) dX9_rule_35 rfl rfl rfl ?_
        refine wp_load (pc' := 37) (j := 2) dX9_rule_36 rfl rfl rfl ?_
        refine wp_load (pc' := 38) (j := 3) dX9_rule_37 rfl rfl rfl ?_
        refine wp_v3 0 0 dX9_rule_38 ml_X9_205 hm6 (Nat.le_of_ble_eq_true rfl) (by omega) (by omega) ?_
        refine s_ruleAt hM6 hs hs30 _ _ _ ?_
        refine kt_v ?_
        refine wp_goto 45 dX9_rule_41 rfl ?_
        refine wp_iret dX9_rule_45 rfl rfl ?_
        exact hT (by simp only [mcode, K_rule, h5, h12, hb2, Bool.false_eq_true, decide_true, decide_false, Bool.not_true, Bool.not_false, Bool.and_true, Bool.true_and, Bool.and_false, Bool.false_and, Bool.or_true, Bool.true_or, Bool.or_false, Bool.false_or, if_true, if_false, ite_true, ite_false]) _ hM6 hF6

set_option maxRecDepth 20000 in
set_option maxHeartbeats 2000000 in
theorem p_ruleAnew {E : XE} {d mc ms : Nat} {G : HP} {P : Ps} {m : Nat} {aM own : Nat → Nat} {σ : MS} (hM : MH m aM own σ G) {n : Nat} (hs : σ.1 7 = nI n) (hs30 : n ≤ 30) {s mt q : Int32} (hX : ∀ c G', c = K_rule s mt q → c ≠ 0 → MH m aM own (msc σ 56 c) G' → Fr1 own G G' → P (.inl (some (.int 0))) G') (hT : K_rule s mt q = 0 → ∀ G', MH m aM own (zz σ) G' → Fr1 own G G' → P (.inl (some (.int (roI (ruleO (zz σ) s mt q n))))) G') : Sp E (d + 5) yX9_ruleAnew mc ms [.ref m, .int s, .int mt, .int q] G P := by
  have hF : Fr1 own G G := fr1_rf
  obtain ⟨hm, hA, -⟩ := id hM
  refine sp_intro bd_X9_ruleAnew (v1_all rfl) (Nat.le_of_ble_eq_true rfl) ?_
  change WX _ _ _ _ _ _ 0 [some (.ref m), some (.int s), some (.int mt), some (.int q)] [] _ 0 0
  refine wp_load (pc' := 1) (j := 0) dX9_ruleAnew_0 rfl rfl rfl ?_
  refine wp_load (pc' := 2) (j := 1) dX9_ruleAnew_1 rfl rfl rfl ?_
  refine wp_load (pc' := 3) (j := 2) dX9_ruleAnew_2 rfl rfl rfl ?_
  refine wp_load (pc' := 4) (j := 3) dX9_ruleAnew_3 rfl rfl rfl ?_
  refine wp_v3 0 0 dX9_ruleAnew_4 ml_X9_209 hm (Nat.le_of_ble_eq_true rfl) (by omega) (by omega) ?_
  refine p_rule hM hs hs30 (fun c G1 h1 h2 h3 h4 => ?_) (fun h1 G1 h3 h4 => ?_)
  · refine kt_v ?_
    exact wp_iret dX9_ruleAnew_7 rfl rfl (hX c G1 h1 h2 h3 h4)
  · refine kt_v ?_
    exact wp_iret dX9_ruleAnew_7 rfl rfl (hT h1 G1 h3 h4)

set_option maxRecDepth 20000 in
set_option maxHeartbeats 2000000 in
theorem p_car {E : XE} {d mc ms : Nat} {G : HP} {P : Ps} {m : Nat} {aM own : Nat → Nat} {σ : MS} (hM : MH m aM own σ G) {nc : Nat} (hc : σ.1 22 = nI nc) (hc30 : nc ≤ 30) {l u : Int32} (hX : ∀ c G', c = K_car σ l u → c ≠ 0 → MH m aM own (msc σ 56 c) G' → Fr1 own G G' → P (.inl (some (.int 0))) G') (hT : K_car σ l u = 0 → nc < 30 → ∀ G', MH m aM own (carF σ nc l u) G' → Fr1 own G G' → P (.inl (some (.int (σ.1 22 + 1 - 1)))) G') : Sp E (d + 2) yX9_car mc ms [.ref m, .int l, .int u] G P := by
  have hF : Fr1 own G G := fr1_rf
  obtain ⟨hm, hA, -⟩ := id hM
  refine sp_intro bd_X9_car (v1_all rfl) (Nat.le_of_ble_eq_true rfl) ?_
  change WX _ _ _ _ _ _ 0 [some (.ref m), some (.int l), some (.int u)] [] _ 0 0
  refine wp_load (pc' := 1) (j := 0) dX9_car_0 rfl rfl rfl ?_
  refine wp_load (pc' := 2) (j := 1) dX9_car_1 rfl rfl rfl ?_
  refine wp_iconst (pc' := 3) (3) dX9_car_2 rfl rfl ?_
  refine wp_bipush (pc' := 5) (12) dX9_car_3 rfl rfl ?_
  refine wp_s3 0 0 dX9_car_5 ml_X9_153 (Nat.le_of_ble_eq_true rfl) (by omega) (by omega) ?_
  refine s_in _ _ _ ?_
  refine kt_v ?_
  refine wp_ifeqB (pc' := 11) 24 dX9_car_8 rfl rfl (fun h8 => ?_) (fun h8 => ?_)
  · skip
    refine wp_iconst (pc' := 25) (0) dX9_car_24 rfl rfl ?_
    refine wp_load (pc' := 26) (j := 0) dX9_car_25 rfl rfl rfl ?_
    refine wp_get (pc' := 29) dX9_car_26 fl_X9_157 hm rfl rfl ?_
    refine wp_bipush (pc' := 31) (30) dX9_car_29 rfl rfl ?_
    refine wp_icmp_ge (pc' := 34) 38 dX9_car_31 rfl rfl (fun h31 => ?_) (fun h31 => ?_)
    · skip
      refine wp_iconst (pc' := 39) (0) dX9_car_38 rfl rfl ?_
      refine wp_iconst (pc' := 40) (1) dX9_car_39 rfl rfl ?_
      refine wp_v3 0 0 dX9_car_40 ml_X9_167 hm (Nat.le_of_ble_eq_true rfl) (by omega) (by omega) ?_
      refine s_goes hM hF false false true (fun G1 hM1 hF1 => ?_)
      refine kt_v ?_
      obtain ⟨hm1, hA1, -⟩ := id hM1
      refine wp_ifF (pc' := 46) 48 dX9_car_43 rfl rfl (cmpF rfl) ?_
      refine wp_iconst (pc' := 47) (0) dX9_car_46 rfl rfl ?_
      refine wp_iret dX9_car_47 rfl rfl ?_
      exact hX _ _ (by simp only [mcode, K_car, h8, h31, Bool.false_eq_true, decide_true, decide_false, Bool.not_true, Bool.not_false, Bool.and_true, Bool.true_and, Bool.and_false, Bool.false_and, Bool.or_true, Bool.true_or, Bool.or_false, Bool.false_or, if_true, if_false, ite_true, ite_false]) (by decide) hM1 hF1
    · skip
      refine wp_iconst (pc' := 35) (1) dX9_car_34 rfl rfl ?_
      refine wp_goto 39 dX9_car_35 rfl ?_
      refine wp_iconst (pc' := 40) (1) dX9_car_39 rfl rfl ?_
      refine wp_v3 0 0 dX9_car_40 ml_X9_167 hm (Nat.le_of_ble_eq_true rfl) (by omega) (by omega) ?_
      refine s_goes hM hF false true true (fun G2 hM2 hF2 => ?_)
      refine kt_v ?_
      obtain ⟨hm2, hA2, -⟩ := id hM2
      refine wp_ifF (pc' := 46) 48 dX9_car_43 rfl rfl (cmpF rfl) ?_
      refine wp_iconst (pc' := 47) (0) dX9_car_46 rfl rfl ?_
      refine wp_iret dX9_car_47 rfl rfl ?_
      exact hX _ _ (by simp only [mcode, K_car, h8, h31, Bool.false_eq_true, decide_true, decide_false, Bool.not_true, Bool.not_false, Bool.and_true, Bool.true_and, Bool.and_false, Bool.false_and, Bool.or_true, Bool.true_or, Bool.or_false, Bool.false_or, if_true, if_false, ite_true, ite_false]) (by decide) hM2 hF2
  · skip
    refine wp_load (pc' := 12) (j := 2) dX9_car_11 rfl rfl rfl ?_
    refine wp_iconst (pc' := 13) (0) dX9_car_12 rfl rfl ?_
    refine wp_iconst (pc' := 14) (4) dX9_car_13 rfl rfl ?_
    refine wp_s3 0 0 dX9_car_14 ml_X9_153 (Nat.le_of_ble_eq_true rfl) (by omega) (by omega) ?_
    refine s_in _ _ _ ?_
    refine kt_v ?_
    refine wp_ifeqB (pc' := 20) 24 dX9_car_17 rfl rfl (fun h17 => ?_) (fun h17 => ?_)
    · skip
      refine wp_iconst (pc' := 25) (0) dX9_car_24 rfl rfl ?_
      refine wp_load (pc' := 26) (j := 0) dX9_car_25 rfl rfl rfl ?_
      refine wp_get (pc' := 29) dX9_car_26 fl_X9_157 hm rfl rfl ?_
      refine wp_bipush (pc' := 31) (30) dX9_car_29 rfl rfl ?_
      refine wp_icmp_ge (pc' := 34) 38 dX9_car_31 rfl rfl (fun h31 => ?_) (fun h31 => ?_)
      · skip
        refine wp_iconst (pc' := 39) (0) dX9_car_38 rfl rfl ?_
        refine wp_iconst (pc' := 40) (1) dX9_car_39 rfl rfl ?_
        refine wp_v3 0 0 dX9_car_40 ml_X9_167 hm (Nat.le_of_ble_eq_true rfl) (by omega) (by omega) ?_
        refine s_goes hM hF false false true (fun G3 hM3 hF3 => ?_)
        refine kt_v ?_
        obtain ⟨hm3, hA3, -⟩ := id hM3
        refine wp_ifF (pc' := 46) 48 dX9_car_43 rfl rfl (cmpF rfl) ?_
        refine wp_iconst (pc' := 47) (0) dX9_car_46 rfl rfl ?_
        refine wp_iret dX9_car_47 rfl rfl ?_
        exact hX _ _ (by simp only [mcode, K_car, h8, h17, h31, Bool.false_eq_true, decide_true, decide_false, Bool.not_true, Bool.not_false, Bool.and_true, Bool.true_and, Bool.and_false, Bool.false_and, Bool.or_true, Bool.true_or, Bool.or_false, Bool.false_or, if_true, if_false, ite_true, ite_false]) (by decide) hM3 hF3
      · skip
        refine wp_iconst (pc' := 35) (1) dX9_car_34 rfl rfl ?_
        refine wp_goto 39 dX9_car_35 rfl ?_
        refine wp_iconst (pc' := 40) (1) dX9_car_39 rfl rfl ?_
        refine wp_v3 0 0 dX9_car_40 ml_X9_167 hm (Nat.le_of_ble_eq_true rfl) (by omega) (by omega) ?_
        refine s_goes hM hF false true true (fun G4 hM4 hF4 => ?_)
        refine kt_v ?_
        obtain ⟨hm4, hA4, -⟩ := id hM4
        refine wp_ifF (pc' := 46) 48 dX9_car_43 rfl rfl (cmpF rfl) ?_
        refine wp_iconst (pc' := 47) (0) dX9_car_46 rfl rfl ?_
        refine wp_iret dX9_car_47 rfl rfl ?_
        exact hX _ _ (by simp only [mcode, K_car, h8, h17, h31, Bool.false_eq_true, decide_true, decide_false, Bool.not_true, Bool.not_false, Bool.and_true, Bool.true_and, Bool.and_false, Bool.false_and, Bool.or_true, Bool.true_or, Bool.or_false, Bool.false_or, if_true, if_false, ite_true, ite_false]) (by decide) hM4 hF4
    · skip
      refine wp_iconst (pc' := 21) (1) dX9_car_20 rfl rfl ?_
      refine wp_goto 25 dX9_car_21 rfl ?_
      refine wp_load (pc' := 26) (j := 0) dX9_car_25 rfl rfl rfl ?_
      refine wp_get (pc' := 29) dX9_car_26 fl_X9_157 hm rfl rfl ?_
      refine wp_bipush (pc' := 31) (30) dX9_car_29 rfl rfl ?_
      refine wp_icmp_ge (pc' := 34) 38 dX9_car_31 rfl rfl (fun h31 => ?_) (fun h31 => ?_)
      · skip
        refine wp_iconst (pc' := 39) (0) dX9_car_38 rfl rfl ?_
        refine wp_iconst (pc' := 40) (1) dX9_car_39 rfl rfl ?_
        refine wp_v3 0 0 dX9_car_40 ml_X9_167 hm (Nat.le_of_ble_eq_true rfl) (by omega) (by omega) ?_
        refine s_goes hM hF true false true (fun G5 hM5 hF5 => ?_)
        refine kt_v ?_
        obtain ⟨hm5, hA5, -⟩ := id hM5
        refine wp_ifF (pc' := 46) 48 dX9_car_43 rfl rfl (cmpF rfl) ?_
        refine wp_iconst (pc' := 47) (0) dX9_car_46 rfl rfl ?_
        refine wp_iret dX9_car_47 rfl rfl ?_
        exact hX _ _ (by simp only [mcode, K_car, h8, h17, h31, Bool.false_eq_true, decide_true, decide_false, Bool.not_true, Bool.not_false, Bool.and_true, Bool.true_and, Bool.and_false, Bool.false_and, Bool.or_true, Bool.true_or, Bool.or_false, Bool.false_or, if_true, if_false, ite_true, ite_false]) (by decide) hM5 hF5
      · skip
        refine wp_iconst (pc' := 35) (1) dX9_car_34 rfl rfl ?_
        refine wp_goto 39 dX9_car_35 rfl ?_
        refine wp_iconst (pc' := 40) (1) dX9_car_39 rfl rfl ?_
        refine wp_v3 0 0 dX9_car_40 ml_X9_167 hm (Nat.le_of_ble_eq_true rfl) (by omega) (by omega) ?_
        refine s_goes hM hF true true true (fun G6 hM6 hF6 => ?_)
        refine kt_v ?_
        obtain ⟨hm6, hA6, -⟩ := id hM6
        refine wp_ifT 48 dX9_car_43 rfl (cmpT rfl) ?_
        have hlt : nc < 30 := by
          rw [hc] at h31
          rcases Nat.lt_or_ge nc 30 with q | q
          · exact q
          · exact absurd (show (30 : Int32) ≤ nI nc from nI_le q (by omega)) h31
        refine wp_load (pc' := 49) (j := 0) dX9_car_48 rfl rfl rfl ?_
        refine wp_get (pc' := 52) dX9_car_49 fl_X9_56 hm6 rfl rfl ?_
        refine wp_load (pc' := 53) (j := 0) dX9_car_52 rfl rfl rfl ?_
        refine wp_get (pc' := 56) dX9_car_53 fl_X9_157 hm6 rfl rfl ?_
        refine wp_load (pc' := 57) (j := 1) dX9_car_56 rfl rfl rfl ?_
        refine wp_mia (pc' := 58) hM6 hF6 23 (by decide) (by decide) dX9_car_57 hc (show nc < 30 from hlt) (by decide) rfl (fun G7 hM7 hF7 => ?_)
        obtain ⟨hm7, hA7, -⟩ := id hM7
        refine wp_load (pc' := 59) (j := 0) dX9_car_58 rfl rfl rfl ?_
        refine wp_get (pc' := 62) dX9_car_59 fl_X9_59 hm7 rfl rfl ?_
        refine wp_load (pc' := 63) (j := 0) dX9_car_62 rfl rfl rfl ?_
        refine wp_get (pc' := 66) dX9_car_63 fl_X9_157 hm7 rfl rfl ?_
        refine wp_load (pc' := 67) (j := 2) dX9_car_66 rfl rfl rfl ?_
        refine wp_mia (pc' := 68) hM7 hF7 24 (by decide) (by decide) dX9_car_67 hc (show nc < 30 from hlt) (by decide) rfl (fun G8 hM8 hF8 => ?_)
        obtain ⟨hm8, hA8, -⟩ := id hM8
        refine wp_load (pc' := 69) (j := 0) dX9_car_68 rfl rfl rfl ?_
        refine wp_get (pc' := 72) dX9_car_69 fl_X9_62 hm8 rfl rfl ?_
        refine wp_load (pc' := 73) (j := 0) dX9_car_72 rfl rfl rfl ?_
        refine wp_get (pc' := 76) dX9_car_73 fl_X9_157 hm8 rfl rfl ?_
        refine wp_iconst (pc' := 77) (-1) dX9_car_76 rfl rfl ?_
        refine wp_mia (pc' := 78) hM8 hF8 25 (by decide) (by decide) dX9_car_77 hc (show nc < 30 from hlt) (by decide) rfl (fun G9 hM9 hF9 => ?_)
        obtain ⟨hm9, hA9, -⟩ := id hM9
        refine wp_load (pc' := 79) (j := 0) dX9_car_78 rfl rfl rfl ?_
        refine wp_dup (pc' := 80) dX9_car_79 rfl rfl ?_
        refine wp_get (pc' := 83) dX9_car_80 fl_X9_157 hm9 rfl rfl ?_
        refine wp_iconst (pc' := 84) (1) dX9_car_83 rfl rfl ?_
        refine wp_pure (pc' := 85) dX9_car_84 rfl rfl ?_
        refine wp_mput (pc' := 88) hM9 hF9 dX9_car_85 fl_X9_157 rfl (by decide) rfl (fun G10 hM10 hF10 => ?_)
        obtain ⟨hm10, hA10, -⟩ := id hM10
        refine wp_load (pc' := 89) (j := 0) dX9_car_88 rfl rfl rfl ?_
        refine wp_get (pc' := 92) dX9_car_89 fl_X9_157 hm10 rfl rfl ?_
        refine wp_iconst (pc' := 93) (1) dX9_car_92 rfl rfl ?_
        refine wp_pure (pc' := 94) dX9_car_93 rfl rfl ?_
        refine wp_iret dX9_car_94 rfl rfl ?_
        exact hT (by simp only [mcode, K_car, h8, h17, h31, Bool.false_eq_true, decide_true, decide_false, Bool.not_true, Bool.not_false, Bool.and_true, Bool.true_and, Bool.and_false, Bool.false_and, Bool.or_true, Bool.true_or, Bool.or_false, Bool.false_or, if_true, if_false, ite_true, ite_false]) hlt _ hM10 hF10

set_option maxRecDepth 20000 in
set_option maxHeartbeats 2000000 in
theorem p_permit {E : XE} {d mc ms : Nat} {G : HP} {P : Ps} {m : Nat} {aM own : Nat → Nat} {σ : MS} (hM : MH m aM own σ G) {np : Nat} (hp : σ.1 29 = nI np) (hp40 : np ≤ 40) {i s h f t : Int32} (hX : ∀ c G', c = K_permit σ np i s h f t → c ≠ 0 → MH m aM own (msc σ 56 c) G' → Fr1 own G G' → P (.inl (some (.int 0))) G') (hT : K_permit σ np i s h f t = 0 → np < 40 → ∀ G', MH m aM own (perF σ np i s h f t) G' → Fr1 own G G' → P (.inl (some (.int (σ.1 29 + 1 - 1)))) G') : Sp E (d + 4) yX9_permit mc ms [.ref m, .int i, .int s, .int h, .int f, .int t] G P := by
  have hF : Fr1 own G G := fr1_rf
  obtain ⟨hm, hA, -⟩ := id hM
  refine sp_intro bd_X9_permit (v1_all rfl) (Nat.le_of_ble_eq_true rfl) ?_
  change WX _ _ _ _ _ _ 0 [some (.ref m), some (.int i), some (.int s), some (.int h), some (.int f), some (.int t), none] [] _ 0 0
  refine wp_load (pc' := 2) (j := 4) dX9_permit_0 rfl rfl rfl ?_
  refine wp_iconst (pc' := 3) (0) dX9_permit_2 rfl rfl ?_
  refine wp_sipush (pc' := 6) (520) dX9_permit_3 rfl rfl ?_
  refine wp_s3 0 0 dX9_permit_6 ml_X9_153 (Nat.le_of_ble_eq_true rfl) (by omega) (by omega) ?_
  refine s_in _ _ _ ?_
  refine kt_v ?_
  refine wp_ifeqB (pc' := 12) 29 dX9_permit_9 rfl rfl (fun h9 => ?_) (fun h9 => ?_)
  · skip
    refine wp_iconst (pc' := 30) (0) dX9_permit_29 rfl rfl ?_
    refine wp_store (pc' := 32) (j := 6) (ls' := [_, _, _, _, _, _, _]) dX9_permit_30 rfl (Nat.le_of_ble_eq_true rfl) rfl rfl ?_
    refine wp_load (pc' := 33) (j := 0) dX9_permit_32 rfl rfl rfl ?_
    refine wp_load (pc' := 34) (j := 0) dX9_permit_33 rfl rfl rfl ?_
    refine wp_load (pc' := 35) (j := 1) dX9_permit_34 rfl rfl rfl ?_
    refine wp_v1 0 0 dX9_permit_35 ml_X9_219 hm (Nat.le_of_ble_eq_true rfl) (by omega) (by omega) ?_
    refine s_isCar hM _ ?_
    refine kt_v ?_
    refine wp_ifeqB (pc' := 41) 62 dX9_permit_38 rfl rfl (fun h38 => ?_) (fun h38 => ?_)
    · skip
      refine wp_iconst (pc' := 63) (0) dX9_permit_62 rfl rfl ?_
      refine wp_load (pc' := 65) (j := 6) dX9_permit_63 rfl rfl rfl ?_
      refine wp_load (pc' := 66) (j := 0) dX9_permit_65 rfl rfl rfl ?_
      refine wp_get (pc' := 69) dX9_permit_66 fl_X9_212 hm rfl rfl ?_
      refine wp_bipush (pc' := 71) (40) dX9_permit_69 rfl rfl ?_
      refine wp_icmp_ge (pc' := 74) 95 dX9_permit_71 rfl rfl (fun h71 => ?_) (fun h71 => ?_)
      · skip
        refine wp_iconst (pc' := 96) (0) dX9_permit_95 rfl rfl ?_
        refine wp_v3 0 0 dX9_permit_96 ml_X9_167 hm (Nat.le_of_ble_eq_true rfl) (by omega) (by omega) ?_
        refine s_goes hM hF false false false (fun G1 hM1 hF1 => ?_)
        refine kt_v ?_
        obtain ⟨hm1, hA1, -⟩ := id hM1
        refine wp_ifF (pc' := 102) 104 dX9_permit_99 rfl rfl (cmpF rfl) ?_
        refine wp_iconst (pc' := 103) (0) dX9_permit_102 rfl rfl ?_
        refine wp_iret dX9_permit_103 rfl rfl ?_
        exact hX _ _ (by simp only [mcode, K_permit, h9, h38, h71, Bool.false_eq_true, decide_true, decide_false, Bool.not_true, Bool.not_false, Bool.and_true, Bool.true_and, Bool.and_false, Bool.false_and, Bool.or_true, Bool.true_or, Bool.or_false, Bool.false_or, if_true, if_false, ite_true, ite_false]) (by decide) hM1 hF1
      · skip
        refine wp_load (pc' := 76) (j := 6) dX9_permit_74 rfl rfl rfl ?_
        refine wp_ifT 95 dX9_permit_76 rfl (cmpT rfl) ?_
        refine wp_iconst (pc' := 96) (0) dX9_permit_95 rfl rfl ?_
        refine wp_v3 0 0 dX9_permit_96 ml_X9_167 hm (Nat.le_of_ble_eq_true rfl) (by omega) (by omega) ?_
        refine s_goes hM hF false false false (fun G2 hM2 hF2 => ?_)
        refine kt_v ?_
        obtain ⟨hm2, hA2, -⟩ := id hM2
        refine wp_ifF (pc' := 102) 104 dX9_permit_99 rfl rfl (cmpF rfl) ?_
        refine wp_iconst (pc' := 103) (0) dX9_permit_102 rfl rfl ?_
        refine wp_iret dX9_permit_103 rfl rfl ?_
        exact hX _ _ (by simp only [mcode, K_permit, h9, h38, h71, Bool.false_eq_true, decide_true, decide_false, Bool.not_true, Bool.not_false, Bool.and_true, Bool.true_and, Bool.and_false, Bool.false_and, Bool.or_true, Bool.true_or, Bool.or_false, Bool.false_or, if_true, if_false, ite_true, ite_false]) (by decide) hM2 hF2
    · skip
      refine wp_load (pc' := 42) (j := 2) dX9_permit_41 rfl rfl rfl ?_
      refine wp_s1 0 0 dX9_permit_42 ml_X9_160 (Nat.le_of_ble_eq_true rfl) (by omega) (by omega) ?_
      refine s_isStreet _ ?_
      refine kt_v ?_
      refine wp_ifeqB (pc' := 48) 62 dX9_permit_45 rfl rfl (fun h45 => ?_) (fun h45 => ?_)
      · skip
        refine wp_iconst (pc' := 63) (0) dX9_permit_62 rfl rfl ?_
        refine wp_load (pc' := 65) (j := 6) dX9_permit_63 rfl rfl rfl ?_
        refine wp_load (pc' := 66) (j := 0) dX9_permit_65 rfl rfl rfl ?_
        refine wp_get (pc' := 69) dX9_permit_66 fl_X9_212 hm rfl rfl ?_
        refine wp_bipush (pc' := 71) (40) dX9_permit_69 rfl rfl ?_
        refine wp_icmp_ge (pc' := 74) 95 dX9_permit_71 rfl rfl (fun h71 => ?_) (fun h71 => ?_)
        · skip
          refine wp_iconst (pc' := 96) (0) dX9_permit_95 rfl rfl ?_
          refine wp_v3 0 0 dX9_permit_96 ml_X9_167 hm (Nat.le_of_ble_eq_true rfl) (by omega) (by omega) ?_
          refine s_goes hM hF false false false (fun G3 hM3 hF3 => ?_)
          refine kt_v ?_
          obtain ⟨hm3, hA3, -⟩ := id hM3
          refine wp_ifF (pc' := 102) 104 dX9_permit_99 rfl rfl (cmpF rfl) ?_
          refine wp_iconst (pc' := 103) (0) dX9_permit_102 rfl rfl ?_
          refine wp_iret dX9_permit_103 rfl rfl ?_
          exact hX _ _ (by simp only [mcode, K_permit, h9, h38, h45, h71, Bool.false_eq_true, decide_true, decide_false, Bool.not_true, Bool.not_false, Bool.and_true, Bool.true_and, Bool.and_false, Bool.false_and, Bool.or_true, Bool.true_or, Bool.or_false, Bool.false_or, if_true, if_false, ite_true, ite_false]) (by decide) hM3 hF3
        · skip
          refine wp_load (pc' := 76) (j := 6) dX9_permit_74 rfl rfl rfl ?_
          refine wp_ifT 95 dX9_permit_76 rfl (cmpT rfl) ?_
          refine wp_iconst (pc' := 96) (0) dX9_permit_95 rfl rfl ?_
          refine wp_v3 0 0 dX9_permit_96 ml_X9_167 hm (Nat.le_of_ble_eq_true rfl) (by omega) (by omega) ?_
          refine s_goes hM hF false false false (fun G4 hM4 hF4 => ?_)
          refine kt_v ?_
          obtain ⟨hm4, hA4, -⟩ := id hM4
          refine wp_ifF (pc' := 102) 104 dX9_permit_99 rfl rfl (cmpF rfl) ?_
          refine wp_iconst (pc' := 103) (0) dX9_permit_102 rfl rfl ?_
          refine wp_iret dX9_permit_103 rfl rfl ?_
          exact hX _ _ (by simp only [mcode, K_permit, h9, h38, h45, h71, Bool.false_eq_true, decide_true, decide_false, Bool.not_true, Bool.not_false, Bool.and_true, Bool.true_and, Bool.and_false, Bool.false_and, Bool.or_true, Bool.true_or, Bool.or_false, Bool.false_or, if_true, if_false, ite_true, ite_false]) (by decide) hM4 hF4
      · skip
        refine wp_load (pc' := 49) (j := 3) dX9_permit_48 rfl rfl rfl ?_
        refine wp_iconst (pc' := 50) (0) dX9_permit_49 rfl rfl ?_
        refine wp_bipush (pc' := 52) (9) dX9_permit_50 rfl rfl ?_
        refine wp_s3 0 0 dX9_permit_52 ml_X9_153 (Nat.le_of_ble_eq_true rfl) (by omega) (by omega) ?_
        refine s_in _ _ _ ?_
        refine kt_v ?_
        refine wp_ifeqB (pc' := 58) 62 dX9_permit_55 rfl rfl (fun h55 => ?_) (fun h55 => ?_)
        · skip
          refine wp_iconst (pc' := 63) (0) dX9_permit_62 rfl rfl ?_
          refine wp_load (pc' := 65) (j := 6) dX9_permit_63 rfl rfl rfl ?_
          refine wp_load (pc' := 66) (j := 0) dX9_permit_65 rfl rfl rfl ?_
          refine wp_get (pc' := 69) dX9_permit_66 fl_X9_212 hm rfl rfl ?_
          refine wp_bipush (pc' := 71) (40) dX9_permit_69 rfl rfl ?_
          refine wp_icmp_ge (pc' := 74) 95 dX9_permit_71 rfl rfl (fun h71 => ?_) (fun h71 => ?_)
          · skip
            refine wp_iconst (pc' := 96) (0) dX9_permit_95 rfl rfl ?_
            refine wp_v3 0 0 dX9_permit_96 ml_X9_167 hm (Nat.le_of_ble_eq_true rfl) (by omega) (by omega) ?_
            refine s_goes hM hF false false false (fun G5 hM5 hF5 => ?_)
            refine kt_v ?_
            obtain ⟨hm5, hA5, -⟩ := id hM5
            refine wp_ifF (pc' := 102) 104 dX9_permit_99 rfl rfl (cmpF rfl) ?_
            refine wp_iconst (pc' := 103) (0) dX9_permit_102 rfl rfl ?_
            refine wp_iret dX9_permit_103 rfl rfl ?_
            exact hX _ _ (by simp only [mcode, K_permit, h9, h38, h45, h55, h71, Bool.false_eq_true, decide_true, decide_false, Bool.not_true, Bool.not_false, Bool.and_true, Bool.true_and, Bool.and_false, Bool.false_and, Bool.or_true, Bool.true_or, Bool.or_false, Bool.false_or, if_true, if_false, ite_true, ite_false]) (by decide) hM5 hF5
          · skip
            refine wp_load (pc' := 76) (j := 6) dX9_permit_74 rfl rfl rfl ?_
            refine wp_ifT 95 dX9_permit_76 rfl (cmpT rfl) ?_
            refine wp_iconst (pc' := 96) (0) dX9_permit_95 rfl rfl ?_
            refine wp_v3 0 0 dX9_permit_96 ml_X9_167 hm (Nat.le_of_ble_eq_true rfl) (by omega) (by omega) ?_
            refine s_goes hM hF false false false (fun G6 hM6 hF6 => ?_)
            refine kt_v ?_
            obtain ⟨hm6, hA6, -⟩ := id hM6
            refine wp_ifF (pc' := 102) 104 dX9_permit_99 rfl rfl (cmpF rfl) ?_
            refine wp_iconst (pc' := 103) (0) dX9_permit_102 rfl rfl ?_
            refine wp_iret dX9_permit_103 rfl rfl ?_
            exact hX _ _ (by simp only [mcode, K_permit, h9, h38, h45, h55, h71, Bool.false_eq_true, decide_true, decide_false, Bool.not_true, Bool.not_false, Bool.and_true, Bool.true_and, Bool.and_false, Bool.false_and, Bool.or_true, Bool.true_or, Bool.or_false, Bool.false_or, if_true, if_false, ite_true, ite_false]) (by decide) hM6 hF6
        · skip
          refine wp_iconst (pc' := 59) (1) dX9_permit_58 rfl rfl ?_
          refine wp_goto 63 dX9_permit_59 rfl ?_
          refine wp_load (pc' := 65) (j := 6) dX9_permit_63 rfl rfl rfl ?_
          refine wp_load (pc' := 66) (j := 0) dX9_permit_65 rfl rfl rfl ?_
          refine wp_get (pc' := 69) dX9_permit_66 fl_X9_212 hm rfl rfl ?_
          refine wp_bipush (pc' := 71) (40) dX9_permit_69 rfl rfl ?_
          refine wp_icmp_ge (pc' := 74) 95 dX9_permit_71 rfl rfl (fun h71 => ?_) (fun h71 => ?_)
          · skip
            refine wp_iconst (pc' := 96) (0) dX9_permit_95 rfl rfl ?_
            refine wp_v3 0 0 dX9_permit_96 ml_X9_167 hm (Nat.le_of_ble_eq_true rfl) (by omega) (by omega) ?_
            refine s_goes hM hF true false false (fun G7 hM7 hF7 => ?_)
            refine kt_v ?_
            obtain ⟨hm7, hA7, -⟩ := id hM7
            refine wp_ifF (pc' := 102) 104 dX9_permit_99 rfl rfl (cmpF rfl) ?_
            refine wp_iconst (pc' := 103) (0) dX9_permit_102 rfl rfl ?_
            refine wp_iret dX9_permit_103 rfl rfl ?_
            exact hX _ _ (by simp only [mcode, K_permit, h9, h38, h45, h55, h71, Bool.false_eq_true, decide_true, decide_false, Bool.not_true, Bool.not_false, Bool.and_true, Bool.true_and, Bool.and_false, Bool.false_and, Bool.or_true, Bool.true_or, Bool.or_false, Bool.false_or, if_true, if_false, ite_true, ite_false]) (by decide) hM7 hF7
          · skip
            refine wp_load (pc' := 76) (j := 6) dX9_permit_74 rfl rfl rfl ?_
            refine wp_ifT 95 dX9_permit_76 rfl (cmpT rfl) ?_
            refine wp_iconst (pc' := 96) (0) dX9_permit_95 rfl rfl ?_
            refine wp_v3 0 0 dX9_permit_96 ml_X9_167 hm (Nat.le_of_ble_eq_true rfl) (by omega) (by omega) ?_
            refine s_goes hM hF true false false (fun G8 hM8 hF8 => ?_)
            refine kt_v ?_
            obtain ⟨hm8, hA8, -⟩ := id hM8
            refine wp_ifF (pc' := 102) 104 dX9_permit_99 rfl rfl (cmpF rfl) ?_
            refine wp_iconst (pc' := 103) (0) dX9_permit_102 rfl rfl ?_
            refine wp_iret dX9_permit_103 rfl rfl ?_
            exact hX _ _ (by simp only [mcode, K_permit, h9, h38, h45, h55, h71, Bool.false_eq_true, decide_true, decide_false, Bool.not_true, Bool.not_false, Bool.and_true, Bool.true_and, Bool.and_false, Bool.false_and, Bool.or_true, Bool.true_or, Bool.or_false, Bool.false_or, if_true, if_false, ite_true, ite_false]) (by decide) hM8 hF8
  · skip
    refine wp_load (pc' := 14) (j := 5) dX9_permit_12 rfl rfl rfl ?_
    refine wp_load (pc' := 16) (j := 4) dX9_permit_14 rfl rfl rfl ?_
    refine wp_sipush (pc' := 19) (520) dX9_permit_16 rfl rfl ?_
    refine wp_s3 0 0 dX9_permit_19 ml_X9_153 (Nat.le_of_ble_eq_true rfl) (by omega) (by omega) ?_
    refine s_in _ _ _ ?_
    refine kt_v ?_
    refine wp_ifeqB (pc' := 25) 29 dX9_permit_22 rfl rfl (fun h22 => ?_) (fun h22 => ?_)
    · skip
      refine wp_iconst (pc' := 30) (0) dX9_permit_29 rfl rfl ?_
      refine wp_store (pc' := 32) (j := 6) (ls' := [_, _, _, _, _, _, _]) dX9_permit_30 rfl (Nat.le_of_ble_eq_true rfl) rfl rfl ?_
      refine wp_load (pc' := 33) (j := 0) dX9_permit_32 rfl rfl rfl ?_
      refine wp_load (pc' := 34) (j := 0) dX9_permit_33 rfl rfl rfl ?_
      refine wp_load (pc' := 35) (j := 1) dX9_permit_34 rfl rfl rfl ?_
      refine wp_v1 0 0 dX9_permit_35 ml_X9_219 hm (Nat.le_of_ble_eq_true rfl) (by omega) (by omega) ?_
      refine s_isCar hM _ ?_
      refine kt_v ?_
      refine wp_ifeqB (pc' := 41) 62 dX9_permit_38 rfl rfl (fun h38 => ?_) (fun h38 => ?_)
      · skip
        refine wp_iconst (pc' := 63) (0) dX9_permit_62 rfl rfl ?_
        refine wp_load (pc' := 65) (j := 6) dX9_permit_63 rfl rfl rfl ?_
        refine wp_load (pc' := 66) (j := 0) dX9_permit_65 rfl rfl rfl ?_
        refine wp_get (pc' := 69) dX9_permit_66 fl_X9_212 hm rfl rfl ?_
        refine wp_bipush (pc' := 71) (40) dX9_permit_69 rfl rfl ?_
        refine wp_icmp_ge (pc' := 74) 95 dX9_permit_71 rfl rfl (fun h71 => ?_) (fun h71 => ?_)
        · skip
          refine wp_iconst (pc' := 96) (0) dX9_permit_95 rfl rfl ?_
          refine wp_v3 0 0 dX9_permit_96 ml_X9_167 hm (Nat.le_of_ble_eq_true rfl) (by omega) (by omega) ?_
          refine s_goes hM hF false false false (fun G9 hM9 hF9 => ?_)
          refine kt_v ?_
          obtain ⟨hm9, hA9, -⟩ := id hM9
          refine wp_ifF (pc' := 102) 104 dX9_permit_99 rfl rfl (cmpF rfl) ?_
          refine wp_iconst (pc' := 103) (0) dX9_permit_102 rfl rfl ?_
          refine wp_iret dX9_permit_103 rfl rfl ?_
          exact hX _ _ (by simp only [mcode, K_permit, h9, h22, h38, h71, Bool.false_eq_true, decide_true, decide_false, Bool.not_true, Bool.not_false, Bool.and_true, Bool.true_and, Bool.and_false, Bool.false_and, Bool.or_true, Bool.true_or, Bool.or_false, Bool.false_or, if_true, if_false, ite_true, ite_false]) (by decide) hM9 hF9
        · skip
          refine wp_load (pc' := 76) (j := 6) dX9_permit_74 rfl rfl rfl ?_
          refine wp_ifT 95 dX9_permit_76 rfl (cmpT rfl) ?_
          refine wp_iconst (pc' := 96) (0) dX9_permit_95 rfl rfl ?_
          refine wp_v3 0 0 dX9_permit_96 ml_X9_167 hm (Nat.le_of_ble_eq_true rfl) (by omega) (by omega) ?_
          refine s_goes hM hF false false false (fun G10 hM10 hF10 => ?_)
          refine kt_v ?_
          obtain ⟨hm10, hA10, -⟩ := id hM10
          refine wp_ifF (pc' := 102) 104 dX9_permit_99 rfl rfl (cmpF rfl) ?_
          refine wp_iconst (pc' := 103) (0) dX9_permit_102 rfl rfl ?_
          refine wp_iret dX9_permit_103 rfl rfl ?_
          exact hX _ _ (by simp only [mcode, K_permit, h9, h22, h38, h71, Bool.false_eq_true, decide_true, decide_false, Bool.not_true, Bool.not_false, Bool.and_true, Bool.true_and, Bool.and_false, Bool.false_and, Bool.or_true, Bool.true_or, Bool.or_false, Bool.false_or, if_true, if_false, ite_true, ite_false]) (by decide) hM10 hF10
      · skip
        refine wp_load (pc' := 42) (j := 2) dX9_permit_41 rfl rfl rfl ?_
        refine wp_s1 0 0 dX9_permit_42 ml_X9_160 (Nat.le_of_ble_eq_true rfl) (by omega) (by omega) ?_
        refine s_isStreet _ ?_
        refine kt_v ?_
        refine wp_ifeqB (pc' := 48) 62 dX9_permit_45 rfl rfl (fun h45 => ?_) (fun h45 => ?_)
        · skip
          refine wp_iconst (pc' := 63) (0) dX9_permit_62 rfl rfl ?_
          refine wp_load (pc' := 65) (j := 6) dX9_permit_63 rfl rfl rfl ?_
          refine wp_load (pc' := 66) (j := 0) dX9_permit_65 rfl rfl rfl ?_
          refine wp_get (pc' := 69) dX9_permit_66 fl_X9_212 hm rfl rfl ?_
          refine wp_bipush (pc' := 71) (40) dX9_permit_69 rfl rfl ?_
          refine wp_icmp_ge (pc' := 74) 95 dX9_permit_71 rfl rfl (fun h71 => ?_) (fun h71 => ?_)
          · skip
            refine wp_iconst (pc' := 96) (0) dX9_permit_95 rfl rfl ?_
            refine wp_v3 0 0 dX9_permit_96 ml_X9_167 hm (Nat.le_of_ble_eq_true rfl) (by omega) (by omega) ?_
            refine s_goes hM hF false false false (fun G11 hM11 hF11 => ?_)
            refine kt_v ?_
            obtain ⟨hm11, hA11, -⟩ := id hM11
            refine wp_ifF (pc' := 102) 104 dX9_permit_99 rfl rfl (cmpF rfl) ?_
            refine wp_iconst (pc' := 103) (0) dX9_permit_102 rfl rfl ?_
            refine wp_iret dX9_permit_103 rfl rfl ?_
            exact hX _ _ (by simp only [mcode, K_permit, h9, h22, h38, h45, h71, Bool.false_eq_true, decide_true, decide_false, Bool.not_true, Bool.not_false, Bool.and_true, Bool.true_and, Bool.and_false, Bool.false_and, Bool.or_true, Bool.true_or, Bool.or_false, Bool.false_or, if_true, if_false, ite_true, ite_false]) (by decide) hM11 hF11
          · skip
            refine wp_load (pc' := 76) (j := 6) dX9_permit_74 rfl rfl rfl ?_
            refine wp_ifT 95 dX9_permit_76 rfl (cmpT rfl) ?_
            refine wp_iconst (pc' := 96) (0) dX9_permit_95 rfl rfl ?_
            refine wp_v3 0 0 dX9_permit_96 ml_X9_167 hm (Nat.le_of_ble_eq_true rfl) (by omega) (by omega) ?_
            refine s_goes hM hF false false false (fun G12 hM12 hF12 => ?_)
            refine kt_v ?_
            obtain ⟨hm12, hA12, -⟩ := id hM12
            refine wp_ifF (pc' := 102) 104 dX9_permit_99 rfl rfl (cmpF rfl) ?_
            refine wp_iconst (pc' := 103) (0) dX9_permit_102 rfl rfl ?_
            refine wp_iret dX9_permit_103 rfl rfl ?_
            exact hX _ _ (by simp only [mcode, K_permit, h9, h22, h38, h45, h71, Bool.false_eq_true, decide_true, decide_false, Bool.not_true, Bool.not_false, Bool.and_true, Bool.true_and, Bool.and_false, Bool.false_and, Bool.or_true, Bool.true_or, Bool.or_false, Bool.false_or, if_true, if_false, ite_true, ite_false]) (by decide) hM12 hF12
        · skip
          refine wp_load (pc' := 49) (j := 3) dX9_permit_48 rfl rfl rfl ?_
          refine wp_iconst (pc' := 50) (0) dX9_permit_49 rfl rfl ?_
          refine wp_bipush (pc' := 52) (9) dX9_permit_50 rfl rfl ?_
          refine wp_s3 0 0 dX9_permit_52 ml_X9_153 (Nat.le_of_ble_eq_true rfl) (by omega) (by omega) ?_
          refine s_in _ _ _ ?_
          refine kt_v ?_
          refine wp_ifeqB (pc' := 58) 62 dX9_permit_55 rfl rfl (fun h55 => ?_) (fun h55 => ?_)
          · skip
            refine wp_iconst (pc' := 63) (0) dX9_permit_62 rfl rfl ?_
            refine wp_load (pc' := 65) (j := 6) dX9_permit_63 rfl rfl rfl ?_
            refine wp_load (pc' := 66) (j := 0) dX9_permit_65 rfl rfl rfl ?_
            refine wp_get (pc' := 69) dX9_permit_66 fl_X9_212 hm rfl rfl ?_
            refine wp_bipush (pc' := 71) (40) dX9_permit_69 rfl rfl ?_
            refine wp_icmp_ge (pc' := 74) 95 dX9_permit_71 rfl rfl (fun h71 => ?_) (fun h71 => ?_)
            · skip
              refine wp_iconst (pc' := 96) (0) dX9_permit_95 rfl rfl ?_
              refine wp_v3 0 0 dX9_permit_96 ml_X9_167 hm (Nat.le_of_ble_eq_true rfl) (by omega) (by omega) ?_
              refine s_goes hM hF false false false (fun G13 hM13 hF13 => ?_)
              refine kt_v ?_
              obtain ⟨hm13, hA13, -⟩ := id hM13
              refine wp_ifF (pc' := 102) 104 dX9_permit_99 rfl rfl (cmpF rfl) ?_
              refine wp_iconst (pc' := 103) (0) dX9_permit_102 rfl rfl ?_
              refine wp_iret dX9_permit_103 rfl rfl ?_
              exact hX _ _ (by simp only [mcode, K_permit, h9, h22, h38, h45, h55, h71, Bool.false_eq_true, decide_true, decide_false, Bool.not_true, Bool.not_false, Bool.and_true, Bool.true_and, Bool.and_false, Bool.false_and, Bool.or_true, Bool.true_or, Bool.or_false, Bool.false_or, if_true, if_false, ite_true, ite_false]) (by decide) hM13 hF13
            · skip
              refine wp_load (pc' := 76) (j := 6) dX9_permit_74 rfl rfl rfl ?_
              refine wp_ifT 95 dX9_permit_76 rfl (cmpT rfl) ?_
              refine wp_iconst (pc' := 96) (0) dX9_permit_95 rfl rfl ?_
              refine wp_v3 0 0 dX9_permit_96 ml_X9_167 hm (Nat.le_of_ble_eq_true rfl) (by omega) (by omega) ?_
              refine s_goes hM hF false false false (fun G14 hM14 hF14 => ?_)
              refine kt_v ?_
              obtain ⟨hm14, hA14, -⟩ := id hM14
              refine wp_ifF (pc' := 102) 104 dX9_permit_99 rfl rfl (cmpF rfl) ?_
              refine wp_iconst (pc' := 103) (0) dX9_permit_102 rfl rfl ?_
              refine wp_iret dX9_permit_103 rfl rfl ?_
              exact hX _ _ (by simp only [mcode, K_permit, h9, h22, h38, h45, h55, h71, Bool.false_eq_true, decide_true, decide_false, Bool.not_true, Bool.not_false, Bool.and_true, Bool.true_and, Bool.and_false, Bool.false_and, Bool.or_true, Bool.true_or, Bool.or_false, Bool.false_or, if_true, if_false, ite_true, ite_false]) (by decide) hM14 hF14
          · skip
            refine wp_iconst (pc' := 59) (1) dX9_permit_58 rfl rfl ?_
            refine wp_goto 63 dX9_permit_59 rfl ?_
            refine wp_load (pc' := 65) (j := 6) dX9_permit_63 rfl rfl rfl ?_
            refine wp_load (pc' := 66) (j := 0) dX9_permit_65 rfl rfl rfl ?_
            refine wp_get (pc' := 69) dX9_permit_66 fl_X9_212 hm rfl rfl ?_
            refine wp_bipush (pc' := 71) (40) dX9_permit_69 rfl rfl ?_
            refine wp_icmp_ge (pc' := 74) 95 dX9_permit_71 rfl rfl (fun h71 => ?_) (fun h71 => ?_)
            · skip
              refine wp_iconst (pc' := 96) (0) dX9_permit_95 rfl rfl ?_
              refine wp_v3 0 0 dX9_permit_96 ml_X9_167 hm (Nat.le_of_ble_eq_true rfl) (by omega) (by omega) ?_
              refine s_goes hM hF true false false (fun G15 hM15 hF15 => ?_)
              refine kt_v ?_
              obtain ⟨hm15, hA15, -⟩ := id hM15
              refine wp_ifF (pc' := 102) 104 dX9_permit_99 rfl rfl (cmpF rfl) ?_
              refine wp_iconst (pc' := 103) (0) dX9_permit_102 rfl rfl ?_
              refine wp_iret dX9_permit_103 rfl rfl ?_
              exact hX _ _ (by simp only [mcode, K_permit, h9, h22, h38, h45, h55, h71, Bool.false_eq_true, decide_true, decide_false, Bool.not_true, Bool.not_false, Bool.and_true, Bool.true_and, Bool.and_false, Bool.false_and, Bool.or_true, Bool.true_or, Bool.or_false, Bool.false_or, if_true, if_false, ite_true, ite_false]) (by decide) hM15 hF15
            · skip
              refine wp_load (pc' := 76) (j := 6) dX9_permit_74 rfl rfl rfl ?_
              refine wp_ifT 95 dX9_permit_76 rfl (cmpT rfl) ?_
              refine wp_iconst (pc' := 96) (0) dX9_permit_95 rfl rfl ?_
              refine wp_v3 0 0 dX9_permit_96 ml_X9_167 hm (Nat.le_of_ble_eq_true rfl) (by omega) (by omega) ?_
              refine s_goes hM hF true false false (fun G16 hM16 hF16 => ?_)
              refine kt_v ?_
              obtain ⟨hm16, hA16, -⟩ := id hM16
              refine wp_ifF (pc' := 102) 104 dX9_permit_99 rfl rfl (cmpF rfl) ?_
              refine wp_iconst (pc' := 103) (0) dX9_permit_102 rfl rfl ?_
              refine wp_iret dX9_permit_103 rfl rfl ?_
              exact hX _ _ (by simp only [mcode, K_permit, h9, h22, h38, h45, h55, h71, Bool.false_eq_true, decide_true, decide_false, Bool.not_true, Bool.not_false, Bool.and_true, Bool.true_and, Bool.and_false, Bool.false_and, Bool.or_true, Bool.true_or, Bool.or_false, Bool.false_or, if_true, if_false, ite_true, ite_false]) (by decide) hM16 hF16
    · skip
      refine wp_iconst (pc' := 26) (1) dX9_permit_25 rfl rfl ?_
      refine wp_goto 30 dX9_permit_26 rfl ?_
      refine wp_store (pc' := 32) (j := 6) (ls' := [_, _, _, _, _, _, _]) dX9_permit_30 rfl (Nat.le_of_ble_eq_true rfl) rfl rfl ?_
      refine wp_load (pc' := 33) (j := 0) dX9_permit_32 rfl rfl rfl ?_
      refine wp_load (pc' := 34) (j := 0) dX9_permit_33 rfl rfl rfl ?_
      refine wp_load (pc' := 35) (j := 1) dX9_permit_34 rfl rfl rfl ?_
      refine wp_v1 0 0 dX9_permit_35 ml_X9_219 hm (Nat.le_of_ble_eq_true rfl) (by omega) (by omega) ?_
      refine s_isCar hM _ ?_
      refine kt_v ?_
      refine wp_ifeqB (pc' := 41) 62 dX9_permit_38 rfl rfl (fun h38 => ?_) (fun h38 => ?_)
      · skip
        refine wp_iconst (pc' := 63) (0) dX9_permit_62 rfl rfl ?_
        refine wp_load (pc' := 65) (j := 6) dX9_permit_63 rfl rfl rfl ?_
        refine wp_load (pc' := 66) (j := 0) dX9_permit_65 rfl rfl rfl ?_
        refine wp_get (pc' := 69) dX9_permit_66 fl_X9_212 hm rfl rfl ?_
        refine wp_bipush (pc' := 71) (40) dX9_permit_69 rfl rfl ?_
        refine wp_icmp_ge (pc' := 74) 95 dX9_permit_71 rfl rfl (fun h71 => ?_) (fun h71 => ?_)
        · skip
          refine wp_iconst (pc' := 96) (0) dX9_permit_95 rfl rfl ?_
          refine wp_v3 0 0 dX9_permit_96 ml_X9_167 hm (Nat.le_of_ble_eq_true rfl) (by omega) (by omega) ?_
          refine s_goes hM hF false true false (fun G17 hM17 hF17 => ?_)
          refine kt_v ?_
          obtain ⟨hm17, hA17, -⟩ := id hM17
          refine wp_ifF (pc' := 102) 104 dX9_permit_99 rfl rfl (cmpF rfl) ?_
          refine wp_iconst (pc' := 103) (0) dX9_permit_102 rfl rfl ?_
          refine wp_iret dX9_permit_103 rfl rfl ?_
          exact hX _ _ (by simp only [mcode, K_permit, h9, h22, h38, h71, Bool.false_eq_true, decide_true, decide_false, Bool.not_true, Bool.not_false, Bool.and_true, Bool.true_and, Bool.and_false, Bool.false_and, Bool.or_true, Bool.true_or, Bool.or_false, Bool.false_or, if_true, if_false, ite_true, ite_false]) (by decide) hM17 hF17
        · skip
          refine wp_load (pc' := 76) (j := 6) dX9_permit_74 rfl rfl rfl ?_
          refine wp_ifF (pc' := 79) 95 dX9_permit_76 rfl rfl (cmpF rfl) ?_
          obtain ⟨a, ha, rfl⟩ := day_nI h9
          obtain ⟨b, hb, rfl⟩ : ∃ b, b < 521 ∧ t = nI b := by
            have h22b := h22
            unfold inB at h22b
            simp only [Bool.and_eq_true, Bool.not_eq_true', decide_eq_false_iff_not] at h22b
            refine day_nI ?_
            unfold inB
            rw [decide_eq_false h22b.2, decide_eq_false (fun q => h22b.1 ?_)]
            · rfl
            · exact Int32.lt_of_lt_of_le q (nI_pos' (by omega))
          have hab : a ≤ b := by
            have h22b := h22
            unfold inB at h22b
            simp only [Bool.and_eq_true, Bool.not_eq_true', decide_eq_false_iff_not] at h22b
            rcases Nat.lt_or_ge b a with q | q
            · exact absurd (nI_lt q (by omega)) h22b.1
            · exact q
          refine wp_load (pc' := 80) (j := 0) dX9_permit_79 rfl rfl rfl ?_
          refine wp_load (pc' := 81) (j := 3) dX9_permit_80 rfl rfl rfl ?_
          refine wp_load (pc' := 83) (j := 4) dX9_permit_81 rfl rfl rfl ?_
          refine wp_load (pc' := 85) (j := 5) dX9_permit_83 rfl rfl rfl ?_
          refine wp_v3 0 0 dX9_permit_85 ml_X9_222 hm (Nat.le_of_ble_eq_true rfl) (by omega) (by omega) ?_
          refine s_hasRoom hM hp hp40 _ hab (show b ≤ 520 from by omega) ?_
          refine kt_v ?_
          refine wp_ifeqB (pc' := 91) 95 dX9_permit_88 rfl rfl (fun h88 => ?_) (fun h88 => ?_)
          · skip
            refine wp_iconst (pc' := 96) (0) dX9_permit_95 rfl rfl ?_
            refine wp_v3 0 0 dX9_permit_96 ml_X9_167 hm (Nat.le_of_ble_eq_true rfl) (by omega) (by omega) ?_
            refine s_goes hM hF false true false (fun G18 hM18 hF18 => ?_)
            refine kt_v ?_
            obtain ⟨hm18, hA18, -⟩ := id hM18
            refine wp_ifF (pc' := 102) 104 dX9_permit_99 rfl rfl (cmpF rfl) ?_
            refine wp_iconst (pc' := 103) (0) dX9_permit_102 rfl rfl ?_
            refine wp_iret dX9_permit_103 rfl rfl ?_
            exact hX _ _ (by simp only [mcode, K_permit, ix_nI (show a < 2 ^ 31 from by omega), ix_nI (show b < 2 ^ 31 from by omega), h9, h22, h38, h71, h88, Bool.false_eq_true, decide_true, decide_false, Bool.not_true, Bool.not_false, Bool.and_true, Bool.true_and, Bool.and_false, Bool.false_and, Bool.or_true, Bool.true_or, Bool.or_false, Bool.false_or, if_true, if_false, ite_true, ite_false]) (by decide) hM18 hF18
          · skip
            refine wp_iconst (pc' := 92) (1) dX9_permit_91 rfl rfl ?_
            refine wp_goto 96 dX9_permit_92 rfl ?_
            refine wp_v3 0 0 dX9_permit_96 ml_X9_167 hm (Nat.le_of_ble_eq_true rfl) (by omega) (by omega) ?_
            refine s_goes hM hF false true true (fun G19 hM19 hF19 => ?_)
            refine kt_v ?_
            obtain ⟨hm19, hA19, -⟩ := id hM19
            refine wp_ifF (pc' := 102) 104 dX9_permit_99 rfl rfl (cmpF rfl) ?_
            refine wp_iconst (pc' := 103) (0) dX9_permit_102 rfl rfl ?_
            refine wp_iret dX9_permit_103 rfl rfl ?_
            exact hX _ _ (by simp only [mcode, K_permit, ix_nI (show a < 2 ^ 31 from by omega), ix_nI (show b < 2 ^ 31 from by omega), h9, h22, h38, h71, h88, Bool.false_eq_true, decide_true, decide_false, Bool.not_true, Bool.not_false, Bool.and_true, Bool.true_and, Bool.and_false, Bool.false_and, Bool.or_true, Bool.true_or, Bool.or_false, Bool.false_or, if_true, if_false, ite_true, ite_false]) (by decide) hM19 hF19
      · skip
        refine wp_load (pc' := 42) (j := 2) dX9_permit_41 rfl rfl rfl ?_
        refine wp_s1 0 0 dX9_permit_42 ml_X9_160 (Nat.le_of_ble_eq_true rfl) (by omega) (by omega) ?_
        refine s_isStreet _ ?_
        refine kt_v ?_
        refine wp_ifeqB (pc' := 48) 62 dX9_permit_45 rfl rfl (fun h45 => ?_) (fun h45 => ?_)
        · skip
          refine wp_iconst (pc' := 63) (0) dX9_permit_62 rfl rfl ?_
          refine wp_load (pc' := 65) (j := 6) dX9_permit_63 rfl rfl rfl ?_
          refine wp_load (pc' := 66) (j := 0) dX9_permit_65 rfl rfl rfl ?_
          refine wp_get (pc' := 69) dX9_permit_66 fl_X9_212 hm rfl rfl ?_
          refine wp_bipush (pc' := 71) (40) dX9_permit_69 rfl rfl ?_
          refine wp_icmp_ge (pc' := 74) 95 dX9_permit_71 rfl rfl (fun h71 => ?_) (fun h71 => ?_)
          · skip
            refine wp_iconst (pc' := 96) (0) dX9_permit_95 rfl rfl ?_
            refine wp_v3 0 0 dX9_permit_96 ml_X9_167 hm (Nat.le_of_ble_eq_true rfl) (by omega) (by omega) ?_
            refine s_goes hM hF false true false (fun G20 hM20 hF20 => ?_)
            refine kt_v ?_
            obtain ⟨hm20, hA20, -⟩ := id hM20
            refine wp_ifF (pc' := 102) 104 dX9_permit_99 rfl rfl (cmpF rfl) ?_
            refine wp_iconst (pc' := 103) (0) dX9_permit_102 rfl rfl ?_
            refine wp_iret dX9_permit_103 rfl rfl ?_
            exact hX _ _ (by simp only [mcode, K_permit, h9, h22, h38, h45, h71, Bool.false_eq_true, decide_true, decide_false, Bool.not_true, Bool.not_false, Bool.and_true, Bool.true_and, Bool.and_false, Bool.false_and, Bool.or_true, Bool.true_or, Bool.or_false, Bool.false_or, if_true, if_false, ite_true, ite_false]) (by decide) hM20 hF20
          · skip
            refine wp_load (pc' := 76) (j := 6) dX9_permit_74 rfl rfl rfl ?_
            refine wp_ifF (pc' := 79) 95 dX9_permit_76 rfl rfl (cmpF rfl) ?_
            obtain ⟨a, ha, rfl⟩ := day_nI h9
            obtain ⟨b, hb, rfl⟩ : ∃ b, b < 521 ∧ t = nI b := by
              have h22b := h22
              unfold inB at h22b
              simp only [Bool.and_eq_true, Bool.not_eq_true', decide_eq_false_iff_not] at h22b
              refine day_nI ?_
              unfold inB
              rw [decide_eq_false h22b.2, decide_eq_false (fun q => h22b.1 ?_)]
              · rfl
              · exact Int32.lt_of_lt_of_le q (nI_pos' (by omega))
            have hab : a ≤ b := by
              have h22b := h22
              unfold inB at h22b
              simp only [Bool.and_eq_true, Bool.not_eq_true', decide_eq_false_iff_not] at h22b
              rcases Nat.lt_or_ge b a with q | q
              · exact absurd (nI_lt q (by omega)) h22b.1
              · exact q
            refine wp_load (pc' := 80) (j := 0) dX9_permit_79 rfl rfl rfl ?_
            refine wp_load (pc' := 81) (j := 3) dX9_permit_80 rfl rfl rfl ?_
            refine wp_load (pc' := 83) (j := 4) dX9_permit_81 rfl rfl rfl ?_
            refine wp_load (pc' := 85) (j := 5) dX9_permit_83 rfl rfl rfl ?_
            refine wp_v3 0 0 dX9_permit_85 ml_X9_222 hm (Nat.le_of_ble_eq_true rfl) (by omega) (by omega) ?_
            refine s_hasRoom hM hp hp40 _ hab (show b ≤ 520 from by omega) ?_
            refine kt_v ?_
            refine wp_ifeqB (pc' := 91) 95 dX9_permit_88 rfl rfl (fun h88 => ?_) (fun h88 => ?_)
            · skip
              refine wp_iconst (pc' := 96) (0) dX9_permit_95 rfl rfl ?_
              refine wp_v3 0 0 dX9_permit_96 ml_X9_167 hm (Nat.le_of_ble_eq_true rfl) (by omega) (by omega) ?_
              refine s_goes hM hF false true false (fun G21 hM21 hF21 => ?_)
              refine kt_v ?_
              obtain ⟨hm21, hA21, -⟩ := id hM21
              refine wp_ifF (pc' := 102) 104 dX9_permit_99 rfl rfl (cmpF rfl) ?_
              refine wp_iconst (pc' := 103) (0) dX9_permit_102 rfl rfl ?_
              refine wp_iret dX9_permit_103 rfl rfl ?_
              exact hX _ _ (by simp only [mcode, K_permit, ix_nI (show a < 2 ^ 31 from by omega), ix_nI (show b < 2 ^ 31 from by omega), h9, h22, h38, h45, h71, h88, Bool.false_eq_true, decide_true, decide_false, Bool.not_true, Bool.not_false, Bool.and_true, Bool.true_and, Bool.and_false, Bool.false_and, Bool.or_true, Bool.true_or, Bool.or_false, Bool.false_or, if_true, if_false, ite_true, ite_false]) (by decide) hM21 hF21
            · skip
              refine wp_iconst (pc' := 92) (1) dX9_permit_91 rfl rfl ?_
              refine wp_goto 96 dX9_permit_92 rfl ?_
              refine wp_v3 0 0 dX9_permit_96 ml_X9_167 hm (Nat.le_of_ble_eq_true rfl) (by omega) (by omega) ?_
              refine s_goes hM hF false true true (fun G22 hM22 hF22 => ?_)
              refine kt_v ?_
              obtain ⟨hm22, hA22, -⟩ := id hM22
              refine wp_ifF (pc' := 102) 104 dX9_permit_99 rfl rfl (cmpF rfl) ?_
              refine wp_iconst (pc' := 103) (0) dX9_permit_102 rfl rfl ?_
              refine wp_iret dX9_permit_103 rfl rfl ?_
              exact hX _ _ (by simp only [mcode, K_permit, ix_nI (show a < 2 ^ 31 from by omega), ix_nI (show b < 2 ^ 31 from by omega), h9, h22, h38, h45, h71, h88, Bool.false_eq_true, decide_true, decide_false, Bool.not_true, Bool.not_false, Bool.and_true, Bool.true_and, Bool.and_false, Bool.false_and, Bool.or_true, Bool.true_or, Bool.or_false, Bool.false_or, if_true, if_false, ite_true, ite_false]) (by decide) hM22 hF22
        · skip
          refine wp_load (pc' := 49) (j := 3) dX9_permit_48 rfl rfl rfl ?_
          refine wp_iconst (pc' := 50) (0) dX9_permit_49 rfl rfl ?_
          refine wp_bipush (pc' := 52) (9) dX9_permit_50 rfl rfl ?_
          refine wp_s3 0 0 dX9_permit_52 ml_X9_153 (Nat.le_of_ble_eq_true rfl) (by omega) (by omega) ?_
          refine s_in _ _ _ ?_
          refine kt_v ?_
          refine wp_ifeqB (pc' := 58) 62 dX9_permit_55 rfl rfl (fun h55 => ?_) (fun h55 => ?_)
          · skip
            refine wp_iconst (pc' := 63) (0) dX9_permit_62 rfl rfl ?_
            refine wp_load (pc' := 65) (j := 6) dX9_permit_63 rfl rfl rfl ?_
            refine wp_load (pc' := 66) (j := 0) dX9_permit_65 rfl rfl rfl ?_
            refine wp_get (pc' := 69) dX9_permit_66 fl_X9_212 hm rfl rfl ?_
            refine wp_bipush (pc' := 71) (40) dX9_permit_69 rfl rfl ?_
            refine wp_icmp_ge (pc' := 74) 95 dX9_permit_71 rfl rfl (fun h71 => ?_) (fun h71 => ?_)
            · skip
              refine wp_iconst (pc' := 96) (0) dX9_permit_95 rfl rfl ?_
              refine wp_v3 0 0 dX9_permit_96 ml_X9_167 hm (Nat.le_of_ble_eq_true rfl) (by omega) (by omega) ?_
              refine s_goes hM hF false true false (fun G23 hM23 hF23 => ?_)
              refine kt_v ?_
              obtain ⟨hm23, hA23, -⟩ := id hM23
              refine wp_ifF (pc' := 102) 104 dX9_permit_99 rfl rfl (cmpF rfl) ?_
              refine wp_iconst (pc' := 103) (0) dX9_permit_102 rfl rfl ?_
              refine wp_iret dX9_permit_103 rfl rfl ?_
              exact hX _ _ (by simp only [mcode, K_permit, h9, h22, h38, h45, h55, h71, Bool.false_eq_true, decide_true, decide_false, Bool.not_true, Bool.not_false, Bool.and_true, Bool.true_and, Bool.and_false, Bool.false_and, Bool.or_true, Bool.true_or, Bool.or_false, Bool.false_or, if_true, if_false, ite_true, ite_false]) (by decide) hM23 hF23
            · skip
              refine wp_load (pc' := 76) (j := 6) dX9_permit_74 rfl rfl rfl ?_
              refine wp_ifF (pc' := 79) 95 dX9_permit_76 rfl rfl (cmpF rfl) ?_
              obtain ⟨a, ha, rfl⟩ := day_nI h9
              obtain ⟨b, hb, rfl⟩ : ∃ b, b < 521 ∧ t = nI b := by
                have h22b := h22
                unfold inB at h22b
                simp only [Bool.and_eq_true, Bool.not_eq_true', decide_eq_false_iff_not] at h22b
                refine day_nI ?_
                unfold inB
                rw [decide_eq_false h22b.2, decide_eq_false (fun q => h22b.1 ?_)]
                · rfl
                · exact Int32.lt_of_lt_of_le q (nI_pos' (by omega))
              have hab : a ≤ b := by
                have h22b := h22
                unfold inB at h22b
                simp only [Bool.and_eq_true, Bool.not_eq_true', decide_eq_false_iff_not] at h22b
                rcases Nat.lt_or_ge b a with q | q
                · exact absurd (nI_lt q (by omega)) h22b.1
                · exact q
              refine wp_load (pc' := 80) (j := 0) dX9_permit_79 rfl rfl rfl ?_
              refine wp_load (pc' := 81) (j := 3) dX9_permit_80 rfl rfl rfl ?_
              refine wp_load (pc' := 83) (j := 4) dX9_permit_81 rfl rfl rfl ?_
              refine wp_load (pc' := 85) (j := 5) dX9_permit_83 rfl rfl rfl ?_
              refine wp_v3 0 0 dX9_permit_85 ml_X9_222 hm (Nat.le_of_ble_eq_true rfl) (by omega) (by omega) ?_
              refine s_hasRoom hM hp hp40 _ hab (show b ≤ 520 from by omega) ?_
              refine kt_v ?_
              refine wp_ifeqB (pc' := 91) 95 dX9_permit_88 rfl rfl (fun h88 => ?_) (fun h88 => ?_)
              · skip
                refine wp_iconst (pc' := 96) (0) dX9_permit_95 rfl rfl ?_
                refine wp_v3 0 0 dX9_permit_96 ml_X9_167 hm (Nat.le_of_ble_eq_true rfl) (by omega) (by omega) ?_
                refine s_goes hM hF false true false (fun G24 hM24 hF24 => ?_)
                refine kt_v ?_
                obtain ⟨hm24, hA24, -⟩ := id hM24
                refine wp_ifF (pc' := 102) 104 dX9_permit_99 rfl rfl (cmpF rfl) ?_
                refine wp_iconst (pc' := 103) (0) dX9_permit_102 rfl rfl ?_
                refine wp_iret dX9_permit_103 rfl rfl ?_
                exact hX _ _ (by simp only [mcode, K_permit, ix_nI (show a < 2 ^ 31 from by omega), ix_nI (show b < 2 ^ 31 from by omega), h9, h22, h38, h45, h55, h71, h88, Bool.false_eq_true, decide_true, decide_false, Bool.not_true, Bool.not_false, Bool.and_true, Bool.true_and, Bool.and_false, Bool.false_and, Bool.or_true, Bool.true_or, Bool.or_false, Bool.false_or, if_true, if_false, ite_true, ite_false]) (by decide) hM24 hF24
              · skip
                refine wp_iconst (pc' := 92) (1) dX9_permit_91 rfl rfl ?_
                refine wp_goto 96 dX9_permit_92 rfl ?_
                refine wp_v3 0 0 dX9_permit_96 ml_X9_167 hm (Nat.le_of_ble_eq_true rfl) (by omega) (by omega) ?_
                refine s_goes hM hF false true true (fun G25 hM25 hF25 => ?_)
                refine kt_v ?_
                obtain ⟨hm25, hA25, -⟩ := id hM25
                refine wp_ifF (pc' := 102) 104 dX9_permit_99 rfl rfl (cmpF rfl) ?_
                refine wp_iconst (pc' := 103) (0) dX9_permit_102 rfl rfl ?_
                refine wp_iret dX9_permit_103 rfl rfl ?_
                exact hX _ _ (by simp only [mcode, K_permit, ix_nI (show a < 2 ^ 31 from by omega), ix_nI (show b < 2 ^ 31 from by omega), h9, h22, h38, h45, h55, h71, h88, Bool.false_eq_true, decide_true, decide_false, Bool.not_true, Bool.not_false, Bool.and_true, Bool.true_and, Bool.and_false, Bool.false_and, Bool.or_true, Bool.true_or, Bool.or_false, Bool.false_or, if_true, if_false, ite_true, ite_false]) (by decide) hM25 hF25
          · skip
            refine wp_iconst (pc' := 59) (1) dX9_permit_58 rfl rfl ?_
            refine wp_goto 63 dX9_permit_59 rfl ?_
            refine wp_load (pc' := 65) (j := 6) dX9_permit_63 rfl rfl rfl ?_
            refine wp_load (pc' := 66) (j := 0) dX9_permit_65 rfl rfl rfl ?_
            refine wp_get (pc' := 69) dX9_permit_66 fl_X9_212 hm rfl rfl ?_
            refine wp_bipush (pc' := 71) (40) dX9_permit_69 rfl rfl ?_
            refine wp_icmp_ge (pc' := 74) 95 dX9_permit_71 rfl rfl (fun h71 => ?_) (fun h71 => ?_)
            · skip
              refine wp_iconst (pc' := 96) (0) dX9_permit_95 rfl rfl ?_
              refine wp_v3 0 0 dX9_permit_96 ml_X9_167 hm (Nat.le_of_ble_eq_true rfl) (by omega) (by omega) ?_
              refine s_goes hM hF true true false (fun G26 hM26 hF26 => ?_)
              refine kt_v ?_
              obtain ⟨hm26, hA26, -⟩ := id hM26
              refine wp_ifF (pc' := 102) 104 dX9_permit_99 rfl rfl (cmpF rfl) ?_
              refine wp_iconst (pc' := 103) (0) dX9_permit_102 rfl rfl ?_
              refine wp_iret dX9_permit_103 rfl rfl ?_
              exact hX _ _ (by simp only [mcode, K_permit, h9, h22, h38, h45, h55, h71, Bool.false_eq_true, decide_true, decide_false, Bool.not_true, Bool.not_false, Bool.and_true, Bool.true_and, Bool.and_false, Bool.false_and, Bool.or_true, Bool.true_or, Bool.or_false, Bool.false_or, if_true, if_false, ite_true, ite_false]) (by decide) hM26 hF26
            · skip
              refine wp_load (pc' := 76) (j := 6) dX9_permit_74 rfl rfl rfl ?_
              refine wp_ifF (pc' := 79) 95 dX9_permit_76 rfl rfl (cmpF rfl) ?_
              obtain ⟨a, ha, rfl⟩ := day_nI h9
              obtain ⟨b, hb, rfl⟩ : ∃ b, b < 521 ∧ t = nI b := by
                have h22b := h22
                unfold inB at h22b
                simp only [Bool.and_eq_true, Bool.not_eq_true', decide_eq_false_iff_not] at h22b
                refine day_nI ?_
                unfold inB
                rw [decide_eq_false h22b.2, decide_eq_false (fun q => h22b.1 ?_)]
                · rfl
                · exact Int32.lt_of_lt_of_le q (nI_pos' (by omega))
              have hab : a ≤ b := by
                have h22b := h22
                unfold inB at h22b
                simp only [Bool.and_eq_true, Bool.not_eq_true', decide_eq_false_iff_not] at h22b
                rcases Nat.lt_or_ge b a with q | q
                · exact absurd (nI_lt q (by omega)) h22b.1
                · exact q
              refine wp_load (pc' := 80) (j := 0) dX9_permit_79 rfl rfl rfl ?_
              refine wp_load (pc' := 81) (j := 3) dX9_permit_80 rfl rfl rfl ?_
              refine wp_load (pc' := 83) (j := 4) dX9_permit_81 rfl rfl rfl ?_
              refine wp_load (pc' := 85) (j := 5) dX9_permit_83 rfl rfl rfl ?_
              refine wp_v3 0 0 dX9_permit_85 ml_X9_222 hm (Nat.le_of_ble_eq_true rfl) (by omega) (by omega) ?_
              refine s_hasRoom hM hp hp40 _ hab (show b ≤ 520 from by omega) ?_
              refine kt_v ?_
              refine wp_ifeqB (pc' := 91) 95 dX9_permit_88 rfl rfl (fun h88 => ?_) (fun h88 => ?_)
              · skip
                refine wp_iconst (pc' := 96) (0) dX9_permit_95 rfl rfl ?_
                refine wp_v3 0 0 dX9_permit_96 ml_X9_167 hm (Nat.le_of_ble_eq_true rfl) (by omega) (by omega) ?_
                refine s_goes hM hF true true false (fun G27 hM27 hF27 => ?_)
                refine kt_v ?_
                obtain ⟨hm27, hA27, -⟩ := id hM27
                refine wp_ifF (pc' := 102) 104 dX9_permit_99 rfl rfl (cmpF rfl) ?_
                refine wp_iconst (pc' := 103) (0) dX9_permit_102 rfl rfl ?_
                refine wp_iret dX9_permit_103 rfl rfl ?_
                exact hX _ _ (by simp only [mcode, K_permit, ix_nI (show a < 2 ^ 31 from by omega), ix_nI (show b < 2 ^ 31 from by omega), h9, h22, h38, h45, h55, h71, h88, Bool.false_eq_true, decide_true, decide_false, Bool.not_true, Bool.not_false, Bool.and_true, Bool.true_and, Bool.and_false, Bool.false_and, Bool.or_true, Bool.true_or, Bool.or_false, Bool.false_or, if_true, if_false, ite_true, ite_false]) (by decide) hM27 hF27
              · skip
                refine wp_iconst (pc' := 92) (1) dX9_permit_91 rfl rfl ?_
                refine wp_goto 96 dX9_permit_92 rfl ?_
                refine wp_v3 0 0 dX9_permit_96 ml_X9_167 hm (Nat.le_of_ble_eq_true rfl) (by omega) (by omega) ?_
                refine s_goes hM hF true true true (fun G28 hM28 hF28 => ?_)
                refine kt_v ?_
                obtain ⟨hm28, hA28, -⟩ := id hM28
                refine wp_ifT 104 dX9_permit_99 rfl (cmpT rfl) ?_
                have hlt : np < 40 := by
                  rw [hp] at h71
                  rcases Nat.lt_or_ge np 40 with q | q
                  · exact q
                  · exact absurd (show (40 : Int32) ≤ nI np from nI_le q (by omega)) h71
                refine wp_load (pc' := 105) (j := 0) dX9_permit_104 rfl rfl rfl ?_
                refine wp_get (pc' := 108) dX9_permit_105 fl_X9_74 hm28 rfl rfl ?_
                refine wp_load (pc' := 109) (j := 0) dX9_permit_108 rfl rfl rfl ?_
                refine wp_get (pc' := 112) dX9_permit_109 fl_X9_212 hm28 rfl rfl ?_
                refine wp_load (pc' := 113) (j := 1) dX9_permit_112 rfl rfl rfl ?_
                refine wp_mia (pc' := 114) hM28 hF28 30 (by decide) (by decide) dX9_permit_113 hp (show np < 40 from hlt) (by decide) rfl (fun G29 hM29 hF29 => ?_)
                obtain ⟨hm29, hA29, -⟩ := id hM29
                refine wp_load (pc' := 115) (j := 0) dX9_permit_114 rfl rfl rfl ?_
                refine wp_get (pc' := 118) dX9_permit_115 fl_X9_77 hm29 rfl rfl ?_
                refine wp_load (pc' := 119) (j := 0) dX9_permit_118 rfl rfl rfl ?_
                refine wp_get (pc' := 122) dX9_permit_119 fl_X9_212 hm29 rfl rfl ?_
                refine wp_load (pc' := 123) (j := 2) dX9_permit_122 rfl rfl rfl ?_
                refine wp_mia (pc' := 124) hM29 hF29 31 (by decide) (by decide) dX9_permit_123 hp (show np < 40 from hlt) (by decide) rfl (fun G30 hM30 hF30 => ?_)
                obtain ⟨hm30, hA30, -⟩ := id hM30
                refine wp_load (pc' := 125) (j := 0) dX9_permit_124 rfl rfl rfl ?_
                refine wp_get (pc' := 128) dX9_permit_125 fl_X9_80 hm30 rfl rfl ?_
                refine wp_load (pc' := 129) (j := 0) dX9_permit_128 rfl rfl rfl ?_
                refine wp_get (pc' := 132) dX9_permit_129 fl_X9_212 hm30 rfl rfl ?_
                refine wp_load (pc' := 133) (j := 3) dX9_permit_132 rfl rfl rfl ?_
                refine wp_mia (pc' := 134) hM30 hF30 32 (by decide) (by decide) dX9_permit_133 hp (show np < 40 from hlt) (by decide) rfl (fun G31 hM31 hF31 => ?_)
                obtain ⟨hm31, hA31, -⟩ := id hM31
                refine wp_load (pc' := 135) (j := 0) dX9_permit_134 rfl rfl rfl ?_
                refine wp_get (pc' := 138) dX9_permit_135 fl_X9_83 hm31 rfl rfl ?_
                refine wp_load (pc' := 139) (j := 0) dX9_permit_138 rfl rfl rfl ?_
                refine wp_get (pc' := 142) dX9_permit_139 fl_X9_212 hm31 rfl rfl ?_
                refine wp_load (pc' := 144) (j := 4) dX9_permit_142 rfl rfl rfl ?_
                refine wp_mia (pc' := 145) hM31 hF31 33 (by decide) (by decide) dX9_permit_144 hp (show np < 40 from hlt) (by decide) rfl (fun G32 hM32 hF32 => ?_)
                obtain ⟨hm32, hA32, -⟩ := id hM32
                refine wp_load (pc' := 146) (j := 0) dX9_permit_145 rfl rfl rfl ?_
                refine wp_get (pc' := 149) dX9_permit_146 fl_X9_86 hm32 rfl rfl ?_
                refine wp_load (pc' := 150) (j := 0) dX9_permit_149 rfl rfl rfl ?_
                refine wp_get (pc' := 153) dX9_permit_150 fl_X9_212 hm32 rfl rfl ?_
                refine wp_load (pc' := 155) (j := 5) dX9_permit_153 rfl rfl rfl ?_
                refine wp_mia (pc' := 156) hM32 hF32 34 (by decide) (by decide) dX9_permit_155 hp (show np < 40 from hlt) (by decide) rfl (fun G33 hM33 hF33 => ?_)
                obtain ⟨hm33, hA33, -⟩ := id hM33
                refine wp_load (pc' := 157) (j := 0) dX9_permit_156 rfl rfl rfl ?_
                refine wp_dup (pc' := 158) dX9_permit_157 rfl rfl ?_
                refine wp_get (pc' := 161) dX9_permit_158 fl_X9_212 hm33 rfl rfl ?_
                refine wp_iconst (pc' := 162) (1) dX9_permit_161 rfl rfl ?_
                refine wp_pure (pc' := 163) dX9_permit_162 rfl rfl ?_
                refine wp_mput (pc' := 166) hM33 hF33 dX9_permit_163 fl_X9_212 rfl (by decide) rfl (fun G34 hM34 hF34 => ?_)
                obtain ⟨hm34, hA34, -⟩ := id hM34
                refine wp_load (pc' := 167) (j := 0) dX9_permit_166 rfl rfl rfl ?_
                refine wp_get (pc' := 170) dX9_permit_167 fl_X9_212 hm34 rfl rfl ?_
                refine wp_iconst (pc' := 171) (1) dX9_permit_170 rfl rfl ?_
                refine wp_pure (pc' := 172) dX9_permit_171 rfl rfl ?_
                refine wp_iret dX9_permit_172 rfl rfl ?_
                exact hT (by simp only [mcode, K_permit, ix_nI (show a < 2 ^ 31 from by omega), ix_nI (show b < 2 ^ 31 from by omega), h9, h22, h38, h45, h55, h71, h88, Bool.false_eq_true, decide_true, decide_false, Bool.not_true, Bool.not_false, Bool.and_true, Bool.true_and, Bool.and_false, Bool.false_and, Bool.or_true, Bool.true_or, Bool.or_false, Bool.false_or, if_true, if_false, ite_true, ite_false]) hlt _ hM34 hF34

