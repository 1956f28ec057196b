/-! the public methods of the reference -/
abbrev ix (x : Int32) : Nat := x.toNatClampNeg
theorem ix_nI {n : Nat} (h : n < 2 ^ 31) : ix (nI n) = n := nI_clamp h
abbrev zz (σ : MS) : MS := msc σ 56 0
def K_block (s mt : Int32) : Int32 := mcode (isStreetB s && isMetreB mt) true true
def K_times (w f t : Int32) : Int32 := mcode (inB w 1 127 && inB f 0 95 && !decide (t ≤ f) && !decide (96 < t)) true true
def K_dates (f t : Int32) : Int32 := mcode (inB f 0 520 && inB t f 520) true true
def K_sign (σ : MS) (st f t u sy : Int32) : Int32 := mcode (isStreetB st && isMetreB f && isMetreB t) (!decide (t < f) && inB u 0 31 && inB sy 0 96) (!decide (30 ≤ σ.1 7))
def K_takeDown (σ : MS) (i : Int32) : Int32 := mcode (inB i 0 (σ.1 7 - 1)) (inB i 0 (σ.1 7 - 1) && !decide (σ.2.1 21 (ix i) ≤ 49999)) true
def K_rule (s mt q : Int32) : Int32 := mcode (isStreetB s && isMetreB mt) (inB q 0 49999) true
def K_car (σ : MS) (l u : Int32) : Int32 := mcode (inB l 3 12 && inB u 0 4) (!decide (30 ≤ σ.1 22)) true
def K_permit (σ : MS) (np : Nat) (i s h f t : Int32) : Int32 := mcode (isCarB σ i && isStreetB s && inB h 0 9) (inB f 0 520 && inB t f 520) (!decide (40 ≤ σ.1 29) && (inB f 0 520 && inB t f 520) && roomF σ np h (ix f) (ix t + 1 - ix f))
def K_hand (σ : MS) (p i : Int32) : Int32 := mcode (inB p 0 (σ.1 29 - 1) && isCarB σ i) true true
def K_countsAs (σ : MS) (i s : Int32) : Int32 := mcode (isCarB σ i && isStreetB s) true true
def K_park (σ : MS) (nc : Nat) (i s mt : Int32) : Int32 := mcode (isCarB σ i && isStreetB s && isMetreB mt) (isCarB σ i && isStreetB s && isMetreB mt && decide (σ.2.1 25 (ix i) = -1) && gapB σ s mt (σ.2.1 23 (ix i)) nc) true
def K_leave (σ : MS) (i : Int32) : Int32 := mcode (isCarB σ i) (isCarB σ i && !decide (σ.2.1 25 (ix i) = -1)) true
def K_gap (s l : Int32) : Int32 := mcode (isStreetB s) (inB l 3 12) true
def K_pay (σ : MS) (i s f q : Int32) : Int32 := mcode (isCarB σ i && isStreetB s) (inB f (if 96 ≤ σ.1 0 then σ.1 0 - 96 else 0) (σ.1 0) && inB q 1 96) (!decide (200 ≤ σ.1 35))
def K_car1 (σ : MS) (i : Int32) : Int32 := mcode (isCarB σ i) true true
def K_look (s : Int32) : Int32 := mcode (isStreetB s) true true
def K_appeal (σ : MS) (i : Int32) : Int32 := mcode (isFineB σ i) (isFineB σ i && !σ.2.2 49 (ix i) && !σ.2.2 51 (ix i)) true
def K_payFine (σ : MS) (i : Int32) : Int32 := mcode (isFineB σ i) (isFineB σ i && !σ.2.2 51 (ix i) && !σ.2.2 50 (ix i)) true
def K_fine (σ : MS) (i w : Int32) : Int32 := mcode (isFineB σ i) (inB w 0 5) true
def K_tow (σ : MS) (nf : Nat) (i : Int32) : Int32 := mcode (isCarB σ i) (isCarB σ i && !decide (σ.2.1 25 (ix i) = -1) && !decide (debtF σ (ix i) nf < 200)) true
def K_streetIs (s w : Int32) : Int32 := mcode (isStreetB s) (inB w 0 4) true
def K_pass (σ : MS) (q : Int32) : Int32 := mcode (inB q 1 96) (!decide (49999 < σ.1 0 + q)) true
def rsF (σ : MS) : MS := msc (msc (msc (msc (msc σ 2 127) 3 0) 4 96) 5 0) 6 520
def sgnF (σ : MS) (n : Nat) (st f t u sy : Int32) (fee tmp : Bool) : MS := msc (rsF (mar (mar (mar (mar (mar (mar (mar (mbr (mbr (mar (mar (mar (mar (mar (zz σ) 8 n st) 9 n f) 10 n t) 11 n u) 12 n sy) 13 n fee) 14 n tmp) 15 n (σ.1 2)) 16 n (σ.1 3)) 17 n (σ.1 4)) 18 n (σ.1 5)) 19 n (σ.1 6)) 20 n (σ.1 0)) 21 n 50000)) 7 (σ.1 7 + 1)
def carF (σ : MS) (n : Nat) (l u : Int32) : MS := msc (mar (mar (mar (zz σ) 23 n l) 24 n u) 25 n (-1)) 22 (σ.1 22 + 1)
def perF (σ : MS) (n : Nat) (i s h f t : Int32) : MS := msc (mar (mar (mar (mar (mar (zz σ) 30 n i) 31 n s) 32 n h) 33 n f) 34 n t) 29 (σ.1 29 + 1)
def parkF (σ : MS) (i : Nat) (s mt : Int32) : MS := mar (mar (mar (mar (zz σ) 25 i s) 26 i mt) 27 i (σ.1 0)) 28 i (σ.2.1 28 i + 1)
def payF (σ : MS) (n : Nat) (i s f q : Int32) (a : Nat) : MS := mar (msc (mar (mar (mar (mar (zz σ) 36 n i) 37 n s) 38 n f) 39 n q) 35 (σ.1 35 + 1)) 53 a (σ.2.1 53 a + q * σ.2.1 52 a)
def judNow (σ : MS) (i : Nat) : Int32 := judNF σ i (ix (σ.2.1 23 i)) (ix (σ.1 7)) (ix (σ.1 29)) (ix (σ.1 35)) (ix (60 * σ.2.1 25 i + σ.2.1 26 i))
def givF (σ : MS) (i : Nat) (w : Int32) : MS := msc (mar (mbr (mar (mar (mar (mar (mar (mar (mar σ 41 (ix (σ.1 40)) (nI i)) 42 (ix (σ.1 40)) (σ.2.1 25 i)) 43 (ix (σ.1 40)) (σ.2.1 26 i)) 44 (ix (σ.1 40)) (σ.2.1 27 i)) 45 (ix (σ.1 40)) (σ.2.1 28 i)) 46 (ix (σ.1 40)) (σ.1 0)) 47 (ix (σ.1 40)) w) 48 (ix (σ.1 40)) (decide (w = 1))) 54 (ix (σ.2.1 25 i)) (σ.2.1 54 (ix (σ.2.1 25 i)) + 1)) 40 (σ.1 40 + 1)
def look1 (σ : MS) (s : Int32) (i : Nat) : MS := if decide (σ.2.1 25 i = s) && !decide (60 ≤ σ.1 40) && !hfF σ i (ix (σ.1 40)) && !decide (judNow σ i = 0) then givF σ i (judNow σ i) else σ
def lookF (σ : MS) (s : Int32) : Nat → MS
  | 0 => σ
  | k + 1 => look1 (lookF σ s k) s k
def begF (σ : MS) (k : Nat) : MS := mar (mar σ 52 k (σ.2.1 52 k + (if !decide (100 * σ.2.1 55 k ≤ 460800) && !decide (20 ≤ σ.2.1 52 k) then 1 else if !decide (230400 ≤ 100 * σ.2.1 55 k) && !decide (σ.2.1 52 k ≤ 0) then -1 else 0))) 55 k 0
def tkF (σ : MS) (nc : Nat) : Nat → MS
  | 0 => σ
  | s + 1 => mar (tkF σ nc s) 55 s ((tkF σ nc s).2.1 55 s + takenF (tkF σ nc s) (nI s) nc)
def bgF (σ : MS) : Nat → MS
  | 0 => σ
  | s + 1 => begF (bgF σ s) s
def quarF (σ : MS) (nc : Nat) : MS := if rem (σ.1 0 + 1) 96 = 0 then bgF (msc (tkF σ nc 4) 0 (σ.1 0 + 1)) 4 else msc (tkF σ nc 4) 0 (σ.1 0 + 1)
def passF (σ : MS) (nc : Nat) : Nat → MS
  | 0 => σ
  | n + 1 => quarF (passF σ nc n) nc
def fineV (σ : MS) (k : Nat) (w : Int32) : Int32 := if w = 0 then σ.2.1 41 k else if w = 1 then σ.2.1 42 k else if w = 2 then σ.2.1 46 k else if w = 3 then σ.2.1 47 k else if w = 4 then b2i (σ.2.2 50 k) else b2i (σ.2.2 51 k)
def strV (σ : MS) (a nc : Nat) (w : Int32) : Int32 := if w = 0 then σ.2.1 52 a else if w = 1 then takenF σ (nI a) nc else if w = 2 then σ.2.1 53 a else if w = 3 then σ.2.1 54 a else σ.2.1 55 a
theorem st_nI {x : Int32} (h : isStreetB x = true) : ∃ j, j < 4 ∧ x = nI j := clt_nI (n := 4) h (by decide)
theorem mt_nI {x : Int32} (h : isMetreB x = true) : ∃ j, j < 60 ∧ x = nI j := clt_nI (n := 60) h (by decide)
theorem day_nI {x : Int32} (h : inB x 0 520 = true) : ∃ j, j < 521 ∧ x = nI j := clt_nI (n := 521) h (by decide)
theorem mul60 {a b : Nat} : (60 : Int32) * nI a + nI b = nI (60 * a + b) := by rw [show (60 : Int32) = nI 60 from rfl, pk_mul, nI_add]
theorem mbr_at {σ : MS} {k i : Nat} {x : Bool} : (mbr σ k i x).2.2 k i = x := by simp only [mbr, va_up, if_true]
theorem mar_at {σ : MS} {k i : Nat} {x : Int32} : (mar σ k i x).2.1 k i = x := by simp only [mar, va_up, if_true]
set_option maxRecDepth 20000 in
set_option maxHeartbeats 2000000 in
theorem s_goes {E : XE} {d mc ms : Nat} {G : HP} {P : Ps} {m : Nat} {aM own : Nat → Nat} {σ : MS} (hM : MH m aM own σ G) {G0 : HP} (hF : Fr1 own G0 G) (a b c : Bool) (hP : ∀ G', MH m aM own (msc σ 56 (mcode a b c)) G' → Fr1 own G0 G' → P (.inl (some (.int (b2i (decide (mcode a b c = 0)))))) G') : Sp E (d + 1) yX9_goes mc ms [.ref m, .int (b2i a), .int (b2i b), .int (b2i c)] G P := by
  obtain ⟨hm, hA, -⟩ := id hM
  refine sp_intro bd_X9_goes (v1_all rfl) (Nat.le_of_ble_eq_true rfl) ?_
  change WX _ _ _ _ _ _ 0 [some (.ref m), some (.int (b2i a)), some (.int (b2i b)), some (.int (b2i c))] [] _ 0 0
  refine wp_load (pc' := 1) (j := 0) dX9_goes_0 rfl rfl rfl ?_
  refine wp_load (pc' := 2) (j := 1) dX9_goes_1 rfl rfl rfl ?_
  refine wp_ifneB (pc' := 5) 9 dX9_goes_2 rfl rfl (fun h2 => ?_) (fun h2 => ?_)
  · skip
    refine wp_load (pc' := 10) (j := 2) dX9_goes_9 rfl rfl rfl ?_
    refine wp_ifneB (pc' := 13) 17 dX9_goes_10 rfl rfl (fun h10 => ?_) (fun h10 => ?_)
    · skip
      refine wp_load (pc' := 18) (j := 3) dX9_goes_17 rfl rfl rfl ?_
      refine wp_ifneB (pc' := 21) 25 dX9_goes_18 rfl rfl (fun h18 => ?_) (fun h18 => ?_)
      · skip
        refine wp_iconst (pc' := 26) (0) dX9_goes_25 rfl rfl ?_
        refine wp_mput (pc' := 29) hM hF dX9_goes_26 fl_X9_149 rfl (by decide) rfl (fun G1 hM1 hF1 => ?_)
        obtain ⟨hm1, hA1, -⟩ := id hM1
        refine wp_load (pc' := 30) (j := 0) dX9_goes_29 rfl rfl rfl ?_
        refine wp_get (pc' := 33) dX9_goes_30 fl_X9_149 hm1 rfl rfl ?_
        refine wp_ifF (pc' := 36) 40 dX9_goes_33 rfl rfl (cmpF rfl) ?_
        refine wp_iconst (pc' := 37) (1) dX9_goes_36 rfl rfl ?_
        refine wp_goto 41 dX9_goes_37 rfl ?_
        refine wp_iret dX9_goes_41 rfl rfl ?_
        simp only [mcode, h2, h10, h18, Bool.false_eq_true, decide_true, decide_false, Bool.not_true, Bool.not_false, Bool.and_true, Bool.true_and, Bool.and_false, Bool.false_and, Bool.or_true, Bool.true_or, Bool.or_false, Bool.false_or, if_true, if_false, ite_true, ite_false] at hP
        exact hP _ hM1 hF1
      · skip
        refine wp_iconst (pc' := 22) (3) dX9_goes_21 rfl rfl ?_
        refine wp_goto 26 dX9_goes_22 rfl ?_
        refine wp_mput (pc' := 29) hM hF dX9_goes_26 fl_X9_149 rfl (by decide) rfl (fun G2 hM2 hF2 => ?_)
        obtain ⟨hm2, hA2, -⟩ := id hM2
        refine wp_load (pc' := 30) (j := 0) dX9_goes_29 rfl rfl rfl ?_
        refine wp_get (pc' := 33) dX9_goes_30 fl_X9_149 hm2 rfl rfl ?_
        refine wp_ifT 40 dX9_goes_33 rfl (cmpT rfl) ?_
        refine wp_iconst (pc' := 41) (0) dX9_goes_40 rfl rfl ?_
        refine wp_iret dX9_goes_41 rfl rfl ?_
        simp only [mcode, h2, h10, h18, Bool.false_eq_true, decide_true, decide_false, Bool.not_true, Bool.not_false, Bool.and_true, Bool.true_and, Bool.and_false, Bool.false_and, Bool.or_true, Bool.true_or, Bool.or_false, Bool.false_or, if_true, if_false, ite_true, ite_false] at hP
        exact hP _ hM2 hF2
    · skip
      refine wp_iconst (pc' := 14) (2) dX9_goes_13 rfl rfl ?_
      refine wp_goto 26 dX9_goes_14 rfl ?_
      refine wp_mput (pc' := 29) hM hF dX9_goes_26 fl_X9_149 rfl (by decide) rfl (fun G3 hM3 hF3 => ?_)
      obtain ⟨hm3, hA3, -⟩ := id hM3
      refine wp_load (pc' := 30) (j := 0) dX9_goes_29 rfl rfl rfl ?_
      refine wp_get (pc' := 33) dX9_goes_30 fl_X9_149 hm3 rfl rfl ?_
      refine wp_ifT 40 dX9_goes_33 rfl (cmpT rfl) ?_
      refine wp_iconst (pc' := 41) (0) dX9_goes_40 rfl rfl ?_
      refine wp_iret dX9_goes_41 rfl rfl ?_
      simp only [mcode, h2, h10, Bool.false_eq_true, decide_true, decide_false, Bool.not_true, Bool.not_false, Bool.and_true, Bool.true_and, Bool.and_false, Bool.false_and, Bool.or_true, Bool.true_or, Bool.or_false, Bool.false_or, if_true, if_false, ite_true, ite_false] at hP
      exact hP _ hM3 hF3
  · skip
    refine wp_iconst (pc' := 6) (1) dX9_goes_5 rfl rfl ?_
    refine wp_goto 26 dX9_goes_6 rfl ?_
    refine wp_mput (pc' := 29) hM hF dX9_goes_26 fl_X9_149 rfl (by decide) rfl (fun G4 hM4 hF4 => ?_)
    obtain ⟨hm4, hA4, -⟩ := id hM4
    refine wp_load (pc' := 30) (j := 0) dX9_goes_29 rfl rfl rfl ?_
    refine wp_get (pc' := 33) dX9_goes_30 fl_X9_149 hm4 rfl rfl ?_
    refine wp_ifT 40 dX9_goes_33 rfl (cmpT rfl) ?_
    refine wp_iconst (pc' := 41) (0) dX9_goes_40 rfl rfl ?_
    refine wp_iret dX9_goes_41 rfl rfl ?_
    simp only [mcode, h2, Bool.false_eq_true, decide_true, decide_false, Bool.not_true, Bool.not_false, Bool.and_true, Bool.true_and, Bool.and_false, Bool.false_and, Bool.or_true, Bool.true_or, Bool.or_false, Bool.false_or, if_true, if_false, ite_true, ite_false] at hP
    exact hP _ hM4 hF4

set_option maxRecDepth 20000 in
set_option maxHeartbeats 2000000 in
theorem s_resets {E : XE} {d mc ms : Nat} {G : HP} {P : Ps} {m : Nat} {aM own : Nat → Nat} {σ : MS} (hM : MH m aM own σ G) {G0 : HP} (hF : Fr1 own G0 G) (hP : ∀ G', MH m aM own (rsF σ) G' → Fr1 own G0 G' → P (.inl none) G') : Sp E (d + 1) yX9_resets mc ms [.ref m] G P := by
  obtain ⟨hm, hA, -⟩ := id hM
  refine sp_intro bd_X9_resets (v1_all rfl) (Nat.le_of_ble_eq_true rfl) ?_
  change WX _ _ _ _ _ _ 0 [some (.ref m)] [] _ 0 0
  refine wp_load (pc' := 1) (j := 0) dX9_resets_0 rfl rfl rfl ?_
  refine wp_bipush (pc' := 3) (127) dX9_resets_1 rfl rfl ?_
  refine wp_mput (pc' := 6) hM hF dX9_resets_3 fl_X9_171 rfl (by decide) rfl (fun G1 hM1 hF1 => ?_)
  obtain ⟨hm1, hA1, -⟩ := id hM1
  refine wp_load (pc' := 7) (j := 0) dX9_resets_6 rfl rfl rfl ?_
  refine wp_iconst (pc' := 8) (0) dX9_resets_7 rfl rfl ?_
  refine wp_mput (pc' := 11) hM1 hF1 dX9_resets_8 fl_X9_174 rfl (by decide) rfl (fun G2 hM2 hF2 => ?_)
  obtain ⟨hm2, hA2, -⟩ := id hM2
  refine wp_load (pc' := 12) (j := 0) dX9_resets_11 rfl rfl rfl ?_
  refine wp_bipush (pc' := 14) (96) dX9_resets_12 rfl rfl ?_
  refine wp_mput (pc' := 17) hM2 hF2 dX9_resets_14 fl_X9_177 rfl (by decide) rfl (fun G3 hM3 hF3 => ?_)
  obtain ⟨hm3, hA3, -⟩ := id hM3
  refine wp_load (pc' := 18) (j := 0) dX9_resets_17 rfl rfl rfl ?_
  refine wp_iconst (pc' := 19) (0) dX9_resets_18 rfl rfl ?_
  refine wp_mput (pc' := 22) hM3 hF3 dX9_resets_19 fl_X9_180 rfl (by decide) rfl (fun G4 hM4 hF4 => ?_)
  obtain ⟨hm4, hA4, -⟩ := id hM4
  refine wp_load (pc' := 23) (j := 0) dX9_resets_22 rfl rfl rfl ?_
  refine wp_sipush (pc' := 26) (520) dX9_resets_23 rfl rfl ?_
  refine wp_mput (pc' := 29) hM4 hF4 dX9_resets_26 fl_X9_183 rfl (by decide) rfl (fun G5 hM5 hF5 => ?_)
  obtain ⟨hm5, hA5, -⟩ := id hM5
  refine wp_vret dX9_resets_29 rfl ?_
  exact hP _ hM5 hF5

set_option maxRecDepth 20000 in
set_option maxHeartbeats 2000000 in
theorem p_block {E : XE} {d mc ms : Nat} {G : HP} {P : Ps} {m : Nat} {aM own : Nat → Nat} {σ : MS} (hM : MH m aM own σ G) {s mt : Int32} {is : Bool} (hX : ∀ c G', c = K_block s mt → c ≠ 0 → MH m aM own (msc σ 56 c) G' → Fr1 own G G' → P (.inl (some (.int 0))) G') (hT : ∀ a b, a < 4 → b < 60 → s = nI a → mt = nI b → ∀ G', MH m aM own (mbr (zz σ) 1 (60 * a + b) is) G' → Fr1 own G G' → P (.inl (some (.int (b2i (σ.2.2 1 (60 * a + b)))))) G') : Sp E (d + 3) yX9_block mc ms [.ref m, .int s, .int mt, .int (b2i is)] G P := by
  have hF : Fr1 own G G := fr1_rf
  obtain ⟨hm, hA, -⟩ := id hM
  refine sp_intro bd_X9_block (v1_all rfl) (Nat.le_of_ble_eq_true rfl) ?_
  change WX _ _ _ _ _ _ 0 [some (.ref m), some (.int s), some (.int mt), some (.int (b2i is)), none] [] _ 0 0
  refine wp_load (pc' := 1) (j := 0) dX9_block_0 rfl rfl rfl ?_
  refine wp_load (pc' := 2) (j := 1) dX9_block_1 rfl rfl rfl ?_
  refine wp_s1 0 0 dX9_block_2 ml_X9_160 (Nat.le_of_ble_eq_true rfl) (by omega) (by omega) ?_
  refine s_isStreet _ ?_
  refine kt_v ?_
  refine wp_ifeqB (pc' := 8) 19 dX9_block_5 rfl rfl (fun h5 => ?_) (fun h5 => ?_)
  · skip
    refine wp_iconst (pc' := 20) (0) dX9_block_19 rfl rfl ?_
    refine wp_iconst (pc' := 21) (1) dX9_block_20 rfl rfl ?_
    refine wp_iconst (pc' := 22) (1) dX9_block_21 rfl rfl ?_
    refine wp_v3 0 0 dX9_block_22 ml_X9_167 hm (Nat.le_of_ble_eq_true rfl) (by omega) (by omega) ?_
    refine s_goes hM hF false true true (fun G1 hM1 hF1 => ?_)
    refine kt_v ?_
    obtain ⟨hm1, hA1, -⟩ := id hM1
    refine wp_ifF (pc' := 28) 30 dX9_block_25 rfl rfl (cmpF rfl) ?_
    refine wp_iconst (pc' := 29) (0) dX9_block_28 rfl rfl ?_
    refine wp_iret dX9_block_29 rfl rfl ?_
    exact hX _ _ (by simp only [mcode, K_block, h5, Bool.false_eq_true, decide_true, decide_false, Bool.not_true, Bool.not_false, Bool.and_true, Bool.true_and, Bool.and_false, Bool.false_and, Bool.or_true, Bool.true_or, Bool.or_false, Bool.false_or, if_true, if_false, ite_true, ite_false]) (by decide) hM1 hF1
  · skip
    refine wp_load (pc' := 9) (j := 2) dX9_block_8 rfl rfl rfl ?_
    refine wp_s1 0 0 dX9_block_9 ml_X9_164 (Nat.le_of_ble_eq_true rfl) (by omega) (by omega) ?_
    refine s_isMetre _ ?_
    refine kt_v ?_
    refine wp_ifeqB (pc' := 15) 19 dX9_block_12 rfl rfl (fun h12 => ?_) (fun h12 => ?_)
    · skip
      refine wp_iconst (pc' := 20) (0) dX9_block_19 rfl rfl ?_
      refine wp_iconst (pc' := 21) (1) dX9_block_20 rfl rfl ?_
      refine wp_iconst (pc' := 22) (1) dX9_block_21 rfl rfl ?_
      refine wp_v3 0 0 dX9_block_22 ml_X9_167 hm (Nat.le_of_ble_eq_true rfl) (by omega) (by omega) ?_
      refine s_goes hM hF false true true (fun G2 hM2 hF2 => ?_)
      refine kt_v ?_
      obtain ⟨hm2, hA2, -⟩ := id hM2
      refine wp_ifF (pc' := 28) 30 dX9_block_25 rfl rfl (cmpF rfl) ?_
      refine wp_iconst (pc' := 29) (0) dX9_block_28 rfl rfl ?_
      refine wp_iret dX9_block_29 rfl rfl ?_
      exact hX _ _ (by simp only [mcode, K_block, h5, h12, Bool.false_eq_true, decide_true, decide_false, Bool.not_true, Bool.not_false, Bool.and_true, Bool.true_and, Bool.and_false, Bool.false_and, Bool.or_true, Bool.true_or, Bool.or_false, Bool.false_or, if_true, if_false, ite_true, ite_false]) (by decide) hM2 hF2
    · skip
      refine wp_iconst (pc' := 16) (1) dX9_block_15 rfl rfl ?_
      refine wp_goto 20 dX9_block_16 rfl ?_
      refine wp_iconst (pc' := 21) (1) dX9_block_20 rfl rfl ?_
      refine wp_iconst (pc' := 22) (1) dX9_block_21 rfl rfl ?_
      refine wp_v3 0 0 dX9_block_22 ml_X9_167 hm (Nat.le_of_ble_eq_true rfl) (by omega) (by omega) ?_
      refine s_goes hM hF true true true (fun G3 hM3 hF3 => ?_)
      refine kt_v ?_
      replace hM3 : MH m aM own (zz σ) G3 := hM3
      obtain ⟨hm3, hA3, -⟩ := id hM3
      refine wp_ifT 30 dX9_block_25 rfl (cmpT rfl) ?_
      obtain ⟨a, ha, rfl⟩ := st_nI h5
      obtain ⟨b, hb, rfl⟩ := mt_nI h12
      refine wp_load (pc' := 31) (j := 0) dX9_block_30 rfl rfl rfl ?_
      refine wp_get (pc' := 34) dX9_block_31 fl_X9_7 hm3 rfl rfl ?_
      refine wp_bipush (pc' := 36) (60) dX9_block_34 rfl rfl ?_
      refine wp_load (pc' := 37) (j := 1) dX9_block_36 rfl rfl rfl ?_
      refine wp_pure (pc' := 38) dX9_block_37 rfl rfl ?_
      refine wp_load (pc' := 39) (j := 2) dX9_block_38 rfl rfl rfl ?_
      refine wp_pure (pc' := 40) dX9_block_39 rfl rfl ?_
      refine wp_zald (pc' := 41) dX9_block_40 (hA3 1 (by decide)) mul60 (show 60 * a + b < 240 from by omega) (by decide) rfl ?_
      refine wp_store (pc' := 43) (j := 4) (ls' := [_, _, _, _, _]) dX9_block_41 rfl (Nat.le_of_ble_eq_true rfl) rfl rfl ?_
      refine wp_load (pc' := 44) (j := 0) dX9_block_43 rfl rfl rfl ?_
      refine wp_get (pc' := 47) dX9_block_44 fl_X9_7 hm3 rfl rfl ?_
      refine wp_bipush (pc' := 49) (60) dX9_block_47 rfl rfl ?_
      refine wp_load (pc' := 50) (j := 1) dX9_block_49 rfl rfl rfl ?_
      refine wp_pure (pc' := 51) dX9_block_50 rfl rfl ?_
      refine wp_load (pc' := 52) (j := 2) dX9_block_51 rfl rfl rfl ?_
      refine wp_pure (pc' := 53) dX9_block_52 rfl rfl ?_
      refine wp_load (pc' := 54) (j := 3) dX9_block_53 rfl rfl rfl ?_
      refine wp_mza (pc' := 55) hM3 hF3 1 (by decide) (by decide) dX9_block_54 mul60 (show 60 * a + b < 240 from by omega) (by decide) rfl (fun G4 hM4 hF4 => ?_)
      obtain ⟨hm4, hA4, -⟩ := id hM4
      refine wp_load (pc' := 57) (j := 4) dX9_block_55 rfl rfl rfl ?_
      refine wp_iret dX9_block_57 rfl nar_b2i ?_
      exact hT a b ha hb rfl rfl _ hM4 hF4

set_option maxRecDepth 20000 in
set_option maxHeartbeats 2000000 in
theorem p_times {E : XE} {d mc ms : Nat} {G : HP} {P : Ps} {m : Nat} {aM own : Nat → Nat} {σ : MS} (hM : MH m aM own σ G) {w f t : Int32} (hX : ∀ c G', c = K_times w f t → c ≠ 0 → MH m aM own (msc σ 56 c) G' → Fr1 own G G' → P (.inl none) G') (hT : K_times w f t = 0 → ∀ G', MH m aM own (msc (msc (msc (zz σ) 2 w) 3 f) 4 t) G' → Fr1 own G G' → P (.inl none) G') : Sp E (d + 3) yX9_times mc ms [.ref m, .int w, .int f, .int t] G P := by
  have hF : Fr1 own G G := fr1_rf
  obtain ⟨hm, hA, -⟩ := id hM
  refine sp_intro bd_X9_times (v1_all rfl) (Nat.le_of_ble_eq_true rfl) ?_
  change WX _ _ _ _ _ _ 0 [some (.ref m), some (.int w), some (.int f), some (.int t)] [] _ 0 0
  refine wp_load (pc' := 1) (j := 0) dX9_times_0 rfl rfl rfl ?_
  refine wp_load (pc' := 2) (j := 1) dX9_times_1 rfl rfl rfl ?_
  refine wp_iconst (pc' := 3) (1) dX9_times_2 rfl rfl ?_
  refine wp_bipush (pc' := 5) (127) dX9_times_3 rfl rfl ?_
  refine wp_s3 0 0 dX9_times_5 ml_X9_153 (Nat.le_of_ble_eq_true rfl) (by omega) (by omega) ?_
  refine s_in _ _ _ ?_
  refine kt_v ?_
  refine wp_ifeqB (pc' := 11) 36 dX9_times_8 rfl rfl (fun h8 => ?_) (fun h8 => ?_)
  · skip
    refine wp_iconst (pc' := 37) (0) dX9_times_36 rfl rfl ?_
    refine wp_iconst (pc' := 38) (1) dX9_times_37 rfl rfl ?_
    refine wp_iconst (pc' := 39) (1) dX9_times_38 rfl rfl ?_
    refine wp_v3 0 0 dX9_times_39 ml_X9_167 hm (Nat.le_of_ble_eq_true rfl) (by omega) (by omega) ?_
    refine s_goes hM hF false true true (fun G1 hM1 hF1 => ?_)
    refine kt_v ?_
    obtain ⟨hm1, hA1, -⟩ := id hM1
    refine wp_ifT 60 dX9_times_42 rfl (cmpT rfl) ?_
    refine wp_vret dX9_times_60 rfl ?_
    exact hX _ _ (by simp only [mcode, K_times, h8, Bool.false_eq_true, decide_true, decide_false, Bool.not_true, Bool.not_false, Bool.and_true, Bool.true_and, Bool.and_false, Bool.false_and, Bool.or_true, Bool.true_or, Bool.or_false, Bool.false_or, if_true, if_false, ite_true, ite_false]) (by decide) hM1 hF1
  · skip
    refine wp_load (pc' := 12) (j := 2) dX9_times_11 rfl rfl rfl ?_
    refine wp_iconst (pc' := 13) (0) dX9_times_12 rfl rfl ?_
    refine wp_bipush (pc' := 15) (95) dX9_times_13 rfl rfl ?_
    refine wp_s3 0 0 dX9_times_15 ml_X9_153 (Nat.le_of_ble_eq_true rfl) (by omega) (by omega) ?_
    refine s_in _ _ _ ?_
    refine kt_v ?_
    refine wp_ifeqB (pc' := 21) 36 dX9_times_18 rfl rfl (fun h18 => ?_) (fun h18 => ?_)
    · skip
      refine wp_iconst (pc' := 37) (0) dX9_times_36 rfl rfl ?_
      refine wp_iconst (pc' := 38) (1) dX9_times_37 rfl rfl ?_
      refine wp_iconst (pc' := 39) (1) dX9_times_38 rfl rfl ?_
      refine wp_v3 0 0 dX9_times_39 ml_X9_167 hm (Nat.le_of_ble_eq_true rfl) (by omega) (by omega) ?_
      refine s_goes hM hF false true true (fun G2 hM2 hF2 => ?_)
      refine kt_v ?_
      obtain ⟨hm2, hA2, -⟩ := id hM2
      refine wp_ifT 60 dX9_times_42 rfl (cmpT rfl) ?_
      refine wp_vret dX9_times_60 rfl ?_
      exact hX _ _ (by simp only [mcode, K_times, h8, h18, Bool.false_eq_true, decide_true, decide_false, Bool.not_true, Bool.not_false, Bool.and_true, Bool.true_and, Bool.and_false, Bool.false_and, Bool.or_true, Bool.true_or, Bool.or_false, Bool.false_or, if_true, if_false, ite_true, ite_false]) (by decide) hM2 hF2
    · skip
      refine wp_load (pc' := 22) (j := 3) dX9_times_21 rfl rfl rfl ?_
      refine wp_load (pc' := 23) (j := 2) dX9_times_22 rfl rfl rfl ?_
      refine wp_icmp_le (pc' := 26) 36 dX9_times_23 rfl rfl (fun h23 => ?_) (fun h23 => ?_)
      · skip
        refine wp_iconst (pc' := 37) (0) dX9_times_36 rfl rfl ?_
        refine wp_iconst (pc' := 38) (1) dX9_times_37 rfl rfl ?_
        refine wp_iconst (pc' := 39) (1) dX9_times_38 rfl rfl ?_
        refine wp_v3 0 0 dX9_times_39 ml_X9_167 hm (Nat.le_of_ble_eq_true rfl) (by omega) (by omega) ?_
        refine s_goes hM hF false true true (fun G3 hM3 hF3 => ?_)
        refine kt_v ?_
        obtain ⟨hm3, hA3, -⟩ := id hM3
        refine wp_ifT 60 dX9_times_42 rfl (cmpT rfl) ?_
        refine wp_vret dX9_times_60 rfl ?_
        exact hX _ _ (by simp only [mcode, K_times, h8, h18, h23, Bool.false_eq_true, decide_true, decide_false, Bool.not_true, Bool.not_false, Bool.and_true, Bool.true_and, Bool.and_false, Bool.false_and, Bool.or_true, Bool.true_or, Bool.or_false, Bool.false_or, if_true, if_false, ite_true, ite_false]) (by decide) hM3 hF3
      · skip
        refine wp_load (pc' := 27) (j := 3) dX9_times_26 rfl rfl rfl ?_
        refine wp_bipush (pc' := 29) (96) dX9_times_27 rfl rfl ?_
        refine wp_icmp_gt (pc' := 32) 36 dX9_times_29 rfl rfl (fun h29 => ?_) (fun h29 => ?_)
        · skip
          refine wp_iconst (pc' := 37) (0) dX9_times_36 rfl rfl ?_
          refine wp_iconst (pc' := 38) (1) dX9_times_37 rfl rfl ?_
          refine wp_iconst (pc' := 39) (1) dX9_times_38 rfl rfl ?_
          refine wp_v3 0 0 dX9_times_39 ml_X9_167 hm (Nat.le_of_ble_eq_true rfl) (by omega) (by omega) ?_
          refine s_goes hM hF false true true (fun G4 hM4 hF4 => ?_)
          refine kt_v ?_
          obtain ⟨hm4, hA4, -⟩ := id hM4
          refine wp_ifT 60 dX9_times_42 rfl (cmpT rfl) ?_
          refine wp_vret dX9_times_60 rfl ?_
          exact hX _ _ (by simp only [mcode, K_times, h8, h18, h23, h29, Bool.false_eq_true, decide_true, decide_false, Bool.not_true, Bool.not_false, Bool.and_true, Bool.true_and, Bool.and_false, Bool.false_and, Bool.or_true, Bool.true_or, Bool.or_false, Bool.false_or, if_true, if_false, ite_true, ite_false]) (by decide) hM4 hF4
        · skip
          refine wp_iconst (pc' := 33) (1) dX9_times_32 rfl rfl ?_
          refine wp_goto 37 dX9_times_33 rfl ?_
          refine wp_iconst (pc' := 38) (1) dX9_times_37 rfl rfl ?_
          refine wp_iconst (pc' := 39) (1) dX9_times_38 rfl rfl ?_
          refine wp_v3 0 0 dX9_times_39 ml_X9_167 hm (Nat.le_of_ble_eq_true rfl) (by omega) (by omega) ?_
          refine s_goes hM hF true true true (fun G5 hM5 hF5 => ?_)
          refine kt_v ?_
          replace hM5 : MH m aM own (zz σ) G5 := hM5
          obtain ⟨hm5, hA5, -⟩ := id hM5
          refine wp_ifF (pc' := 45) 60 dX9_times_42 rfl rfl (cmpF rfl) ?_
          refine wp_load (pc' := 46) (j := 0) dX9_times_45 rfl rfl rfl ?_
          refine wp_load (pc' := 47) (j := 1) dX9_times_46 rfl rfl rfl ?_
          refine wp_mput (pc' := 50) hM5 hF5 dX9_times_47 fl_X9_171 rfl (by decide) rfl (fun G6 hM6 hF6 => ?_)
          obtain ⟨hm6, hA6, -⟩ := id hM6
          refine wp_load (pc' := 51) (j := 0) dX9_times_50 rfl rfl rfl ?_
          refine wp_load (pc' := 52) (j := 2) dX9_times_51 rfl rfl rfl ?_
          refine wp_mput (pc' := 55) hM6 hF6 dX9_times_52 fl_X9_174 rfl (by decide) rfl (fun G7 hM7 hF7 => ?_)
          obtain ⟨hm7, hA7, -⟩ := id hM7
          refine wp_load (pc' := 56) (j := 0) dX9_times_55 rfl rfl rfl ?_
          refine wp_load (pc' := 57) (j := 3) dX9_times_56 rfl rfl rfl ?_
          refine wp_mput (pc' := 60) hM7 hF7 dX9_times_57 fl_X9_177 rfl (by decide) rfl (fun G8 hM8 hF8 => ?_)
          obtain ⟨hm8, hA8, -⟩ := id hM8
          refine wp_vret dX9_times_60 rfl ?_
          exact hT (by simp only [mcode, K_times, h8, h18, h23, h29, Bool.false_eq_true, decide_true, decide_false, Bool.not_true, Bool.not_false, Bool.and_true, Bool.true_and, Bool.and_false, Bool.false_and, Bool.or_true, Bool.true_or, Bool.or_false, Bool.false_or, if_true, if_false, ite_true, ite_false]) _ hM8 hF8

set_option maxRecDepth 20000 in
set_option maxHeartbeats 2000000 in
theorem p_dates {E : XE} {d mc ms : Nat} {G : HP} {P : Ps} {m : Nat} {aM own : Nat → Nat} {σ : MS} (hM : MH m aM own σ G) {f t : Int32} (hX : ∀ c G', c = K_dates f t → c ≠ 0 → MH m aM own (msc σ 56 c) G' → Fr1 own G G' → P (.inl none) G') (hT : K_dates f t = 0 → ∀ G', MH m aM own (msc (msc (zz σ) 5 f) 6 t) G' → Fr1 own G G' → P (.inl none) G') : Sp E (d + 3) yX9_dates mc ms [.ref m, .int f, .int t] G P := by
  have hF : Fr1 own G G := fr1_rf
  obtain ⟨hm, hA, -⟩ := id hM
  refine sp_intro bd_X9_dates (v1_all rfl) (Nat.le_of_ble_eq_true rfl) ?_
  change WX _ _ _ _ _ _ 0 [some (.ref m), some (.int f), some (.int t)] [] _ 0 0
  refine wp_load (pc' := 1) (j := 0) dX9_dates_0 rfl rfl rfl ?_
  refine wp_load (pc' := 2) (j := 1) dX9_dates_1 rfl rfl rfl ?_
  refine wp_iconst (pc' := 3) (0) dX9_dates_2 rfl rfl ?_
  refine wp_sipush (pc' := 6) (520) dX9_dates_3 rfl rfl ?_
  refine wp_s3 0 0 dX9_dates_6 ml_X9_153 (Nat.le_of_ble_eq_true rfl) (by omega) (by omega) ?_
  refine s_in _ _ _ ?_
  refine kt_v ?_
  refine wp_ifeqB (pc' := 12) 27 dX9_dates_9 rfl rfl (fun h9 => ?_) (fun h9 => ?_)
  · skip
    refine wp_iconst (pc' := 28) (0) dX9_dates_27 rfl rfl ?_
    refine wp_iconst (pc' := 29) (1) dX9_dates_28 rfl rfl ?_
    refine wp_iconst (pc' := 30) (1) dX9_dates_29 rfl rfl ?_
    refine wp_v3 0 0 dX9_dates_30 ml_X9_167 hm (Nat.le_of_ble_eq_true rfl) (by omega) (by omega) ?_
    refine s_goes hM hF false true true (fun G1 hM1 hF1 => ?_)
    refine kt_v ?_
    obtain ⟨hm1, hA1, -⟩ := id hM1
    refine wp_ifT 46 dX9_dates_33 rfl (cmpT rfl) ?_
    refine wp_vret dX9_dates_46 rfl ?_
    exact hX _ _ (by simp only [mcode, K_dates, h9, Bool.false_eq_true, decide_true, decide_false, Bool.not_true, Bool.not_false, Bool.and_true, Bool.true_and, Bool.and_false, Bool.false_and, Bool.or_true, Bool.true_or, Bool.or_false, Bool.false_or, if_true, if_false, ite_true, ite_false]) (by decide) hM1 hF1
  · skip
    refine wp_load (pc' := 13) (j := 2) dX9_dates_12 rfl rfl rfl ?_
    refine wp_load (pc' := 14) (j := 1) dX9_dates_13 rfl rfl rfl ?_
    refine wp_sipush (pc' := 17) (520) dX9_dates_14 rfl rfl ?_
    refine wp_s3 0 0 dX9_dates_17 ml_X9_153 (Nat.le_of_ble_eq_true rfl) (by omega) (by omega) ?_
    refine s_in _ _ _ ?_
    refine kt_v ?_
    refine wp_ifeqB (pc' := 23) 27 dX9_dates_20 rfl rfl (fun h20 => ?_) (fun h20 => ?_)
    · skip
      refine wp_iconst (pc' := 28) (0) dX9_dates_27 rfl rfl ?_
      refine wp_iconst (pc' := 29) (1) dX9_dates_28 rfl rfl ?_
      refine wp_iconst (pc' := 30) (1) dX9_dates_29 rfl rfl ?_
      refine wp_v3 0 0 dX9_dates_30 ml_X9_167 hm (Nat.le_of_ble_eq_true rfl) (by omega) (by omega) ?_
      refine s_goes hM hF false true true (fun G2 hM2 hF2 => ?_)
      refine kt_v ?_
      obtain ⟨hm2, hA2, -⟩ := id hM2
      refine wp_ifT 46 dX9_dates_33 rfl (cmpT rfl) ?_
      refine wp_vret dX9_dates_46 rfl ?_
      exact hX _ _ (by simp only [mcode, K_dates, h9, h20, Bool.false_eq_true, decide_true, decide_false, Bool.not_true, Bool.not_false, Bool.and_true, Bool.true_and, Bool.and_false, Bool.false_and, Bool.or_true, Bool.true_or, Bool.or_false, Bool.false_or, if_true, if_false, ite_true, ite_false]) (by decide) hM2 hF2
    · skip
      refine wp_iconst (pc' := 24) (1) dX9_dates_23 rfl rfl ?_
      refine wp_goto 28 dX9_dates_24 rfl ?_
      refine wp_iconst (pc' := 29) (1) dX9_dates_28 rfl rfl ?_
      refine wp_iconst (pc' := 30) (1) dX9_dates_29 rfl rfl ?_
      refine wp_v3 0 0 dX9_dates_30 ml_X9_167 hm (Nat.le_of_ble_eq_true rfl) (by omega) (by omega) ?_
      refine s_goes hM hF true true true (fun G3 hM3 hF3 => ?_)
      refine kt_v ?_
      replace hM3 : MH m aM own (zz σ) G3 := hM3
      obtain ⟨hm3, hA3, -⟩ := id hM3
      refine wp_ifF (pc' := 36) 46 dX9_dates_33 rfl rfl (cmpF rfl) ?_
      refine wp_load (pc' := 37) (j := 0) dX9_dates_36 rfl rfl rfl ?_
      refine wp_load (pc' := 38) (j := 1) dX9_dates_37 rfl rfl rfl ?_
      refine wp_mput (pc' := 41) hM3 hF3 dX9_dates_38 fl_X9_180 rfl (by decide) rfl (fun G4 hM4 hF4 => ?_)
      obtain ⟨hm4, hA4, -⟩ := id hM4
      refine wp_load (pc' := 42) (j := 0) dX9_dates_41 rfl rfl rfl ?_
      refine wp_load (pc' := 43) (j := 2) dX9_dates_42 rfl rfl rfl ?_
      refine wp_mput (pc' := 46) hM4 hF4 dX9_dates_43 fl_X9_183 rfl (by decide) rfl (fun G5 hM5 hF5 => ?_)
      obtain ⟨hm5, hA5, -⟩ := id hM5
      refine wp_vret dX9_dates_46 rfl ?_
      exact hT (by simp only [mcode, K_dates, h9, h20, Bool.false_eq_true, decide_true, decide_false, Bool.not_true, Bool.not_false, Bool.and_true, Bool.true_and, Bool.and_false, Bool.false_and, Bool.or_true, Bool.true_or, Bool.or_false, Bool.false_or, if_true, if_false, ite_true, ite_false]) _ hM5 hF5

set_option maxRecDepth 20000 in
set_option maxHeartbeats 2000000 in
theorem p_sign {E : XE} {d mc ms : Nat} {G : HP} {P : Ps} {m : Nat} {aM own : Nat → Nat} {σ : MS} (hM : MH m aM own σ G) {n : Nat} (hs : σ.1 7 = nI n) (hs30 : n ≤ 30) {st f t u sy : Int32} {fee tmp : Bool} (hX : ∀ c G', c = K_sign σ st f t u sy → c ≠ 0 → MH m aM own (msc σ 56 c) G' → Fr1 own G G' → P (.inl (some (.int 0))) G') (hT : K_sign σ st f t u sy = 0 → n < 30 → ∀ G', MH m aM own (sgnF σ n st f t u sy fee tmp) G' → Fr1 own G G' → P (.inl (some (.int (σ.1 7 + 1 - 1)))) G') : Sp E (d + 3) yX9_sign mc ms [.ref m, .int st, .int f, .int t, .int u, .int sy, .int (b2i fee), .int (b2i tmp)] G P := by
  have hF : Fr1 own G G := fr1_rf
  obtain ⟨hm, hA, -⟩ := id hM
  refine sp_intro bd_X9_sign (v1_all rfl) (Nat.le_of_ble_eq_true rfl) ?_
  change WX _ _ _ _ _ _ 0 [some (.ref m), some (.int st), some (.int f), some (.int t), some (.int u), some (.int sy), some (.int (b2i fee)), some (.int (b2i tmp))] [] _ 0 0
  refine wp_load (pc' := 1) (j := 0) dX9_sign_0 rfl rfl rfl ?_
  refine wp_load (pc' := 2) (j := 1) dX9_sign_1 rfl rfl rfl ?_
  refine wp_s1 0 0 dX9_sign_2 ml_X9_160 (Nat.le_of_ble_eq_true rfl) (by omega) (by omega) ?_
  refine s_isStreet _ ?_
  refine kt_v ?_
  refine wp_ifeqB (pc' := 8) 26 dX9_sign_5 rfl rfl (fun h5 => ?_) (fun h5 => ?_)
  · skip
    refine wp_iconst (pc' := 27) (0) dX9_sign_26 rfl rfl ?_
    refine wp_load (pc' := 28) (j := 3) dX9_sign_27 rfl rfl rfl ?_
    refine wp_load (pc' := 29) (j := 2) dX9_sign_28 rfl rfl rfl ?_
    refine wp_icmp_lt (pc' := 32) 58 dX9_sign_29 rfl rfl (fun h29 => ?_) (fun h29 => ?_)
    · skip
      refine wp_iconst (pc' := 59) (0) dX9_sign_58 rfl rfl ?_
      refine wp_load (pc' := 60) (j := 0) dX9_sign_59 rfl rfl rfl ?_
      refine wp_get (pc' := 63) dX9_sign_60 fl_X9_186 hm rfl rfl ?_
      refine wp_bipush (pc' := 65) (30) dX9_sign_63 rfl rfl ?_
      refine wp_icmp_ge (pc' := 68) 72 dX9_sign_65 rfl rfl (fun h65 => ?_) (fun h65 => ?_)
      · skip
        refine wp_iconst (pc' := 73) (0) dX9_sign_72 rfl rfl ?_
        refine wp_v3 0 0 dX9_sign_73 ml_X9_167 hm (Nat.le_of_ble_eq_true rfl) (by omega) (by omega) ?_
        refine s_goes hM hF false false false (fun G1 hM1 hF1 => ?_)
        refine kt_v ?_
        obtain ⟨hm1, hA1, -⟩ := id hM1
        refine wp_ifF (pc' := 79) 81 dX9_sign_76 rfl rfl (cmpF rfl) ?_
        refine wp_iconst (pc' := 80) (0) dX9_sign_79 rfl rfl ?_
        refine wp_iret dX9_sign_80 rfl rfl ?_
        exact hX _ _ (by simp only [mcode, K_sign, h5, h29, h65, Bool.false_eq_true, decide_true, decide_false, Bool.not_true, Bool.not_false, Bool.and_true, Bool.true_and, Bool.and_false, Bool.false_and, Bool.or_true, Bool.true_or, Bool.or_false, Bool.false_or, if_true, if_false, ite_true, ite_false]) (by decide) hM1 hF1
      · skip
        refine wp_iconst (pc' := 69) (1) dX9_sign_68 rfl rfl ?_
        refine wp_goto 73 dX9_sign_69 rfl ?_
        refine wp_v3 0 0 dX9_sign_73 ml_X9_167 hm (Nat.le_of_ble_eq_true rfl) (by omega) (by omega) ?_
        refine s_goes hM hF false false true (fun G2 hM2 hF2 => ?_)
        refine kt_v ?_
        obtain ⟨hm2, hA2, -⟩ := id hM2
        refine wp_ifF (pc' := 79) 81 dX9_sign_76 rfl rfl (cmpF rfl) ?_
        refine wp_iconst (pc' := 80) (0) dX9_sign_79 rfl rfl ?_
        refine wp_iret dX9_sign_80 rfl rfl ?_
        exact hX _ _ (by simp only [mcode, K_sign, h5, h29, h65, Bool.false_eq_true, decide_true, decide_false, Bool.not_true, Bool.not_false, Bool.and_true, Bool.true_and, Bool.and_false, Bool.false_and, Bool.or_true, Bool.true_or, Bool.or_false, Bool.false_or, if_true, if_false, ite_true, ite_false]) (by decide) hM2 hF2
    · skip
      refine wp_load (pc' := 34) (j := 4) dX9_sign_32 rfl rfl rfl ?_
      refine wp_iconst (pc' := 35) (0) dX9_sign_34 rfl rfl ?_
      refine wp_bipush (pc' := 37) (31) dX9_sign_35 rfl rfl ?_
      refine wp_s3 0 0 dX9_sign_37 ml_X9_153 (Nat.le_of_ble_eq_true rfl) (by omega) (by omega) ?_
      refine s_in _ _ _ ?_
      refine kt_v ?_
      refine wp_ifeqB (pc' := 43) 58 dX9_sign_40 rfl rfl (fun h40 => ?_) (fun h40 => ?_)
      · skip
        refine wp_iconst (pc' := 59) (0) dX9_sign_58 rfl rfl ?_
        refine wp_load (pc' := 60) (j := 0) dX9_sign_59 rfl rfl rfl ?_
        refine wp_get (pc' := 63) dX9_sign_60 fl_X9_186 hm rfl rfl ?_
        refine wp_bipush (pc' := 65) (30) dX9_sign_63 rfl rfl ?_
        refine wp_icmp_ge (pc' := 68) 72 dX9_sign_65 rfl rfl (fun h65 => ?_) (fun h65 => ?_)
        · skip
          refine wp_iconst (pc' := 73) (0) dX9_sign_72 rfl rfl ?_
          refine wp_v3 0 0 dX9_sign_73 ml_X9_167 hm (Nat.le_of_ble_eq_true rfl) (by omega) (by omega) ?_
          refine s_goes hM hF false false false (fun G3 hM3 hF3 => ?_)
          refine kt_v ?_
          obtain ⟨hm3, hA3, -⟩ := id hM3
          refine wp_ifF (pc' := 79) 81 dX9_sign_76 rfl rfl (cmpF rfl) ?_
          refine wp_iconst (pc' := 80) (0) dX9_sign_79 rfl rfl ?_
          refine wp_iret dX9_sign_80 rfl rfl ?_
          exact hX _ _ (by simp only [mcode, K_sign, h5, h29, h40, h65, Bool.false_eq_true, decide_true, decide_false, Bool.not_true, Bool.not_false, Bool.and_true, Bool.true_and, Bool.and_false, Bool.false_and, Bool.or_true, Bool.true_or, Bool.or_false, Bool.false_or, if_true, if_false, ite_true, ite_false]) (by decide) hM3 hF3
        · skip
          refine wp_iconst (pc' := 69) (1) dX9_sign_68 rfl rfl ?_
          refine wp_goto 73 dX9_sign_69 rfl ?_
          refine wp_v3 0 0 dX9_sign_73 ml_X9_167 hm (Nat.le_of_ble_eq_true rfl) (by omega) (by omega) ?_
          refine s_goes hM hF false false true (fun G4 hM4 hF4 => ?_)
          refine kt_v ?_
          obtain ⟨hm4, hA4, -⟩ := id hM4
          refine wp_ifF (pc' := 79) 81 dX9_sign_76 rfl rfl (cmpF rfl) ?_
          refine wp_iconst (pc' := 80) (0) dX9_sign_79 rfl rfl ?_
          refine wp_iret dX9_sign_80 rfl rfl ?_
          exact hX _ _ (by simp only [mcode, K_sign, h5, h29, h40, h65, Bool.false_eq_true, decide_true, decide_false, Bool.not_true, Bool.not_false, Bool.and_true, Bool.true_and, Bool.and_false, Bool.false_and, Bool.or_true, Bool.true_or, Bool.or_false, Bool.false_or, if_true, if_false, ite_true, ite_false]) (by decide) hM4 hF4
      · skip
        refine wp_load (pc' := 45) (j := 5) dX9_sign_43 rfl rfl rfl ?_
        refine wp_iconst (pc' := 46) (0) dX9_sign_45 rfl rfl ?_
        refine wp_bipush (pc' := 48) (96) dX9_sign_46 rfl rfl ?_
        refine wp_s3 0 0 dX9_sign_48 ml_X9_153 (Nat.le_of_ble_eq_true rfl) (by omega) (by omega) ?_
        refine s_in _ _ _ ?_
        refine kt_v ?_
        refine wp_ifeqB (pc' := 54) 58 dX9_sign_51 rfl rfl (fun h51 => ?_) (fun h51 => ?_)
        · skip
          refine wp_iconst (pc' := 59) (0) dX9_sign_58 rfl rfl ?_
          refine wp_load (pc' := 60) (j := 0) dX9_sign_59 rfl rfl rfl ?_
          refine wp_get (pc' := 63) dX9_sign_60 fl_X9_186 hm rfl rfl ?_
          refine wp_bipush (pc' := 65) (30) dX9_sign_63 rfl rfl ?_
          refine wp_icmp_ge (pc' := 68) 72 dX9_sign_65 rfl rfl (fun h65 => ?_) (fun h65 => ?_)
          · skip
            refine wp_iconst (pc' := 73) (0) dX9_sign_72 rfl rfl ?_
            refine wp_v3 0 0 dX9_sign_73 ml_X9_167 hm (Nat.le_of_ble_eq_true rfl) (by omega) (by omega) ?_
            refine s_goes hM hF false false false (fun G5 hM5 hF5 => ?_)
            refine kt_v ?_
            obtain ⟨hm5, hA5, -⟩ := id hM5
            refine wp_ifF (pc' := 79) 81 dX9_sign_76 rfl rfl (cmpF rfl) ?_
            refine wp_iconst (pc' := 80) (0) dX9_sign_79 rfl rfl ?_
            refine wp_iret dX9_sign_80 rfl rfl ?_
            exact hX _ _ (by simp only [mcode, K_sign, h5, h29, h40, h51, h65, Bool.false_eq_true, decide_true, decide_false, Bool.not_true, Bool.not_false, Bool.and_true, Bool.true_and, Bool.and_false, Bool.false_and, Bool.or_true, Bool.true_or, Bool.or_false, Bool.false_or, if_true, if_false, ite_true, ite_false]) (by decide) hM5 hF5
          · skip
            refine wp_iconst (pc' := 69) (1) dX9_sign_68 rfl rfl ?_
            refine wp_goto 73 dX9_sign_69 rfl ?_
            refine wp_v3 0 0 dX9_sign_73 ml_X9_167 hm (Nat.le_of_ble_eq_true rfl) (by omega) (by omega) ?_
            refine s_goes hM hF false false true (fun G6 hM6 hF6 => ?_)
            refine kt_v ?_
            obtain ⟨hm6, hA6, -⟩ := id hM6
            refine wp_ifF (pc' := 79) 81 dX9_sign_76 rfl rfl (cmpF rfl) ?_
            refine wp_iconst (pc' := 80) (0) dX9_sign_79 rfl rfl ?_
            refine wp_iret dX9_sign_80 rfl rfl ?_
            exact hX _ _ (by simp only [mcode, K_sign, h5, h29, h40, h51, h65, Bool.false_eq_true, decide_true, decide_false, Bool.not_true, Bool.not_false, Bool.and_true, Bool.true_and, Bool.and_false, Bool.false_and, Bool.or_true, Bool.true_or, Bool.or_false, Bool.false_or, if_true, if_false, ite_true, ite_false]) (by decide) hM6 hF6
        · skip
          refine wp_iconst (pc' := 55) (1) dX9_sign_54 rfl rfl ?_
          refine wp_goto 59 dX9_sign_55 rfl ?_
          refine wp_load (pc' := 60) (j := 0) dX9_sign_59 rfl rfl rfl ?_
          refine wp_get (pc' := 63) dX9_sign_60 fl_X9_186 hm rfl rfl ?_
          refine wp_bipush (pc' := 65) (30) dX9_sign_63 rfl rfl ?_
          refine wp_icmp_ge (pc' := 68) 72 dX9_sign_65 rfl rfl (fun h65 => ?_) (fun h65 => ?_)
          · skip
            refine wp_iconst (pc' := 73) (0) dX9_sign_72 rfl rfl ?_
            refine wp_v3 0 0 dX9_sign_73 ml_X9_167 hm (Nat.le_of_ble_eq_true rfl) (by omega) (by omega) ?_
            refine s_goes hM hF false true false (fun G7 hM7 hF7 => ?_)
            refine kt_v ?_
            obtain ⟨hm7, hA7, -⟩ := id hM7
            refine wp_ifF (pc' := 79) 81 dX9_sign_76 rfl rfl (cmpF rfl) ?_
            refine wp_iconst (pc' := 80) (0) dX9_sign_79 rfl rfl ?_
            refine wp_iret dX9_sign_80 rfl rfl ?_
            exact hX _ _ (by simp only [mcode, K_sign, h5, h29, h40, h51, h65, Bool.false_eq_true, decide_true, decide_false, Bool.not_true, Bool.not_false, Bool.and_true, Bool.true_and, Bool.and_false, Bool.false_and, Bool.or_true, Bool.true_or, Bool.or_false, Bool.false_or, if_true, if_false, ite_true, ite_false]) (by decide) hM7 hF7
          · skip
            refine wp_iconst (pc' := 69) (1) dX9_sign_68 rfl rfl ?_
            refine wp_goto 73 dX9_sign_69 rfl ?_
            refine wp_v3 0 0 dX9_sign_73 ml_X9_167 hm (Nat.le_of_ble_eq_true rfl) (by omega) (by omega) ?_
            refine s_goes hM hF false true true (fun G8 hM8 hF8 => ?_)
            refine kt_v ?_
            obtain ⟨hm8, hA8, -⟩ := id hM8
            refine wp_ifF (pc' := 79) 81 dX9_sign_76 rfl rfl (cmpF rfl) ?_
            refine wp_iconst (pc' := 80) (0) dX9_sign_79 rfl rfl ?_
            refine wp_iret dX9_sign_80 rfl rfl ?_
            exact hX _ _ (by simp only [mcode, K_sign, h5, h29, h40, h51, h65, Bool.false_eq_true, decide_true, decide_false, Bool.not_true, Bool.not_false, Bool.and_true, Bool.true_and, Bool.and_false, Bool.false_and, Bool.or_true, Bool.true_or, Bool.or_false, Bool.false_or, if_true, if_false, ite_true, ite_false]) (by decide) hM8 hF8
  · skip
    refine wp_load (pc' := 9) (j := 2) dX9_sign_8 rfl rfl rfl ?_
    refine wp_s1 0 0 dX9_sign_9 ml_X9_164 (Nat.le_of_ble_eq_true rfl) (by omega) (by omega) ?_
    refine s_isMetre _ ?_
    refine kt_v ?_
    refine wp_ifeqB (pc' := 15) 26 dX9_sign_12 rfl rfl (fun h12 => ?_) (fun h12 => ?_)
    · skip
      refine wp_iconst (pc' := 27) (0) dX9_sign_26 rfl rfl ?_
      refine wp_load (pc' := 28) (j := 3) dX9_sign_27 rfl rfl rfl ?_
      refine wp_load (pc' := 29) (j := 2) dX9_sign_28 rfl rfl rfl ?_
      refine wp_icmp_lt (pc' := 32) 58 dX9_sign_29 rfl rfl (fun h29 => ?_) (fun h29 => ?_)
      · skip
        refine wp_iconst (pc' := 59) (0) dX9_sign_58 rfl rfl ?_
        refine wp_load (pc' := 60) (j := 0) dX9_sign_59 rfl rfl rfl ?_
        refine wp_get (pc' := 63) dX9_sign_60 fl_X9_186 hm rfl rfl ?_
        refine wp_bipush (pc' := 65) (30) dX9_sign_63 rfl rfl ?_
        refine wp_icmp_ge (pc' := 68) 72 dX9_sign_65 rfl rfl (fun h65 => ?_) (fun h65 => ?_)
        · skip
          refine wp_iconst (pc' := 73) (0) dX9_sign_72 rfl rfl ?_
          refine wp_v3 0 0 dX9_sign_73 ml_X9_167 hm (Nat.le_of_ble_eq_true rfl) (by omega) (by omega) ?_
          refine s_goes hM hF false false false (fun G9 hM9 hF9 => ?_)
          refine kt_v ?_
          obtain ⟨hm9, hA9, -⟩ := id hM9
          refine wp_ifF (pc' := 79) 81 dX9_sign_76 rfl rfl (cmpF rfl) ?_
          refine wp_iconst (pc' := 80) (0) dX9_sign_79 rfl rfl ?_
          refine wp_iret dX9_sign_80 rfl rfl ?_
          exact hX _ _ (by simp only [mcode, K_sign, h5, h12, h29, h65, Bool.false_eq_true, decide_true, decide_false, Bool.not_true, Bool.not_false, Bool.and_true, Bool.true_and, Bool.and_false, Bool.false_and, Bool.or_true, Bool.true_or, Bool.or_false, Bool.false_or, if_true, if_false, ite_true, ite_false]) (by decide) hM9 hF9
        · skip
          refine wp_iconst (pc' := 69) (1) dX9_sign_68 rfl rfl ?_
          refine wp_goto 73 dX9_sign_69 rfl ?_
          refine wp_v3 0 0 dX9_sign_73 ml_X9_167 hm (Nat.le_of_ble_eq_true rfl) (by omega) (by omega) ?_
          refine s_goes hM hF false false true (fun G10 hM10 hF10 => ?_)
          refine kt_v ?_
          obtain ⟨hm10, hA10, -⟩ := id hM10
          refine wp_ifF (pc' := 79) 81 dX9_sign_76 rfl rfl (cmpF rfl) ?_
          refine wp_iconst (pc' := 80) (0) dX9_sign_79 rfl rfl ?_
          refine wp_iret dX9_sign_80 rfl rfl ?_
          exact hX _ _ (by simp only [mcode, K_sign, h5, h12, h29, h65, Bool.false_eq_true, decide_true, decide_false, Bool.not_true, Bool.not_false, Bool.and_true, Bool.true_and, Bool.and_false, Bool.false_and, Bool.or_true, Bool.true_or, Bool.or_false, Bool.false_or, if_true, if_false, ite_true, ite_false]) (by decide) hM10 hF10
      · skip
        refine wp_load (pc' := 34) (j := 4) dX9_sign_32 rfl rfl rfl ?_
        refine wp_iconst (pc' := 35) (0) dX9_sign_34 rfl rfl ?_
        refine wp_bipush (pc' := 37) (31) dX9_sign_35 rfl rfl ?_
        refine wp_s3 0 0 dX9_sign_37 ml_X9_153 (Nat.le_of_ble_eq_true rfl) (by omega) (by omega) ?_
        refine s_in _ _ _ ?_
        refine kt_v ?_
        refine wp_ifeqB (pc' := 43) 58 dX9_sign_40 rfl rfl (fun h40 => ?_) (fun h40 => ?_)
        · skip
          refine wp_iconst (pc' := 59) (0) dX9_sign_58 rfl rfl ?_
          refine wp_load (pc' := 60) (j := 0) dX9_sign_59 rfl rfl rfl ?_
          refine wp_get (pc' := 63) dX9_sign_60 fl_X9_186 hm rfl rfl ?_
          refine wp_bipush (pc' := 65) (30) dX9_sign_63 rfl rfl ?_
          refine wp_icmp_ge (pc' := 68) 72 dX9_sign_65 rfl rfl (fun h65 => ?_) (fun h65 => ?_)
          · skip
            refine wp_iconst (pc' := 73) (0) dX9_sign_72 rfl rfl ?_
            refine wp_v3 0 0 dX9_sign_73 ml_X9_167 hm (Nat.le_of_ble_eq_true rfl) (by omega) (by omega) ?_
            refine s_goes hM hF false false false (fun G11 hM11 hF11 => ?_)
            refine kt_v ?_
            obtain ⟨hm11, hA11, -⟩ := id hM11
            refine wp_ifF (pc' := 79) 81 dX9_sign_76 rfl rfl (cmpF rfl) ?_
            refine wp_iconst (pc' := 80) (0) dX9_sign_79 rfl rfl ?_
            refine wp_iret dX9_sign_80 rfl rfl ?_
            exact hX _ _ (by simp only [mcode, K_sign, h5, h12, h29, h40, h65, Bool.false_eq_true, decide_true, decide_false, Bool.not_true, Bool.not_false, Bool.and_true, Bool.true_and, Bool.and_false, Bool.false_and, Bool.or_true, Bool.true_or, Bool.or_false, Bool.false_or, if_true, if_false, ite_true, ite_false]) (by decide) hM11 hF11
          · skip
            refine wp_iconst (pc' := 69) (1) dX9_sign_68 rfl rfl ?_
            refine wp_goto 73 dX9_sign_69 rfl ?_
            refine wp_v3 0 0 dX9_sign_73 ml_X9_167 hm (Nat.le_of_ble_eq_true rfl) (by omega) (by omega) ?_
            refine s_goes hM hF false false true (fun G12 hM12 hF12 => ?_)
            refine kt_v ?_
            obtain ⟨hm12, hA12, -⟩ := id hM12
            refine wp_ifF (pc' := 79) 81 dX9_sign_76 rfl rfl (cmpF rfl) ?_
            refine wp_iconst (pc' := 80) (0) dX9_sign_79 rfl rfl ?_
            refine wp_iret dX9_sign_80 rfl rfl ?_
            exact hX _ _ (by simp only [mcode, K_sign, h5, h12, h29, h40, h65, Bool.false_eq_true, decide_true, decide_false, Bool.not_true, Bool.not_false, Bool.and_true, Bool.true_and, Bool.and_false, Bool.false_and, Bool.or_true, Bool.true_or, Bool.or_false, Bool.false_or, if_true, if_false, ite_true, ite_false]) (by decide) hM12 hF12
        · skip
          refine wp_load (pc' := 45) (j := 5) dX9_sign_43 rfl rfl rfl ?_
          refine wp_iconst (pc' := 46) (0) dX9_sign_45 rfl rfl ?_
          refine wp_bipush (pc' := 48) (96) dX9_sign_46 rfl rfl ?_
          refine wp_s3 0 0 dX9_sign_48 ml_X9_153 (Nat.le_of_ble_eq_true rfl) (by omega) (by omega) ?_
          refine s_in _ _ _ ?_
          refine kt_v ?_
          refine wp_ifeqB (pc' := 54) 58 dX9_sign_51 rfl rfl (fun h51 => ?_) (fun h51 => ?_)
          · skip
            refine wp_iconst (pc' := 59) (0) dX9_sign_58 rfl rfl ?_
            refine wp_load (pc' := 60) (j := 0) dX9_sign_59 rfl rfl rfl ?_
            refine wp_get (pc' := 63) dX9_sign_60 fl_X9_186 hm rfl rfl ?_
            refine wp_bipush (pc' := 65) (30) dX9_sign_63 rfl rfl ?_
            refine wp_icmp_ge (pc' := 68) 72 dX9_sign_65 rfl rfl (fun h65 => ?_) (fun h65 => ?_)
            · skip
              refine wp_iconst (pc' := 73) (0) dX9_sign_72 rfl rfl ?_
              refine wp_v3 0 0 dX9_sign_73 ml_X9_167 hm (Nat.le_of_ble_eq_true rfl) (by omega) (by omega) ?_
              refine s_goes hM hF false false false (fun G13 hM13 hF13 => ?_)
              refine kt_v ?_
              obtain ⟨hm13, hA13, -⟩ := id hM13
              refine wp_ifF (pc' := 79) 81 dX9_sign_76 rfl rfl (cmpF rfl) ?_
              refine wp_iconst (pc' := 80) (0) dX9_sign_79 rfl rfl ?_
              refine wp_iret dX9_sign_80 rfl rfl ?_
              exact hX _ _ (by simp only [mcode, K_sign, h5, h12, h29, h40, h51, h65, Bool.false_eq_true, decide_true, decide_false, Bool.not_true, Bool.not_false, Bool.and_true, Bool.true_and, Bool.and_false, Bool.false_and, Bool.or_true, Bool.true_or, Bool.or_false, Bool.false_or, if_true, if_false, ite_true, ite_false]) (by decide) hM13 hF13
            · skip
              refine wp_iconst (pc' := 69) (1) dX9_sign_68 rfl rfl ?_
              refine wp_goto 73 dX9_sign_69 rfl ?_
              refine wp_v3 0 0 dX9_sign_73 ml_X9_167 hm (Nat.le_of_ble_eq_true rfl) (by omega) (by omega) ?_
              refine s_goes hM hF false false true (fun G14 hM14 hF14 => ?_)
              refine kt_v ?_
              obtain ⟨hm14, hA14, -⟩ := id hM14
              refine wp_ifF (pc' := 79) 81 dX9_sign_76 rfl rfl (cmpF rfl) ?_
              refine wp_iconst (pc' := 80) (0) dX9_sign_79 rfl rfl ?_
              refine wp_iret dX9_sign_80 rfl rfl ?_
              exact hX _ _ (by simp only [mcode, K_sign, h5, h12, h29, h40, h51, h65, Bool.false_eq_true, decide_true, decide_false, Bool.not_true, Bool.not_false, Bool.and_true, Bool.true_and, Bool.and_false, Bool.false_and, Bool.or_true, Bool.true_or, Bool.or_false, Bool.false_or, if_true, if_false, ite_true, ite_false]) (by decide) hM14 hF14
          · skip
            refine wp_iconst (pc' := 55) (1) dX9_sign_54 rfl rfl ?_
            refine wp_goto 59 dX9_sign_55 rfl ?_
            refine wp_load (pc' := 60) (j := 0) dX9_sign_59 rfl rfl rfl ?_
            refine wp_get (pc' := 63) dX9_sign_60 fl_X9_186 hm rfl rfl ?_
            refine wp_bipush (pc' := 65) (30) dX9_sign_63 rfl rfl ?_
            refine wp_icmp_ge (pc' := 68) 72 dX9_sign_65 rfl rfl (fun h65 => ?_) (fun h65 => ?_)
            · skip
              refine wp_iconst (pc' := 73) (0) dX9_sign_72 rfl rfl ?_
              refine wp_v3 0 0 dX9_sign_73 ml_X9_167 hm (Nat.le_of_ble_eq_true rfl) (by omega) (by omega) ?_
              refine s_goes hM hF false true false (fun G15 hM15 hF15 => ?_)
              refine kt_v ?_
              obtain ⟨hm15, hA15, -⟩ := id hM15
              refine wp_ifF (pc' := 79) 81 dX9_sign_76 rfl rfl (cmpF rfl) ?_
              refine wp_iconst (pc' := 80) (0) dX9_sign_79 rfl rfl ?_
              refine wp_iret dX9_sign_80 rfl rfl ?_
              exact hX _ _ (by simp only [mcode, K_sign, h5, h12, h29, h40, h51, h65, Bool.false_eq_true, decide_true, decide_false, Bool.not_true, Bool.not_false, Bool.and_true, Bool.true_and, Bool.and_false, Bool.false_and, Bool.or_true, Bool.true_or, Bool.or_false, Bool.false_or, if_true, if_false, ite_true, ite_false]) (by decide) hM15 hF15
            · skip
              refine wp_iconst (pc' := 69) (1) dX9_sign_68 rfl rfl ?_
              refine wp_goto 73 dX9_sign_69 rfl ?_
              refine wp_v3 0 0 dX9_sign_73 ml_X9_167 hm (Nat.le_of_ble_eq_true rfl) (by omega) (by omega) ?_
              refine s_goes hM hF false true true (fun G16 hM16 hF16 => ?_)
              refine kt_v ?_
              obtain ⟨hm16, hA16, -⟩ := id hM16
              refine wp_ifF (pc' := 79) 81 dX9_sign_76 rfl rfl (cmpF rfl) ?_
              refine wp_iconst (pc' := 80) (0) dX9_sign_79 rfl rfl ?_
              refine wp_iret dX9_sign_80 rfl rfl ?_
              exact hX _ _ (by simp only [mcode, K_sign, h5, h12, h29, h40, h51, h65, Bool.false_eq_true, decide_true, decide_false, Bool.not_true, Bool.not_false, Bool.and_true, Bool.true_and, Bool.and_false, Bool.false_and, Bool.or_true, Bool.true_or, Bool.or_false, Bool.false_or, if_true, if_false, ite_true, ite_false]) (by decide) hM16 hF16
    · skip
      refine wp_load (pc' := 16) (j := 3) dX9_sign_15 rfl rfl rfl ?_
      refine wp_s1 0 0 dX9_sign_16 ml_X9_164 (Nat.le_of_ble_eq_true rfl) (by omega) (by omega) ?_
      refine s_isMetre _ ?_
      refine kt_v ?_
      refine wp_ifeqB (pc' := 22) 26 dX9_sign_19 rfl rfl (fun h19 => ?_) (fun h19 => ?_)
      · skip
        refine wp_iconst (pc' := 27) (0) dX9_sign_26 rfl rfl ?_
        refine wp_load (pc' := 28) (j := 3) dX9_sign_27 rfl rfl rfl ?_
        refine wp_load (pc' := 29) (j := 2) dX9_sign_28 rfl rfl rfl ?_
        refine wp_icmp_lt (pc' := 32) 58 dX9_sign_29 rfl rfl (fun h29 => ?_) (fun h29 => ?_)
        · skip
          refine wp_iconst (pc' := 59) (0) dX9_sign_58 rfl rfl ?_
          refine wp_load (pc' := 60) (j := 0) dX9_sign_59 rfl rfl rfl ?_
          refine wp_get (pc' := 63) dX9_sign_60 fl_X9_186 hm rfl rfl ?_
          refine wp_bipush (pc' := 65) (30) dX9_sign_63 rfl rfl ?_
          refine wp_icmp_ge (pc' := 68) 72 dX9_sign_65 rfl rfl (fun h65 => ?_) (fun h65 => ?_)
          · skip
            refine wp_iconst (pc' := 73) (0) dX9_sign_72 rfl rfl ?_
            refine wp_v3 0 0 dX9_sign_73 ml_X9_167 hm (Nat.le_of_ble_eq_true rfl) (by omega) (by omega) ?_
            refine s_goes hM hF false false false (fun G17 hM17 hF17 => ?_)
            refine kt_v ?_
            obtain ⟨hm17, hA17, -⟩ := id hM17
            refine wp_ifF (pc' := 79) 81 dX9_sign_76 rfl rfl (cmpF rfl) ?_
            refine wp_iconst (pc' := 80) (0) dX9_sign_79 rfl rfl ?_
            refine wp_iret dX9_sign_80 rfl rfl ?_
            exact hX _ _ (by simp only [mcode, K_sign, h5, h12, h19, h29, h65, Bool.false_eq_true, decide_true, decide_false, Bool.not_true, Bool.not_false, Bool.and_true, Bool.true_and, Bool.and_false, Bool.false_and, Bool.or_true, Bool.true_or, Bool.or_false, Bool.false_or, if_true, if_false, ite_true, ite_false]) (by decide) hM17 hF17
          · skip
            refine wp_iconst (pc' := 69) (1) dX9_sign_68 rfl rfl ?_
            refine wp_goto 73 dX9_sign_69 rfl ?_
            refine wp_v3 0 0 dX9_sign_73 ml_X9_167 hm (Nat.le_of_ble_eq_true rfl) (by omega) (by omega) ?_
            refine s_goes hM hF false false true (fun G18 hM18 hF18 => ?_)
            refine kt_v ?_
            obtain ⟨hm18, hA18, -⟩ := id hM18
            refine wp_ifF (pc' := 79) 81 dX9_sign_76 rfl rfl (cmpF rfl) ?_
            refine wp_iconst (pc' := 80) (0) dX9_sign_79 rfl rfl ?_
            refine wp_iret dX9_sign_80 rfl rfl ?_
            exact hX _ _ (by simp only [mcode, K_sign, h5, h12, h19, h29, h65, Bool.false_eq_true, decide_true, decide_false, Bool.not_true, Bool.not_false, Bool.and_true, Bool.true_and, Bool.and_false, Bool.false_and, Bool.or_true, Bool.true_or, Bool.or_false, Bool.false_or, if_true, if_false, ite_true, ite_false]) (by decide) hM18 hF18
        · skip
          refine wp_load (pc' := 34) (j := 4) dX9_sign_32 rfl rfl rfl ?_
          refine wp_iconst (pc' := 35) (0) dX9_sign_34 rfl rfl ?_
          refine wp_bipush (pc' := 37) (31) dX9_sign_35 rfl rfl ?_
          refine wp_s3 0 0 dX9_sign_37 ml_X9_153 (Nat.le_of_ble_eq_true rfl) (by omega) (by omega) ?_
          refine s_in _ _ _ ?_
          refine kt_v ?_
          refine wp_ifeqB (pc' := 43) 58 dX9_sign_40 rfl rfl (fun h40 => ?_) (fun h40 => ?_)
          · skip
            refine wp_iconst (pc' := 59) (0) dX9_sign_58 rfl rfl ?_
            refine wp_load (pc' := 60) (j := 0) dX9_sign_59 rfl rfl rfl ?_
            refine wp_get (pc' := 63) dX9_sign_60 fl_X9_186 hm rfl rfl ?_
            refine wp_bipush (pc' := 65) (30) dX9_sign_63 rfl rfl ?_
            refine wp_icmp_ge (pc' := 68) 72 dX9_sign_65 rfl rfl (fun h65 => ?_) (fun h65 => ?_)
            · skip
              refine wp_iconst (pc' := 73) (0) dX9_sign_72 rfl rfl ?_
              refine wp_v3 0 0 dX9_sign_73 ml_X9_167 hm (Nat.le_of_ble_eq_true rfl) (by omega) (by omega) ?_
              refine s_goes hM hF false false false (fun G19 hM19 hF19 => ?_)
              refine kt_v ?_
              obtain ⟨hm19, hA19, -⟩ := id hM19
              refine wp_ifF (pc' := 79) 81 dX9_sign_76 rfl rfl (cmpF rfl) ?_
              refine wp_iconst (pc' := 80) (0) dX9_sign_79 rfl rfl ?_
              refine wp_iret dX9_sign_80 rfl rfl ?_
              exact hX _ _ (by simp only [mcode, K_sign, h5, h12, h19, h29, h40, h65, Bool.false_eq_true, decide_true, decide_false, Bool.not_true, Bool.not_false, Bool.and_true, Bool.true_and, Bool.and_false, Bool.false_and, Bool.or_true, Bool.true_or, Bool.or_false, Bool.false_or, if_true, if_false, ite_true, ite_false]) (by decide) hM19 hF19
            · skip
              refine wp_iconst (pc' := 69) (1) dX9_sign_68 rfl rfl ?_
              refine wp_goto 73 dX9_sign_69 rfl ?_
              refine wp_v3 0 0 dX9_sign_73 ml_X9_167 hm (Nat.le_of_ble_eq_true rfl) (by omega) (by omega) ?_
              refine s_goes hM hF false false true (fun G20 hM20 hF20 => ?_)
              refine kt_v ?_
              obtain ⟨hm20, hA20, -⟩ := id hM20
              refine wp_ifF (pc' := 79) 81 dX9_sign_76 rfl rfl (cmpF rfl) ?_
              refine wp_iconst (pc' := 80) (0) dX9_sign_79 rfl rfl ?_
              refine wp_iret dX9_sign_80 rfl rfl ?_
              exact hX _ _ (by simp only [mcode, K_sign, h5, h12, h19, h29, h40, h65, Bool.false_eq_true, decide_true, decide_false, Bool.not_true, Bool.not_false, Bool.and_true, Bool.true_and, Bool.and_false, Bool.false_and, Bool.or_true, Bool.true_or, Bool.or_false, Bool.false_or, if_true, if_false, ite_true, ite_false]) (by decide) hM20 hF20
          · skip
            refine wp_load (pc' := 45) (j := 5) dX9_sign_43 rfl rfl rfl ?_
            refine wp_iconst (pc' := 46) (0) dX9_sign_45 rfl rfl ?_
            refine wp_bipush (pc' := 48) (96) dX9_sign_46 rfl rfl ?_
            refine wp_s3 0 0 dX9_sign_48 ml_X9_153 (Nat.le_of_ble_eq_true rfl) (by omega) (by omega) ?_
            refine s_in _ _ _ ?_
            refine kt_v ?_
            refine wp_ifeqB (pc' := 54) 58 dX9_sign_51 rfl rfl (fun h51 => ?_) (fun h51 => ?_)
            · skip
              refine wp_iconst (pc' := 59) (0) dX9_sign_58 rfl rfl ?_
              refine wp_load (pc' := 60) (j := 0) dX9_sign_59 rfl rfl rfl ?_
              refine wp_get (pc' := 63) dX9_sign_60 fl_X9_186 hm rfl rfl ?_
              refine wp_bipush (pc' := 65) (30) dX9_sign_63 rfl rfl ?_
              refine wp_icmp_ge (pc' := 68) 72 dX9_sign_65 rfl rfl (fun h65 => ?_) (fun h65 => ?_)
              · skip
                refine wp_iconst (pc' := 73) (0) dX9_sign_72 rfl rfl ?_
                refine wp_v3 0 0 dX9_sign_73 ml_X9_167 hm (Nat.le_of_ble_eq_true rfl) (by omega) (by omega) ?_
                refine s_goes hM hF false false false (fun G21 hM21 hF21 => ?_)
                refine kt_v ?_
                obtain ⟨hm21, hA21, -⟩ := id hM21
                refine wp_ifF (pc' := 79) 81 dX9_sign_76 rfl rfl (cmpF rfl) ?_
                refine wp_iconst (pc' := 80) (0) dX9_sign_79 rfl rfl ?_
                refine wp_iret dX9_sign_80 rfl rfl ?_
                exact hX _ _ (by simp only [mcode, K_sign, h5, h12, h19, h29, h40, h51, h65, Bool.false_eq_true, decide_true, decide_false, Bool.not_true, Bool.not_false, Bool.and_true, Bool.true_and, Bool.and_false, Bool.false_and, Bool.or_true, Bool.true_or, Bool.or_false, Bool.false_or, if_true, if_false, ite_true, ite_false]) (by decide) hM21 hF21
              · skip
                refine wp_iconst (pc' := 69) (1) dX9_sign_68 rfl rfl ?_
                refine wp_goto 73 dX9_sign_69 rfl ?_
                refine wp_v3 0 0 dX9_sign_73 ml_X9_167 hm (Nat.le_of_ble_eq_true rfl) (by omega) (by omega) ?_
                refine s_goes hM hF false false true (fun G22 hM22 hF22 => ?_)
                refine kt_v ?_
                obtain ⟨hm22, hA22, -⟩ := id hM22
                refine wp_ifF (pc' := 79) 81 dX9_sign_76 rfl rfl (cmpF rfl) ?_
                refine wp_iconst (pc' := 80) (0) dX9_sign_79 rfl rfl ?_
                refine wp_iret dX9_sign_80 rfl rfl ?_
                exact hX _ _ (by simp only [mcode, K_sign, h5, h12, h19, h29, h40, h51, h65, Bool.false_eq_true, decide_true, decide_false, Bool.not_true, Bool.not_false, Bool.and_true, Bool.true_and, Bool.and_false, Bool.false_and, Bool.or_true, Bool.true_or, Bool.or_false, Bool.false_or, if_true, if_false, ite_true, ite_false]) (by decide) hM22 hF22
            · skip
              refine wp_iconst (pc' := 55) (1) dX9_sign_54 rfl rfl ?_
              refine wp_goto 59 dX9_sign_55 rfl ?_
              refine wp_load (pc' := 60) (j := 0) dX9_sign_59 rfl rfl rfl ?_
              refine wp_get (pc' := 63) dX9_sign_60 fl_X9_186 hm rfl rfl ?_
              refine wp_bipush (pc' := 65) (30) dX9_sign_63 rfl rfl ?_
              refine wp_icmp_ge (pc' := 68) 72 dX9_sign_65 rfl rfl (fun h65 => ?_) (fun h65 => ?_)
              · skip
                refine wp_iconst (pc' := 73) (0) dX9_sign_72 rfl rfl ?_
                refine wp_v3 0 0 dX9_sign_73 ml_X9_167 hm (Nat.le_of_ble_eq_true rfl) (by omega) (by omega) ?_
                refine s_goes hM hF false true false (fun G23 hM23 hF23 => ?_)
                refine kt_v ?_
                obtain ⟨hm23, hA23, -⟩ := id hM23
                refine wp_ifF (pc' := 79) 81 dX9_sign_76 rfl rfl (cmpF rfl) ?_
                refine wp_iconst (pc' := 80) (0) dX9_sign_79 rfl rfl ?_
                refine wp_iret dX9_sign_80 rfl rfl ?_
                exact hX _ _ (by simp only [mcode, K_sign, h5, h12, h19, h29, h40, h51, h65, Bool.false_eq_true, decide_true, decide_false, Bool.not_true, Bool.not_false, Bool.and_true, Bool.true_and, Bool.and_false, Bool.false_and, Bool.or_true, Bool.true_or, Bool.or_false, Bool.false_or, if_true, if_false, ite_true, ite_false]) (by decide) hM23 hF23
              · skip
                refine wp_iconst (pc' := 69) (1) dX9_sign_68 rfl rfl ?_
                refine wp_goto 73 dX9_sign_69 rfl ?_
                refine wp_v3 0 0 dX9_sign_73 ml_X9_167 hm (Nat.le_of_ble_eq_true rfl) (by omega) (by omega) ?_
                refine s_goes hM hF false true true (fun G24 hM24 hF24 => ?_)
                refine kt_v ?_
                obtain ⟨hm24, hA24, -⟩ := id hM24
                refine wp_ifF (pc' := 79) 81 dX9_sign_76 rfl rfl (cmpF rfl) ?_
                refine wp_iconst (pc' := 80) (0) dX9_sign_79 rfl rfl ?_
                refine wp_iret dX9_sign_80 rfl rfl ?_
                exact hX _ _ (by simp only [mcode, K_sign, h5, h12, h19, h29, h40, h51, h65, Bool.false_eq_true, decide_true, decide_false, Bool.not_true, Bool.not_false, Bool.and_true, Bool.true_and, Bool.and_false, Bool.false_and, Bool.or_true, Bool.true_or, Bool.or_false, Bool.false_or, if_true, if_false, ite_true, ite_false]) (by decide) hM24 hF24
      · skip
        refine wp_iconst (pc' := 23) (1) dX9_sign_22 rfl rfl ?_
        refine wp_goto 27 dX9_sign_23 rfl ?_
        refine wp_load (pc' := 28) (j := 3) dX9_sign_27 rfl rfl rfl ?_
        refine wp_load (pc' := 29) (j := 2) dX9_sign_28 rfl rfl rfl ?_
        refine wp_icmp_lt (pc' := 32) 58 dX9_sign_29 rfl rfl (fun h29 => ?_) (fun h29 => ?_)
        · skip
          refine wp_iconst (pc' := 59) (0) dX9_sign_58 rfl rfl ?_
          refine wp_load (pc' := 60) (j := 0) dX9_sign_59 rfl rfl rfl ?_
          refine wp_get (pc' := 63) dX9_sign_60 fl_X9_186 hm rfl rfl ?_
          refine wp_bipush (pc' := 65) (30) dX9_sign_63 rfl rfl ?_
          refine wp_icmp_ge (pc' := 68) 72 dX9_sign_65 rfl rfl (fun h65 => ?_) (fun h65 => ?_)
          · skip
            refine wp_iconst (pc' := 73) (0) dX9_sign_72 rfl rfl ?_
            refine wp_v3 0 0 dX9_sign_73 ml_X9_167 hm (Nat.le_of_ble_eq_true rfl) (by omega) (by omega) ?_
            refine s_goes hM hF true false false (fun G25 hM25 hF25 => ?_)
            refine kt_v ?_
            obtain ⟨hm25, hA25, -⟩ := id hM25
            refine wp_ifF (pc' := 79) 81 dX9_sign_76 rfl rfl (cmpF rfl) ?_
            refine wp_iconst (pc' := 80) (0) dX9_sign_79 rfl rfl ?_
            refine wp_iret dX9_sign_80 rfl rfl ?_
            exact hX _ _ (by simp only [mcode, K_sign, h5, h12, h19, h29, h65, Bool.false_eq_true, decide_true, decide_false, Bool.not_true, Bool.not_false, Bool.and_true, Bool.true_and, Bool.and_false, Bool.false_and, Bool.or_true, Bool.true_or, Bool.or_false, Bool.false_or, if_true, if_false, ite_true, ite_false]) (by decide) hM25 hF25
          · skip
            refine wp_iconst (pc' := 69) (1) dX9_sign_68 rfl rfl ?_
            refine wp_goto 73 dX9_sign_69 rfl ?_
            refine wp_v3 0 0 dX9_sign_73 ml_X9_167 hm (Nat.le_of_ble_eq_true rfl) (by omega) (by omega) ?_
            refine s_goes hM hF true false true (fun G26 hM26 hF26 => ?_)
            refine kt_v ?_
            obtain ⟨hm26, hA26, -⟩ := id hM26
            refine wp_ifF (pc' := 79) 81 dX9_sign_76 rfl rfl (cmpF rfl) ?_
            refine wp_iconst (pc' := 80) (0) dX9_sign_79 rfl rfl ?_
            refine wp_iret dX9_sign_80 rfl rfl ?_
            exact hX _ _ (by simp only [mcode, K_sign, h5, h12, h19, h29, h65, Bool.false_eq_true, decide_true, decide_false, Bool.not_true, Bool.not_false, Bool.and_true, Bool.true_and, Bool.and_false, Bool.false_and, Bool.or_true, Bool.true_or, Bool.or_false, Bool.false_or, if_true, if_false, ite_true, ite_false]) (by decide) hM26 hF26
        · skip
          refine wp_load (pc' := 34) (j := 4) dX9_sign_32 rfl rfl rfl ?_
          refine wp_iconst (pc' := 35) (0) dX9_sign_34 rfl rfl ?_
          refine wp_bipush (pc' := 37) (31) dX9_sign_35 rfl rfl ?_
          refine wp_s3 0 0 dX9_sign_37 ml_X9_153 (Nat.le_of_ble_eq_true rfl) (by omega) (by omega) ?_
          refine s_in _ _ _ ?_
          refine kt_v ?_
          refine wp_ifeqB (pc' := 43) 58 dX9_sign_40 rfl rfl (fun h40 => ?_) (fun h40 => ?_)
          · skip
            refine wp_iconst (pc' := 59) (0) dX9_sign_58 rfl rfl ?_
            refine wp_load (pc' := 60) (j := 0) dX9_sign_59 rfl rfl rfl ?_
            refine wp_get (pc' := 63) dX9_sign_60 fl_X9_186 hm rfl rfl ?_
            refine wp_bipush (pc' := 65) (30) dX9_sign_63 rfl rfl ?_
            refine wp_icmp_ge (pc' := 68) 72 dX9_sign_65 rfl rfl (fun h65 => ?_) (fun h65 => ?_)
            · skip
              refine wp_iconst (pc' := 73) (0) dX9_sign_72 rfl rfl ?_
              refine wp_v3 0 0 dX9_sign_73 ml_X9_167 hm (Nat.le_of_ble_eq_true rfl) (by omega) (by omega) ?_
              refine s_goes hM hF true false false (fun G27 hM27 hF27 => ?_)
              refine kt_v ?_
              obtain ⟨hm27, hA27, -⟩ := id hM27
              refine wp_ifF (pc' := 79) 81 dX9_sign_76 rfl rfl (cmpF rfl) ?_
              refine wp_iconst (pc' := 80) (0) dX9_sign_79 rfl rfl ?_
              refine wp_iret dX9_sign_80 rfl rfl ?_
              exact hX _ _ (by simp only [mcode, K_sign, h5, h12, h19, h29, h40, h65, Bool.false_eq_true, decide_true, decide_false, Bool.not_true, Bool.not_false, Bool.and_true, Bool.true_and, Bool.and_false, Bool.false_and, Bool.or_true, Bool.true_or, Bool.or_false, Bool.false_or, if_true, if_false, ite_true, ite_false]) (by decide) hM27 hF27
            · skip
              refine wp_iconst (pc' := 69) (1) dX9_sign_68 rfl rfl ?_
              refine wp_goto 73 dX9_sign_69 rfl ?_
              refine wp_v3 0 0 dX9_sign_73 ml_X9_167 hm (Nat.le_of_ble_eq_true rfl) (by omega) (by omega) ?_
              refine s_goes hM hF true false true (fun G28 hM28 hF28 => ?_)
              refine kt_v ?_
              obtain ⟨hm28, hA28, -⟩ := id hM28
              refine wp_ifF (pc' := 79) 81 dX9_sign_76 rfl rfl (cmpF rfl) ?_
              refine wp_iconst (pc' := 80) (0) dX9_sign_79 rfl rfl ?_
              refine wp_iret dX9_sign_80 rfl rfl ?_
              exact hX _ _ (by simp only [mcode, K_sign, h5, h12, h19, h29, h40, h65, Bool.false_eq_true, decide_true, decide_false, Bool.not_true, Bool.not_false, Bool.and_true, Bool.true_and, Bool.and_false, Bool.false_and, Bool.or_true, Bool.true_or, Bool.or_false, Bool.false_or, if_true, if_false, ite_true, ite_false]) (by decide) hM28 hF28
          · skip
            refine wp_load (pc' := 45) (j := 5) dX9_sign_43 rfl rfl rfl ?_
            refine wp_iconst (pc' := 46) (0) dX9_sign_45 rfl rfl ?_
            refine wp_bipush (pc' := 48) (96) dX9_sign_46 rfl rfl ?_
            refine wp_s3 0 0 dX9_sign_48 ml_X9_153 (Nat.le_of_ble_eq_true rfl) (by omega) (by omega) ?_
            refine s_in _ _ _ ?_
            refine kt_v ?_
            refine wp_ifeqB (pc' := 54) 58 dX9_sign_51 rfl rfl (fun h51 => ?_) (fun h51 => ?_)
            · skip
              refine wp_iconst (pc' := 59) (0) dX9_sign_58 rfl rfl ?_
              refine wp_load (pc' := 60) (j := 0) dX9_sign_59 rfl rfl rfl ?_
              refine wp_get (pc' := 63) dX9_sign_60 fl_X9_186 hm rfl rfl ?_
              refine wp_bipush (pc' := 65) (30) dX9_sign_63 rfl rfl ?_
              refine wp_icmp_ge (pc' := 68) 72 dX9_sign_65 rfl rfl (fun h65 => ?_) (fun h65 => ?_)
              · skip
                refine wp_iconst (pc' := 73) (0) dX9_sign_72 rfl rfl ?_
                refine wp_v3 0 0 dX9_sign_73 ml_X9_167 hm (Nat.le_of_ble_eq_true rfl) (by omega) (by omega) ?_
                refine s_goes hM hF true false false (fun G29 hM29 hF29 => ?_)
                refine kt_v ?_
                obtain ⟨hm29, hA29, -⟩ := id hM29
                refine wp_ifF (pc' := 79) 81 dX9_sign_76 rfl rfl (cmpF rfl) ?_
                refine wp_iconst (pc' := 80) (0) dX9_sign_79 rfl rfl ?_
                refine wp_iret dX9_sign_80 rfl rfl ?_
                exact hX _ _ (by simp only [mcode, K_sign, h5, h12, h19, h29, h40, h51, h65, Bool.false_eq_true, decide_true, decide_false, Bool.not_true, Bool.not_false, Bool.and_true, Bool.true_and, Bool.and_false, Bool.false_and, Bool.or_true, Bool.true_or, Bool.or_false, Bool.false_or, if_true, if_false, ite_true, ite_false]) (by decide) hM29 hF29
              · skip
                refine wp_iconst (pc' := 69) (1) dX9_sign_68 rfl rfl ?_
                refine wp_goto 73 dX9_sign_69 rfl ?_
                refine wp_v3 0 0 dX9_sign_73 ml_X9_167 hm (Nat.le_of_ble_eq_true rfl) (by omega) (by omega) ?_
                refine s_goes hM hF true false true (fun G30 hM30 hF30 => ?_)
                refine kt_v ?_
                obtain ⟨hm30, hA30, -⟩ := id hM30
                refine wp_ifF (pc' := 79) 81 dX9_sign_76 rfl rfl (cmpF rfl) ?_
                refine wp_iconst (pc' := 80) (0) dX9_sign_79 rfl rfl ?_
                refine wp_iret dX9_sign_80 rfl rfl ?_
                exact hX _ _ (by simp only [mcode, K_sign, h5, h12, h19, h29, h40, h51, h65, Bool.false_eq_true, decide_true, decide_false, Bool.not_true, Bool.not_false, Bool.and_true, Bool.true_and, Bool.and_false, Bool.false_and, Bool.or_true, Bool.true_or, Bool.or_false, Bool.false_or, if_true, if_false, ite_true, ite_false]) (by decide) hM30 hF30
            · skip
              refine wp_iconst (pc' := 55) (1) dX9_sign_54 rfl rfl ?_
              refine wp_goto 59 dX9_sign_55 rfl ?_
              refine wp_load (pc' := 60) (j := 0) dX9_sign_59 rfl rfl rfl ?_
              refine wp_get (pc' := 63) dX9_sign_60 fl_X9_186 hm rfl rfl ?_
              refine wp_bipush (pc' := 65) (30) dX9_sign_63 rfl rfl ?_
              refine wp_icmp_ge (pc' := 68) 72 dX9_sign_65 rfl rfl (fun h65 => ?_) (fun h65 => ?_)
              · skip
                refine wp_iconst (pc' := 73) (0) dX9_sign_72 rfl rfl ?_
                refine wp_v3 0 0 dX9_sign_73 ml_X9_167 hm (Nat.le_of_ble_eq_true rfl) (by omega) (by omega) ?_
                refine s_goes hM hF true true false (fun G31 hM31 hF31 => ?_)
                refine kt_v ?_
                obtain ⟨hm31, hA31, -⟩ := id hM31
                refine wp_ifF (pc' := 79) 81 dX9_sign_76 rfl rfl (cmpF rfl) ?_
                refine wp_iconst (pc' := 80) (0) dX9_sign_79 rfl rfl ?_
                refine wp_iret dX9_sign_80 rfl rfl ?_
                exact hX _ _ (by simp only [mcode, K_sign, h5, h12, h19, h29, h40, h51, h65, Bool.false_eq_true, decide_true, decide_false, Bool.not_true, Bool.not_false, Bool.and_true, Bool.true_and, Bool.and_false, Bool.false_and, Bool.or_true, Bool.true_or, Bool.or_false, Bool.false_or, if_true, if_false, ite_true, ite_false]) (by decide) hM31 hF31
              · skip
                refine wp_iconst (pc' := 69) (1) dX9_sign_68 rfl rfl ?_
                refine wp_goto 73 dX9_sign_69 rfl ?_
                refine wp_v3 0 0 dX9_sign_73 ml_X9_167 hm (Nat.le_of_ble_eq_true rfl) (by omega) (by omega) ?_
                refine s_goes hM hF true true true (fun G32 hM32 hF32 => ?_)
                refine kt_v ?_
                replace hM32 : MH m aM own (zz σ) G32 := hM32
                obtain ⟨hm32, hA32, -⟩ := id hM32
                refine wp_ifT 81 dX9_sign_76 rfl (cmpT rfl) ?_
                have hlt : n < 30 := by
                  rw [hs] at h65
                  rcases Nat.lt_or_ge n 30 with q | q
                  · exact q
                  · exact absurd (show (30 : Int32) ≤ nI n from nI_le q (by omega)) h65
                refine wp_load (pc' := 82) (j := 0) dX9_sign_81 rfl rfl rfl ?_
                refine wp_get (pc' := 85) dX9_sign_82 fl_X9_13 hm32 rfl rfl ?_
                refine wp_load (pc' := 86) (j := 0) dX9_sign_85 rfl rfl rfl ?_
                refine wp_get (pc' := 89) dX9_sign_86 fl_X9_186 hm32 rfl rfl ?_
                refine wp_load (pc' := 90) (j := 1) dX9_sign_89 rfl rfl rfl ?_
                refine wp_mia (pc' := 91) hM32 hF32 8 (by decide) (by decide) dX9_sign_90 hs (show n < 30 from hlt) (by decide) rfl (fun G33 hM33 hF33 => ?_)
                obtain ⟨hm33, hA33, -⟩ := id hM33
                refine wp_load (pc' := 92) (j := 0) dX9_sign_91 rfl rfl rfl ?_
                refine wp_get (pc' := 95) dX9_sign_92 fl_X9_17 hm33 rfl rfl ?_
                refine wp_load (pc' := 96) (j := 0) dX9_sign_95 rfl rfl rfl ?_
                refine wp_get (pc' := 99) dX9_sign_96 fl_X9_186 hm33 rfl rfl ?_
                refine wp_load (pc' := 100) (j := 2) dX9_sign_99 rfl rfl rfl ?_
                refine wp_mia (pc' := 101) hM33 hF33 9 (by decide) (by decide) dX9_sign_100 hs (show n < 30 from hlt) (by decide) rfl (fun G34 hM34 hF34 => ?_)
                obtain ⟨hm34, hA34, -⟩ := id hM34
                refine wp_load (pc' := 102) (j := 0) dX9_sign_101 rfl rfl rfl ?_
                refine wp_get (pc' := 105) dX9_sign_102 fl_X9_20 hm34 rfl rfl ?_
                refine wp_load (pc' := 106) (j := 0) dX9_sign_105 rfl rfl rfl ?_
                refine wp_get (pc' := 109) dX9_sign_106 fl_X9_186 hm34 rfl rfl ?_
                refine wp_load (pc' := 110) (j := 3) dX9_sign_109 rfl rfl rfl ?_
                refine wp_mia (pc' := 111) hM34 hF34 10 (by decide) (by decide) dX9_sign_110 hs (show n < 30 from hlt) (by decide) rfl (fun G35 hM35 hF35 => ?_)
                obtain ⟨hm35, hA35, -⟩ := id hM35
                refine wp_load (pc' := 112) (j := 0) dX9_sign_111 rfl rfl rfl ?_
                refine wp_get (pc' := 115) dX9_sign_112 fl_X9_23 hm35 rfl rfl ?_
                refine wp_load (pc' := 116) (j := 0) dX9_sign_115 rfl rfl rfl ?_
                refine wp_get (pc' := 119) dX9_sign_116 fl_X9_186 hm35 rfl rfl ?_
                refine wp_load (pc' := 121) (j := 4) dX9_sign_119 rfl rfl rfl ?_
                refine wp_mia (pc' := 122) hM35 hF35 11 (by decide) (by decide) dX9_sign_121 hs (show n < 30 from hlt) (by decide) rfl (fun G36 hM36 hF36 => ?_)
                obtain ⟨hm36, hA36, -⟩ := id hM36
                refine wp_load (pc' := 123) (j := 0) dX9_sign_122 rfl rfl rfl ?_
                refine wp_get (pc' := 126) dX9_sign_123 fl_X9_26 hm36 rfl rfl ?_
                refine wp_load (pc' := 127) (j := 0) dX9_sign_126 rfl rfl rfl ?_
                refine wp_get (pc' := 130) dX9_sign_127 fl_X9_186 hm36 rfl rfl ?_
                refine wp_load (pc' := 132) (j := 5) dX9_sign_130 rfl rfl rfl ?_
                refine wp_mia (pc' := 133) hM36 hF36 12 (by decide) (by decide) dX9_sign_132 hs (show n < 30 from hlt) (by decide) rfl (fun G37 hM37 hF37 => ?_)
                obtain ⟨hm37, hA37, -⟩ := id hM37
                refine wp_load (pc' := 134) (j := 0) dX9_sign_133 rfl rfl rfl ?_
                refine wp_get (pc' := 137) dX9_sign_134 fl_X9_29 hm37 rfl rfl ?_
                refine wp_load (pc' := 138) (j := 0) dX9_sign_137 rfl rfl rfl ?_
                refine wp_get (pc' := 141) dX9_sign_138 fl_X9_186 hm37 rfl rfl ?_
                refine wp_load (pc' := 143) (j := 6) dX9_sign_141 rfl rfl rfl ?_
                refine wp_mza (pc' := 144) hM37 hF37 13 (by decide) (by decide) dX9_sign_143 hs (show n < 30 from hlt) (by decide) rfl (fun G38 hM38 hF38 => ?_)
                obtain ⟨hm38, hA38, -⟩ := id hM38
                refine wp_load (pc' := 145) (j := 0) dX9_sign_144 rfl rfl rfl ?_
                refine wp_get (pc' := 148) dX9_sign_145 fl_X9_32 hm38 rfl rfl ?_
                refine wp_load (pc' := 149) (j := 0) dX9_sign_148 rfl rfl rfl ?_
                refine wp_get (pc' := 152) dX9_sign_149 fl_X9_186 hm38 rfl rfl ?_
                refine wp_load (pc' := 154) (j := 7) dX9_sign_152 rfl rfl rfl ?_
                refine wp_mza (pc' := 155) hM38 hF38 14 (by decide) (by decide) dX9_sign_154 hs (show n < 30 from hlt) (by decide) rfl (fun G39 hM39 hF39 => ?_)
                obtain ⟨hm39, hA39, -⟩ := id hM39
                refine wp_load (pc' := 156) (j := 0) dX9_sign_155 rfl rfl rfl ?_
                refine wp_get (pc' := 159) dX9_sign_156 fl_X9_35 hm39 rfl rfl ?_
                refine wp_load (pc' := 160) (j := 0) dX9_sign_159 rfl rfl rfl ?_
                refine wp_get (pc' := 163) dX9_sign_160 fl_X9_186 hm39 rfl rfl ?_
                refine wp_load (pc' := 164) (j := 0) dX9_sign_163 rfl rfl rfl ?_
                refine wp_get (pc' := 167) dX9_sign_164 fl_X9_171 hm39 rfl rfl ?_
                refine wp_mia (pc' := 168) hM39 hF39 15 (by decide) (by decide) dX9_sign_167 hs (show n < 30 from hlt) (by decide) rfl (fun G40 hM40 hF40 => ?_)
                obtain ⟨hm40, hA40, -⟩ := id hM40
                refine wp_load (pc' := 169) (j := 0) dX9_sign_168 rfl rfl rfl ?_
                refine wp_get (pc' := 172) dX9_sign_169 fl_X9_38 hm40 rfl rfl ?_
                refine wp_load (pc' := 173) (j := 0) dX9_sign_172 rfl rfl rfl ?_
                refine wp_get (pc' := 176) dX9_sign_173 fl_X9_186 hm40 rfl rfl ?_
                refine wp_load (pc' := 177) (j := 0) dX9_sign_176 rfl rfl rfl ?_
                refine wp_get (pc' := 180) dX9_sign_177 fl_X9_174 hm40 rfl rfl ?_
                refine wp_mia (pc' := 181) hM40 hF40 16 (by decide) (by decide) dX9_sign_180 hs (show n < 30 from hlt) (by decide) rfl (fun G41 hM41 hF41 => ?_)
                obtain ⟨hm41, hA41, -⟩ := id hM41
                refine wp_load (pc' := 182) (j := 0) dX9_sign_181 rfl rfl rfl ?_
                refine wp_get (pc' := 185) dX9_sign_182 fl_X9_41 hm41 rfl rfl ?_
                refine wp_load (pc' := 186) (j := 0) dX9_sign_185 rfl rfl rfl ?_
                refine wp_get (pc' := 189) dX9_sign_186 fl_X9_186 hm41 rfl rfl ?_
                refine wp_load (pc' := 190) (j := 0) dX9_sign_189 rfl rfl rfl ?_
                refine wp_get (pc' := 193) dX9_sign_190 fl_X9_177 hm41 rfl rfl ?_
                refine wp_mia (pc' := 194) hM41 hF41 17 (by decide) (by decide) dX9_sign_193 hs (show n < 30 from hlt) (by decide) rfl (fun G42 hM42 hF42 => ?_)
                obtain ⟨hm42, hA42, -⟩ := id hM42
                refine wp_load (pc' := 195) (j := 0) dX9_sign_194 rfl rfl rfl ?_
                refine wp_get (pc' := 198) dX9_sign_195 fl_X9_44 hm42 rfl rfl ?_
                refine wp_load (pc' := 199) (j := 0) dX9_sign_198 rfl rfl rfl ?_
                refine wp_get (pc' := 202) dX9_sign_199 fl_X9_186 hm42 rfl rfl ?_
                refine wp_load (pc' := 203) (j := 0) dX9_sign_202 rfl rfl rfl ?_
                refine wp_get (pc' := 206) dX9_sign_203 fl_X9_180 hm42 rfl rfl ?_
                refine wp_mia (pc' := 207) hM42 hF42 18 (by decide) (by decide) dX9_sign_206 hs (show n < 30 from hlt) (by decide) rfl (fun G43 hM43 hF43 => ?_)
                obtain ⟨hm43, hA43, -⟩ := id hM43
                refine wp_load (pc' := 208) (j := 0) dX9_sign_207 rfl rfl rfl ?_
                refine wp_get (pc' := 211) dX9_sign_208 fl_X9_47 hm43 rfl rfl ?_
                refine wp_load (pc' := 212) (j := 0) dX9_sign_211 rfl rfl rfl ?_
                refine wp_get (pc' := 215) dX9_sign_212 fl_X9_186 hm43 rfl rfl ?_
                refine wp_load (pc' := 216) (j := 0) dX9_sign_215 rfl rfl rfl ?_
                refine wp_get (pc' := 219) dX9_sign_216 fl_X9_183 hm43 rfl rfl ?_
                refine wp_mia (pc' := 220) hM43 hF43 19 (by decide) (by decide) dX9_sign_219 hs (show n < 30 from hlt) (by decide) rfl (fun G44 hM44 hF44 => ?_)
                obtain ⟨hm44, hA44, -⟩ := id hM44
                refine wp_load (pc' := 221) (j := 0) dX9_sign_220 rfl rfl rfl ?_
                refine wp_get (pc' := 224) dX9_sign_221 fl_X9_50 hm44 rfl rfl ?_
                refine wp_load (pc' := 225) (j := 0) dX9_sign_224 rfl rfl rfl ?_
                refine wp_get (pc' := 228) dX9_sign_225 fl_X9_186 hm44 rfl rfl ?_
                refine wp_load (pc' := 229) (j := 0) dX9_sign_228 rfl rfl rfl ?_
                refine wp_get (pc' := 232) dX9_sign_229 fl_X9_189 hm44 rfl rfl ?_
                refine wp_mia (pc' := 233) hM44 hF44 20 (by decide) (by decide) dX9_sign_232 hs (show n < 30 from hlt) (by decide) rfl (fun G45 hM45 hF45 => ?_)
                obtain ⟨hm45, hA45, -⟩ := id hM45
                refine wp_load (pc' := 234) (j := 0) dX9_sign_233 rfl rfl rfl ?_
                refine wp_get (pc' := 237) dX9_sign_234 fl_X9_53 hm45 rfl rfl ?_
                refine wp_load (pc' := 238) (j := 0) dX9_sign_237 rfl rfl rfl ?_
                refine wp_get (pc' := 241) dX9_sign_238 fl_X9_186 hm45 rfl rfl ?_
                refine wp_ldc (pc' := 243) dX9_sign_241 kw_X9_192 rfl ?_
                refine wp_mia (pc' := 244) hM45 hF45 21 (by decide) (by decide) dX9_sign_243 hs (show n < 30 from hlt) (by decide) rfl (fun G46 hM46 hF46 => ?_)
                obtain ⟨hm46, hA46, -⟩ := id hM46
                refine wp_load (pc' := 245) (j := 0) dX9_sign_244 rfl rfl rfl ?_
                refine wp_v0 0 0 dX9_sign_245 ml_X9_146 hm46 (Nat.le_of_ble_eq_true rfl) (by omega) (by omega) ?_
                refine s_resets hM46 hF46 (fun G47 hM47 hF47 => ?_)
                refine kt_u ?_
                obtain ⟨hm47, hA47, -⟩ := id hM47
                refine wp_load (pc' := 249) (j := 0) dX9_sign_248 rfl rfl rfl ?_
                refine wp_dup (pc' := 250) dX9_sign_249 rfl rfl ?_
                refine wp_get (pc' := 253) dX9_sign_250 fl_X9_186 hm47 rfl rfl ?_
                refine wp_iconst (pc' := 254) (1) dX9_sign_253 rfl rfl ?_
                refine wp_pure (pc' := 255) dX9_sign_254 rfl rfl ?_
                refine wp_mput (pc' := 258) hM47 hF47 dX9_sign_255 fl_X9_186 rfl (by decide) rfl (fun G48 hM48 hF48 => ?_)
                obtain ⟨hm48, hA48, -⟩ := id hM48
                refine wp_load (pc' := 259) (j := 0) dX9_sign_258 rfl rfl rfl ?_
                refine wp_get (pc' := 262) dX9_sign_259 fl_X9_186 hm48 rfl rfl ?_
                refine wp_iconst (pc' := 263) (1) dX9_sign_262 rfl rfl ?_
                refine wp_pure (pc' := 264) dX9_sign_263 rfl rfl ?_
                refine wp_iret dX9_sign_264 rfl rfl ?_
                exact hT (by simp only [mcode, K_sign, h5, h12, h19, h29, h40, h51, h65, Bool.false_eq_true, decide_true, decide_false, Bool.not_true, Bool.not_false, Bool.and_true, Bool.true_and, Bool.and_false, Bool.false_and, Bool.or_true, Bool.true_or, Bool.or_false, Bool.false_or, if_true, if_false, ite_true, ite_false]) hlt _ hM48 hF48

set_option maxRecDepth 20000 in
set_option maxHeartbeats 2000000 in
theorem p_takeDown {E : XE} {d mc ms : Nat} {G : HP} {P : Ps} {m : Nat} {aM own : Nat → Nat} {σ : MS} (hM : MH m aM own σ G) {n : Nat} (hs : σ.1 7 = nI n) (hs30 : n ≤ 30) {i : Int32} (hX : ∀ c G', c = K_takeDown σ i → c ≠ 0 → MH m aM own (msc σ 56 c) G' → Fr1 own G G' → P (.inl none) G') (hT : K_takeDown σ i = 0 → ∀ j, j < n → i = nI j → ∀ G', MH m aM own (mar (zz σ) 21 j (σ.1 0)) G' → Fr1 own G G' → P (.inl none) G') : Sp E (d + 2) yX9_takeDown mc ms [.ref m, .int i] G P := by
  have hF : Fr1 own G G := fr1_rf
  obtain ⟨hm, hA, -⟩ := id hM
  refine sp_intro bd_X9_takeDown (v1_all rfl) (Nat.le_of_ble_eq_true rfl) ?_
  change WX _ _ _ _ _ _ 0 [some (.ref m), some (.int i), none] [] _ 0 0
  refine wp_load (pc' := 1) (j := 1) dX9_takeDown_0 rfl rfl rfl ?_
  refine wp_iconst (pc' := 2) (0) dX9_takeDown_1 rfl rfl ?_
  refine wp_load (pc' := 3) (j := 0) dX9_takeDown_2 rfl rfl rfl ?_
  refine wp_get (pc' := 6) dX9_takeDown_3 fl_X9_186 hm rfl rfl ?_
  refine wp_iconst (pc' := 7) (1) dX9_takeDown_6 rfl rfl ?_
  refine wp_pure (pc' := 8) dX9_takeDown_7 rfl rfl ?_
  refine wp_s3 0 0 dX9_takeDown_8 ml_X9_153 (Nat.le_of_ble_eq_true rfl) (by omega) (by omega) ?_
  refine s_in _ _ _ ?_
  refine kt_v ?_
  rcases hb : inB i 0 (σ.1 7 - 1) with _ | _
  · skip
    refine wp_store (pc' := 12) (j := 2) (ls' := [_, _, _]) dX9_takeDown_11 rfl (Nat.le_of_ble_eq_true rfl) rfl rfl ?_
    refine wp_load (pc' := 13) (j := 0) dX9_takeDown_12 rfl rfl rfl ?_
    refine wp_load (pc' := 14) (j := 2) dX9_takeDown_13 rfl rfl rfl ?_
    refine wp_load (pc' := 15) (j := 2) dX9_takeDown_14 rfl rfl rfl ?_
    refine wp_ifT 41 dX9_takeDown_15 rfl (cmpT rfl) ?_
    refine wp_iconst (pc' := 42) (0) dX9_takeDown_41 rfl rfl ?_
    refine wp_iconst (pc' := 43) (1) dX9_takeDown_42 rfl rfl ?_
    refine wp_v3 0 0 dX9_takeDown_43 ml_X9_167 hm (Nat.le_of_ble_eq_true rfl) (by omega) (by omega) ?_
    refine s_goes hM hF false false true (fun G1 hM1 hF1 => ?_)
    refine kt_v ?_
    obtain ⟨hm1, hA1, -⟩ := id hM1
    refine wp_ifT 59 dX9_takeDown_46 rfl (cmpT rfl) ?_
    refine wp_vret dX9_takeDown_59 rfl ?_
    exact hX _ _ (by simp only [mcode, K_takeDown, hb, Bool.false_eq_true, decide_true, decide_false, Bool.not_true, Bool.not_false, Bool.and_true, Bool.true_and, Bool.and_false, Bool.false_and, Bool.or_true, Bool.true_or, Bool.or_false, Bool.false_or, if_true, if_false, ite_true, ite_false]) (by decide) hM1 hF1
  · skip
    obtain ⟨j, hj, rfl⟩ := clt_nI (n := n) (by rw [← hs]; exact hb) (by omega)
    have hjl : j < 30 := by omega
    have hix : ix (nI j) = j := ix_nI (by omega)
    refine wp_store (pc' := 12) (j := 2) (ls' := [_, _, _]) dX9_takeDown_11 rfl (Nat.le_of_ble_eq_true rfl) rfl rfl ?_
    refine wp_load (pc' := 13) (j := 0) dX9_takeDown_12 rfl rfl rfl ?_
    refine wp_load (pc' := 14) (j := 2) dX9_takeDown_13 rfl rfl rfl ?_
    refine wp_load (pc' := 15) (j := 2) dX9_takeDown_14 rfl rfl rfl ?_
    refine wp_ifF (pc' := 18) 41 dX9_takeDown_15 rfl rfl (cmpF rfl) ?_
    refine wp_load (pc' := 19) (j := 0) dX9_takeDown_18 rfl rfl rfl ?_
    refine wp_get (pc' := 22) dX9_takeDown_19 fl_X9_53 hm rfl rfl ?_
    refine wp_load (pc' := 23) (j := 2) dX9_takeDown_22 rfl rfl rfl ?_
    refine wp_ifF (pc' := 26) 30 dX9_takeDown_23 rfl rfl (cmpF rfl) ?_
    refine wp_load (pc' := 27) (j := 1) dX9_takeDown_26 rfl rfl rfl ?_
    refine wp_goto 31 dX9_takeDown_27 rfl ?_
    refine wp_iald (pc' := 32) dX9_takeDown_31 (hA 21 (by decide)) rfl hjl (by decide) rfl ?_
    refine wp_ldc (pc' := 34) dX9_takeDown_32 kw_X9_193 rfl ?_
    refine wp_icmp_le (pc' := 37) 41 dX9_takeDown_34 rfl rfl (fun h34 => ?_) (fun h34 => ?_)
    · skip
      refine wp_iconst (pc' := 42) (0) dX9_takeDown_41 rfl rfl ?_
      refine wp_iconst (pc' := 43) (1) dX9_takeDown_42 rfl rfl ?_
      refine wp_v3 0 0 dX9_takeDown_43 ml_X9_167 hm (Nat.le_of_ble_eq_true rfl) (by omega) (by omega) ?_
      refine s_goes hM hF true false true (fun G2 hM2 hF2 => ?_)
      refine kt_v ?_
      obtain ⟨hm2, hA2, -⟩ := id hM2
      refine wp_ifT 59 dX9_takeDown_46 rfl (cmpT rfl) ?_
      refine wp_vret dX9_takeDown_59 rfl ?_
      exact hX _ _ (by simp only [mcode, K_takeDown, hix, hb, h34, Bool.false_eq_true, decide_true, decide_false, Bool.not_true, Bool.not_false, Bool.and_true, Bool.true_and, Bool.and_false, Bool.false_and, Bool.or_true, Bool.true_or, Bool.or_false, Bool.false_or, if_true, if_false, ite_true, ite_false]) (by decide) hM2 hF2
    · skip
      refine wp_iconst (pc' := 38) (1) dX9_takeDown_37 rfl rfl ?_
      refine wp_goto 42 dX9_takeDown_38 rfl ?_
      refine wp_iconst (pc' := 43) (1) dX9_takeDown_42 rfl rfl ?_
      refine wp_v3 0 0 dX9_takeDown_43 ml_X9_167 hm (Nat.le_of_ble_eq_true rfl) (by omega) (by omega) ?_
      refine s_goes hM hF true true true (fun G3 hM3 hF3 => ?_)
      refine kt_v ?_
      replace hM3 : MH m aM own (zz σ) G3 := hM3
      obtain ⟨hm3, hA3, -⟩ := id hM3
      refine wp_ifF (pc' := 49) 59 dX9_takeDown_46 rfl rfl (cmpF rfl) ?_
      refine wp_load (pc' := 50) (j := 0) dX9_takeDown_49 rfl rfl rfl ?_
      refine wp_get (pc' := 53) dX9_takeDown_50 fl_X9_53 hm3 rfl rfl ?_
      refine wp_load (pc' := 54) (j := 1) dX9_takeDown_53 rfl rfl rfl ?_
      refine wp_load (pc' := 55) (j := 0) dX9_takeDown_54 rfl rfl rfl ?_
      refine wp_get (pc' := 58) dX9_takeDown_55 fl_X9_189 hm3 rfl rfl ?_
      refine wp_mia (pc' := 59) hM3 hF3 21 (by decide) (by decide) dX9_takeDown_58 rfl hjl (by decide) rfl (fun G4 hM4 hF4 => ?_)
      obtain ⟨hm4, hA4, -⟩ := id hM4
      refine wp_vret dX9_takeDown_59 rfl ?_
      exact hT (by simp only [mcode, K_takeDown, hix, hb, h34, Bool.false_eq_true, decide_true, decide_false, Bool.not_true, Bool.not_false, Bool.and_true, Bool.true_and, Bool.and_false, Bool.false_and, Bool.or_true, Bool.true_or, Bool.or_false, Bool.false_or, if_true, if_false, ite_true, ite_false]) j hj rfl _ hM4 hF4

set_option maxRecDepth 20000 in
set_option maxHeartbeats 2000000 in
theorem p_rule {E : XE} {d mc ms : Nat} {G : HP} {P : Ps} {m : Nat} {aM own : Nat → Nat} {σ : MS} (hM : MH m aM own σ G) {n : Nat} (hs : σ.1 7 = nI n) (hs30 : n ≤ 30) {s mt q : Int32} (hX : ∀ c G', c = K_rule s mt q → c ≠ 0 → MH m aM own (msc σ 56 c) G' → Fr1 own G G' → P (.inl (some (.int 0))) G') (hT : K_rule s mt q = 0 → ∀ G', MH m aM own (zz σ) G' → Fr1 own G G' → P (.inl (some (.int (roI (ruleO (zz σ) s mt q n))))) G') : Sp E (d + 4) yX9_rule mc ms [.ref m, .int s, .int mt, .int q] G P := by
  have hF : Fr1 own G G := fr1_rf
  obtain ⟨hm, hA, -⟩ := id hM
  refine sp_intro bd_X9_rule (v1_all rfl) (Nat.le_of_ble_eq_true rfl) ?_
  change WX _ _ _ _ _ _ 0 [some (.ref m), some (.int s), some (.int mt), some (.int q)] [] _ 0 0
  refine wp_load (pc' := 1) (j := 0) dX9_rule_0 rfl rfl rfl ?_
  refine wp_load (pc' := 2) (j := 1) dX9_rule_1 rfl rfl rfl ?_
  refine wp_s1 0 0 dX9_rule_2 ml_X9_160 (Nat.le_of_ble_eq_true rfl) (by omega) (by omega) ?_
  refine s_isStreet _ ?_
  refine kt_v ?_
  refine wp_ifeqB (pc' := 8) 19 dX9_rule_5 rfl rfl (fun h5 => ?_) (fun h5 => ?_)
  · skip
    refine wp_iconst (pc' := 20) (0) dX9_rule_19 rfl rfl ?_
    refine wp_load (pc' := 21) (j := 3) dX9_rule_20 rfl rfl rfl ?_
    refine wp_iconst (pc' := 22) (0) dX9_rule_21 rfl rfl ?_
    refine wp_ldc (pc' := 24) dX9_rule_22 kw_X9_193 rfl ?_
    refine wp_s3 0 0 dX9_rule_24 ml_X9_153 (Nat.le_of_ble_eq_true rfl) (by omega) (by omega) ?_
    refine s_in _ _ _ ?_
    refine kt_v ?_
    rcases hb2 : inB q 0 49999 with _ | _
    · skip
      refine wp_iconst (pc' := 28) (1) dX9_rule_27 rfl rfl ?_
      refine wp_v3 0 0 dX9_rule_28 ml_X9_167 hm (Nat.le_of_ble_eq_true rfl) (by omega) (by omega) ?_
      refine s_goes hM hF false false true (fun G1 hM1 hF1 => ?_)
      refine kt_v ?_
      obtain ⟨hm1, hA1, -⟩ := id hM1
      refine wp_ifT 44 dX9_rule_31 rfl (cmpT rfl) ?_
      refine wp_iconst (pc' := 45) (0) dX9_rule_44 rfl rfl ?_
      refine wp_iret dX9_rule_45 rfl rfl ?_
      exact hX _ _ (by simp only [mcode, K_rule, h5, hb2, Bool.false_eq_true, decide_true, decide_false, Bool.not_true, Bool.not_false, Bool.and_true, Bool.true_and, Bool.and_false, Bool.false_and, Bool.or_true, Bool.true_or, Bool.or_false, Bool.false_or, if_true, if_false, ite_true, ite_false]) (by decide) hM1 hF1
    · skip
      refine wp_iconst (pc' := 28) (1) dX9_rule_27 rfl rfl ?_
      refine wp_v3 0 0 dX9_rule_28 ml_X9_167 hm (Nat.le_of_ble_eq_true rfl) (by omega) (by omega) ?_
      refine s_goes hM hF false true true (fun G2 hM2 hF2 => ?_)
      refine kt_v ?_
      obtain ⟨hm2, hA2, -⟩ := id hM2
      refine wp_ifT 44 dX9_rule_31 rfl (cmpT rfl) ?_
      refine wp_iconst (pc' := 45) (0) dX9_rule_44 rfl rfl ?_
      refine wp_iret dX9_rule_45 rfl rfl ?_
      exact hX _ _ (by simp only [mcode, K_rule, h5, hb2, Bool.false_eq_true, decide_true, decide_false, Bool.not_true, Bool.not_false, Bool.and_true, Bool.true_and, Bool.and_false, Bool.false_and, Bool.or_true, Bool.true_or, Bool.or_false, Bool.false_or, if_true, if_false, ite_true, ite_false]) (by decide) hM2 hF2
  · skip
    refine wp_load (pc' := 9) (j := 2) dX9_rule_8 rfl rfl rfl ?_
    refine wp_s1 0 0 dX9_rule_9 ml_X9_164 (Nat.le_of_ble_eq_true rfl) (by omega) (by omega) ?_
    refine s_isMetre _ ?_
    refine kt_v ?_
    refine wp_ifeqB (pc' := 15) 19 dX9_rule_12 rfl rfl (fun h12 => ?_) (fun h12 => ?_)
    · skip
      refine wp_iconst (pc' := 20) (0) dX9_rule_19 rfl rfl ?_
      refine wp_load (pc' := 21) (j := 3) dX9_rule_20 rfl rfl rfl ?_
      refine wp_iconst (pc' := 22) (0) dX9_rule_21 rfl rfl ?_
      refine wp_ldc (pc' := 24) dX9_rule_22 kw_X9_193 rfl ?_
      refine wp_s3 0 0 dX9_rule_24 ml_X9_153 (Nat.le_of_ble_eq_true rfl) (by omega) (by omega) ?_
      refine s_in _ _ _ ?_
      refine kt_v ?_
      rcases hb2 : inB q 0 49999 with _ | _
      · skip
        refine wp_iconst (pc' := 28) (1) dX9_rule_27 rfl rfl ?_
        refine wp_v3 0 0 dX9_rule_28 ml_X9_167 hm (Nat.le_of_ble_eq_true rfl) (by omega) (by omega) ?_
        refine s_goes hM hF false false true (fun G3 hM3 hF3 => ?_)
        refine kt_v ?_
        obtain ⟨hm3, hA3, -⟩ := id hM3
        refine wp_ifT 44 dX9_rule_31 rfl (cmpT rfl) ?_
        refine wp_iconst (pc' := 45) (0) dX9_rule_44 rfl rfl ?_
        refine wp_iret dX9_rule_45 rfl rfl ?_
        exact hX _ _ (by simp only [mcode, K_rule, h5, h12, hb2, Bool.false_eq_true, decide_true, decide_false, Bool.not_true, Bool.not_false, Bool.and_true, Bool.true_and, Bool.and_false, Bool.false_and, Bool.or_true, Bool.true_or, Bool.or_false, Bool.false_or, if_true, if_false, ite_true, ite_false]) (by decide) hM3 hF3
      · skip
        refine wp_iconst (pc' := 28) (1) dX9_rule_27 rfl rfl ?_
        refine wp_v3 0 0 dX9_rule_28 ml_X9_167 hm (Nat.le_of_ble_eq_true rfl) (by omega) (by omega) ?_
        refine s_goes hM hF false true true (fun G4 hM4 hF4 => ?_)
        refine kt_v ?_
        obtain ⟨hm4, hA4, -⟩ := id hM4
        refine wp_ifT 44 dX9_rule_31 rfl (cmpT rfl) ?_
        refine wp_iconst (pc' := 45) (0) dX9_rule_44 rfl rfl ?_
        refine wp_iret dX9_rule_45 rfl rfl ?_
        exact hX _ _ (by simp only [mcode, K_rule, h5, h12, hb2, Bool.false_eq_true, decide_true, decide_false, Bool.not_true, Bool.not_false, Bool.and_true, Bool.true_and, Bool.and_false, Bool.false_and, Bool.or_true, Bool.true_or, Bool.or_false, Bool.false_or, if_true, if_false, ite_true, ite_false]) (by decide) hM4 hF4
    · skip
      refine wp_iconst (pc' := 16) (1) dX9_rule_15 rfl rfl ?_
      refine wp_goto 20 dX9_rule_16 rfl ?_
      refine wp_load (pc' := 21) (j := 3) dX9_rule_20 rfl rfl rfl ?_
      refine wp_iconst (pc' := 22) (0) dX9_rule_21 rfl rfl ?_
      refine wp_ldc (pc' := 24) dX9_rule_22 kw_X9_193 rfl ?_
      refine wp_s3 0 0 dX9_rule_24 ml_X9_153 (Nat.le_of_ble_eq_true rfl) (by omega) (by omega) ?_
      refine s_in _ _ _ ?_
      refine kt_v ?_
      rcases hb2 : inB q 0 49999 with _ | _
      · skip
        refine wp_iconst (pc' := 28) (1) dX9_rule_27 rfl rfl ?_
        refine wp_v3 0 0 dX9_rule_28 ml_X9_167 hm (Nat.le_of_ble_eq_true rfl) (by omega) (by omega) ?_
        refine s_goes hM hF true false true (fun G5 hM5 hF5 => ?_)
        refine kt_v ?_
        obtain ⟨hm5, hA5, -⟩ := id hM5
        refine wp_ifT 44 dX9_rule_31 rfl (cmpT rfl) ?_
        refine wp_iconst (pc' := 45) (0) dX9_rule_44 rfl rfl ?_
        refine wp_iret dX9_rule_45 rfl rfl ?_
        exact hX _ _ (by simp only [mcode, K_rule, h5, h12, hb2, Bool.false_eq_true, decide_true, decide_false, Bool.not_true, Bool.not_false, Bool.and_true, Bool.true_and, Bool.and_false, Bool.false_and, Bool.or_true, Bool.true_or, Bool.or_false, Bool.false_or, if_true, if_false, ite_true, ite_false]) (by decide) hM5 hF5
      · skip
        refine wp_iconst (pc' := 28) (1) dX9_rule_27 rfl rfl ?_
        refine wp_v3 0 0 dX9_rule_28 ml_X9_167 hm (Nat.le_of_ble_eq_true rfl) (by omega) (by omega) ?_
        refine s_goes hM hF true true true (fun G6 hM6 hF6 => ?_)
        refine kt_v ?_
        replace hM6 : MH m aM own (zz σ) G6 := hM6
        obtain ⟨hm6, hA6, -⟩ := id hM6
        refine wp_ifF (pc' := 34) 44 dX9_rule_31 rfl rfl (cmpF rfl) ?_
        refine wp_load (pc' := 35) (j := 0) dX9_rule_34 rfl rfl rfl ?_
        refine wp_load (pc' := 36) (j := 1) dX9_rule_35 rfl rfl rfl ?_
        refine wp_load (pc' := 37) (j := 2) dX9_rule_36 rfl rfl rfl ?_
        refine wp_load (pc' := 38) (j := 3) dX9_rule_37 rfl rfl rfl ?_
        refine wp_v3 0 0 dX9_rule_38 ml_X9_205 hm6 (Nat.le_of_ble_eq_true rfl) (by omega) (by omega) ?_
        refine s_ruleAt hM6 hs hs30 _ _ _ ?_
        refine kt_v ?_
        refine wp_goto 45 dX9_rule_41 rfl ?_
        refine wp_iret dX9_rule_45 rfl rfl ?_
        exact hT (by simp only [mcode, K_rule, h5, h12, hb2, Bool.false_eq_true, decide_true, decide_false, Bool.not_true, Bool.not_false, Bool.and_true, Bool.true_and, Bool.and_false, Bool.false_and, Bool.or_true, Bool.true_or, Bool.or_false, Bool.false_or, if_true, if_false, ite_true, ite_false]) _ hM6 hF6

set_option maxRecDepth 20000 in
set_option maxHeartbeats 2000000 in
theorem p_ruleAnew {E : XE} {d mc ms : Nat} {G : HP} {P : Ps} {m : Nat} {aM own : Nat → Nat} {σ : MS} (hM : MH m aM own σ G) {n : Nat} (hs : σ.1 7 = nI n) (hs30 : n ≤ 30) {s mt q : Int32} (hX : ∀ c G', c = K_rule s mt q → c ≠ 0 → MH m aM own (msc σ 56 c) G' → Fr1 own G G' → P (.inl (some (.int 0))) G') (hT : K_rule s mt q = 0 → ∀ G', MH m aM own (zz σ) G' → Fr1 own G G' → P (.inl (some (.int (roI (ruleO (zz σ) s mt q n))))) G') : Sp E (d + 5) yX9_ruleAnew mc ms [.ref m, .int s, .int mt, .int q] G P := by
  have hF : Fr1 own G G := fr1_rf
  obtain ⟨hm, hA, -⟩ := id hM
  refine sp_intro bd_X9_ruleAnew (v1_all rfl) (Nat.le_of_ble_eq_true rfl) ?_
  change WX _ _ _ _ _ _ 0 [some (.ref m), some (.int s), some (.int mt), some (.int q)] [] _ 0 0
  refine wp_load (pc' := 1) (j := 0) dX9_ruleAnew_0 rfl rfl rfl ?_
  refine wp_load (pc' := 2) (j := 1) dX9_ruleAnew_1 rfl rfl rfl ?_
  refine wp_load (pc' := 3) (j := 2) dX9_ruleAnew_2 rfl rfl rfl ?_
  refine wp_load (pc' := 4) (j := 3) dX9_ruleAnew_3 rfl rfl rfl ?_
  refine wp_v3 0 0 dX9_ruleAnew_4 ml_X9_209 hm (Nat.le_of_ble_eq_true rfl) (by omega) (by omega) ?_
  refine p_rule hM hs hs30 (fun c G1 h1 h2 h3 h4 => ?_) (fun h1 G1 h3 h4 => ?_)
  · refine kt_v ?_
    exact wp_iret dX9_ruleAnew_7 rfl rfl (hX c G1 h1 h2 h3 h4)
  · refine kt_v ?_
    exact wp_iret dX9_ruleAnew_7 rfl rfl (hT h1 G1 h3 h4)

set_option maxRecDepth 20000 in
set_option maxHeartbeats 2000000 in
theorem p_car {E : XE} {d mc ms : Nat} {G : HP} {P : Ps} {m : Nat} {aM own : Nat → Nat} {σ : MS} (hM : MH m aM own σ G) {nc : Nat} (hc : σ.1 22 = nI nc) (hc30 : nc ≤ 30) {l u : Int32} (hX : ∀ c G', c = K_car σ l u → c ≠ 0 → MH m aM own (msc σ 56 c) G' → Fr1 own G G' → P (.inl (some (.int 0))) G') (hT : K_car σ l u = 0 → nc < 30 → ∀ G', MH m aM own (carF σ nc l u) G' → Fr1 own G G' → P (.inl (some (.int (σ.1 22 + 1 - 1)))) G') : Sp E (d + 2) yX9_car mc ms [.ref m, .int l, .int u] G P := by
  have hF : Fr1 own G G := fr1_rf
  obtain ⟨hm, hA, -⟩ := id hM
  refine sp_intro bd_X9_car (v1_all rfl) (Nat.le_of_ble_eq_true rfl) ?_
  change WX _ _ _ _ _ _ 0 [some (.ref m), some (.int l), some (.int u)] [] _ 0 0
  refine wp_load (pc' := 1) (j := 0) dX9_car_0 rfl rfl rfl ?_
  refine wp_load (pc' := 2) (j := 1) dX9_car_1 rfl rfl rfl ?_
  refine wp_iconst (pc' := 3) (3) dX9_car_2 rfl rfl ?_
  refine wp_bipush (pc' := 5) (12) dX9_car_3 rfl rfl ?_
  refine wp_s3 0 0 dX9_car_5 ml_X9_153 (Nat.le_of_ble_eq_true rfl) (by omega) (by omega) ?_
  refine s_in _ _ _ ?_
  refine kt_v ?_
  refine wp_ifeqB (pc' := 11) 24 dX9_car_8 rfl rfl (fun h8 => ?_) (fun h8 => ?_)
  · skip
    refine wp_iconst (pc' := 25) (0) dX9_car_24 rfl rfl ?_
    refine wp_load (pc' := 26) (j := 0) dX9_car_25 rfl rfl rfl ?_
    refine wp_get (pc' := 29) dX9_car_26 fl_X9_157 hm rfl rfl ?_
    refine wp_bipush (pc' := 31) (30) dX9_car_29 rfl rfl ?_
    refine wp_icmp_ge (pc' := 34) 38 dX9_car_31 rfl rfl (fun h31 => ?_) (fun h31 => ?_)
    · skip
      refine wp_iconst (pc' := 39) (0) dX9_car_38 rfl rfl ?_
      refine wp_iconst (pc' := 40) (1) dX9_car_39 rfl rfl ?_
      refine wp_v3 0 0 dX9_car_40 ml_X9_167 hm (Nat.le_of_ble_eq_true rfl) (by omega) (by omega) ?_
      refine s_goes hM hF false false true (fun G1 hM1 hF1 => ?_)
      refine kt_v ?_
      obtain ⟨hm1, hA1, -⟩ := id hM1
      refine wp_ifF (pc' := 46) 48 dX9_car_43 rfl rfl (cmpF rfl) ?_
      refine wp_iconst (pc' := 47) (0) dX9_car_46 rfl rfl ?_
      refine wp_iret dX9_car_47 rfl rfl ?_
      exact hX _ _ (by simp only [mcode, K_car, h8, h31, Bool.false_eq_true, decide_true, decide_false, Bool.not_true, Bool.not_false, Bool.and_true, Bool.true_and, Bool.and_false, Bool.false_and, Bool.or_true, Bool.true_or, Bool.or_false, Bool.false_or, if_true, if_false, ite_true, ite_false]) (by decide) hM1 hF1
    · skip
      refine wp_iconst (pc' := 35) (1) dX9_car_34 rfl rfl ?_
      refine wp_goto 39 dX9_car_35 rfl ?_
      refine wp_iconst (pc' := 40) (1) dX9_car_39 rfl rfl ?_
      refine wp_v3 0 0 dX9_car_40 ml_X9_167 hm (Nat.le_of_ble_eq_true rfl) (by omega) (by omega) ?_
      refine s_goes hM hF false true true (fun G2 hM2 hF2 => ?_)
      refine kt_v ?_
      obtain ⟨hm2, hA2, -⟩ := id hM2
      refine wp_ifF (pc' := 46) 48 dX9_car_43 rfl rfl (cmpF rfl) ?_
      refine wp_iconst (pc' := 47) (0) dX9_car_46 rfl rfl ?_
      refine wp_iret dX9_car_47 rfl rfl ?_
      exact hX _ _ (by simp only [mcode, K_car, h8, h31, Bool.false_eq_true, decide_true, decide_false, Bool.not_true, Bool.not_false, Bool.and_true, Bool.true_and, Bool.and_false, Bool.false_and, Bool.or_true, Bool.true_or, Bool.or_false, Bool.false_or, if_true, if_false, ite_true, ite_false]) (by decide) hM2 hF2
  · skip
    refine wp_load (pc' := 12) (j := 2) dX9_car_11 rfl rfl rfl ?_
    refine wp_iconst (pc' := 13) (0) dX9_car_12 rfl rfl ?_
    refine wp_iconst (pc' := 14) (4) dX9_car_13 rfl rfl ?_
    refine wp_s3 0 0 dX9_car_14 ml_X9_153 (Nat.le_of_ble_eq_true rfl) (by omega) (by omega) ?_
    refine s_in _ _ _ ?_
    refine kt_v ?_
    refine wp_ifeqB (pc' := 20) 24 dX9_car_17 rfl rfl (fun h17 => ?_) (fun h17 => ?_)
    · skip
      refine wp_iconst (pc' := 25) (0) dX9_car_24 rfl rfl ?_
      refine wp_load (pc' := 26) (j := 0) dX9_car_25 rfl rfl rfl ?_
      refine wp_get (pc' := 29) dX9_car_26 fl_X9_157 hm rfl rfl ?_
      refine wp_bipush (pc' := 31) (30) dX9_car_29 rfl rfl ?_
      refine wp_icmp_ge (pc' := 34) 38 dX9_car_31 rfl rfl (fun h31 => ?_) (fun h31 => ?_)
      · skip
        refine wp_iconst (pc' := 39) (0) dX9_car_38 rfl rfl ?_
        refine wp_iconst (pc' := 40) (1) dX9_car_39 rfl rfl ?_
        refine wp_v3 0 0 dX9_car_40 ml_X9_167 hm (Nat.le_of_ble_eq_true rfl) (by omega) (by omega) ?_
        refine s_goes hM hF false false true (fun G3 hM3 hF3 => ?_)
        refine kt_v ?_
        obtain ⟨hm3, hA3, -⟩ := id hM3
        refine wp_ifF (pc' := 46) 48 dX9_car_43 rfl rfl (cmpF rfl) ?_
        refine wp_iconst (pc' := 47) (0) dX9_car_46 rfl rfl ?_
        refine wp_iret dX9_car_47 rfl rfl ?_
        exact hX _ _ (by simp only [mcode, K_car, h8, h17, h31, Bool.false_eq_true, decide_true, decide_false, Bool.not_true, Bool.not_false, Bool.and_true, Bool.true_and, Bool.and_false, Bool.false_and, Bool.or_true, Bool.true_or, Bool.or_false, Bool.false_or, if_true, if_false, ite_true, ite_false]) (by decide) hM3 hF3
      · skip
        refine wp_iconst (pc' := 35) (1) dX9_car_34 rfl rfl ?_
        refine wp_goto 39 dX9_car_35 rfl ?_
        refine wp_iconst (pc' := 40) (1) dX9_car_39 rfl rfl ?_
        refine wp_v3 0 0 dX9_car_40 ml_X9_167 hm (Nat.le_of_ble_eq_true rfl) (by omega) (by omega) ?_
        refine s_goes hM hF false true true (fun G4 hM4 hF4 => ?_)
        refine kt_v ?_
        obtain ⟨hm4, hA4, -⟩ := id hM4
        refine wp_ifF (pc' := 46) 48 dX9_car_43 rfl rfl (cmpF rfl) ?_
        refine wp_iconst (pc' := 47) (0) dX9_car_46 rfl rfl ?_
        refine wp_iret dX9_car_47 rfl rfl ?_
        exact hX _ _ (by simp only [mcode, K_car, h8, h17, h31, Bool.false_eq_true, decide_true, decide_false, Bool.not_true, Bool.not_false, Bool.and_true, Bool.true_and, Bool.and_false, Bool.false_and, Bool.or_true, Bool.true_or, Bool.or_false, Bool.false_or, if_true, if_false, ite_true, ite_false]) (by decide) hM4 hF4
    · skip
      refine wp_iconst (pc' := 21) (1) dX9_car_20 rfl rfl ?_
      refine wp_goto 25 dX9_car_21 rfl ?_
      refine wp_load (pc' := 26) (j := 0) dX9_car_25 rfl rfl rfl ?_
      refine wp_get (pc' := 29) dX9_car_26 fl_X9_157 hm rfl rfl ?_
      refine wp_bipush (pc' := 31) (30) dX9_car_29 rfl rfl ?_
      refine wp_icmp_ge (pc' := 34) 38 dX9_car_31 rfl rfl (fun h31 => ?_) (fun h31 => ?_)
      · skip
        refine wp_iconst (pc' := 39) (0) dX9_car_38 rfl rfl ?_
        refine wp_iconst (pc' := 40) (1) dX9_car_39 rfl rfl ?_
        refine wp_v3 0 0 dX9_car_40 ml_X9_167 hm (Nat.le_of_ble_eq_true rfl) (by omega) (by omega) ?_
        refine s_goes hM hF true false true (fun G5 hM5 hF5 => ?_)
        refine kt_v ?_
        obtain ⟨hm5, hA5, -⟩ := id hM5
        refine wp_ifF (pc' := 46) 48 dX9_car_43 rfl rfl (cmpF rfl) ?_
        refine wp_iconst (pc' := 47) (0) dX9_car_46 rfl rfl ?_
        refine wp_iret dX9_car_47 rfl rfl ?_
        exact hX _ _ (by simp only [mcode, K_car, h8, h17, h31, Bool.false_eq_true, decide_true, decide_false, Bool.not_true, Bool.not_false, Bool.and_true, Bool.true_and, Bool.and_false, Bool.false_and, Bool.or_true, Bool.true_or, Bool.or_false, Bool.false_or, if_true, if_false, ite_true, ite_false]) (by decide) hM5 hF5
      · skip
        refine wp_iconst (pc' := 35) (1) dX9_car_34 rfl rfl ?_
        refine wp_goto 39 dX9_car_35 rfl ?_
        refine wp_iconst (pc' := 40) (1) dX9_car_39 rfl rfl ?_
        refine wp_v3 0 0 dX9_car_40 ml_X9_167 hm (Nat.le_of_ble_eq_true rfl) (by omega) (by omega) ?_
        refine s_goes hM hF true true true (fun G6 hM6 hF6 => ?_)
        refine kt_v ?_
        replace hM6 : MH m aM own (zz σ) G6 := hM6
        obtain ⟨hm6, hA6, -⟩ := id hM6
        refine wp_ifT 48 dX9_car_43 rfl (cmpT rfl) ?_
        have hlt : nc < 30 := by
          rw [hc] at h31
          rcases Nat.lt_or_ge nc 30 with q | q
          · exact q
          · exact absurd (show (30 : Int32) ≤ nI nc from nI_le q (by omega)) h31
        refine wp_load (pc' := 49) (j := 0) dX9_car_48 rfl rfl rfl ?_
        refine wp_get (pc' := 52) dX9_car_49 fl_X9_56 hm6 rfl rfl ?_
        refine wp_load (pc' := 53) (j := 0) dX9_car_52 rfl rfl rfl ?_
        refine wp_get (pc' := 56) dX9_car_53 fl_X9_157 hm6 rfl rfl ?_
        refine wp_load (pc' := 57) (j := 1) dX9_car_56 rfl rfl rfl ?_
        refine wp_mia (pc' := 58) hM6 hF6 23 (by decide) (by decide) dX9_car_57 hc (show nc < 30 from hlt) (by decide) rfl (fun G7 hM7 hF7 => ?_)
        obtain ⟨hm7, hA7, -⟩ := id hM7
        refine wp_load (pc' := 59) (j := 0) dX9_car_58 rfl rfl rfl ?_
        refine wp_get (pc' := 62) dX9_car_59 fl_X9_59 hm7 rfl rfl ?_
        refine wp_load (pc' := 63) (j := 0) dX9_car_62 rfl rfl rfl ?_
        refine wp_get (pc' := 66) dX9_car_63 fl_X9_157 hm7 rfl rfl ?_
        refine wp_load (pc' := 67) (j := 2) dX9_car_66 rfl rfl rfl ?_
        refine wp_mia (pc' := 68) hM7 hF7 24 (by decide) (by decide) dX9_car_67 hc (show nc < 30 from hlt) (by decide) rfl (fun G8 hM8 hF8 => ?_)
        obtain ⟨hm8, hA8, -⟩ := id hM8
        refine wp_load (pc' := 69) (j := 0) dX9_car_68 rfl rfl rfl ?_
        refine wp_get (pc' := 72) dX9_car_69 fl_X9_62 hm8 rfl rfl ?_
        refine wp_load (pc' := 73) (j := 0) dX9_car_72 rfl rfl rfl ?_
        refine wp_get (pc' := 76) dX9_car_73 fl_X9_157 hm8 rfl rfl ?_
        refine wp_iconst (pc' := 77) (-1) dX9_car_76 rfl rfl ?_
        refine wp_mia (pc' := 78) hM8 hF8 25 (by decide) (by decide) dX9_car_77 hc (show nc < 30 from hlt) (by decide) rfl (fun G9 hM9 hF9 => ?_)
        obtain ⟨hm9, hA9, -⟩ := id hM9
        refine wp_load (pc' := 79) (j := 0) dX9_car_78 rfl rfl rfl ?_
        refine wp_dup (pc' := 80) dX9_car_79 rfl rfl ?_
        refine wp_get (pc' := 83) dX9_car_80 fl_X9_157 hm9 rfl rfl ?_
        refine wp_iconst (pc' := 84) (1) dX9_car_83 rfl rfl ?_
        refine wp_pure (pc' := 85) dX9_car_84 rfl rfl ?_
        refine wp_mput (pc' := 88) hM9 hF9 dX9_car_85 fl_X9_157 rfl (by decide) rfl (fun G10 hM10 hF10 => ?_)
        obtain ⟨hm10, hA10, -⟩ := id hM10
        refine wp_load (pc' := 89) (j := 0) dX9_car_88 rfl rfl rfl ?_
        refine wp_get (pc' := 92) dX9_car_89 fl_X9_157 hm10 rfl rfl ?_
        refine wp_iconst (pc' := 93) (1) dX9_car_92 rfl rfl ?_
        refine wp_pure (pc' := 94) dX9_car_93 rfl rfl ?_
        refine wp_iret dX9_car_94 rfl rfl ?_
        exact hT (by simp only [mcode, K_car, h8, h17, h31, Bool.false_eq_true, decide_true, decide_false, Bool.not_true, Bool.not_false, Bool.and_true, Bool.true_and, Bool.and_false, Bool.false_and, Bool.or_true, Bool.true_or, Bool.or_false, Bool.false_or, if_true, if_false, ite_true, ite_false]) hlt _ hM10 hF10

set_option maxRecDepth 20000 in
set_option maxHeartbeats 2000000 in
theorem p_permit {E : XE} {d mc ms : Nat} {G : HP} {P : Ps} {m : Nat} {aM own : Nat → Nat} {σ : MS} (hM : MH m aM own σ G) {np : Nat} (hp : σ.1 29 = nI np) (hp40 : np ≤ 40) {i s h f t : Int32} (hX : ∀ c G', c = K_permit σ np i s h f t → c ≠ 0 → MH m aM own (msc σ 56 c) G' → Fr1 own G G' → P (.inl (some (.int 0))) G') (hT : K_permit σ np i s h f t = 0 → np < 40 → ∀ G', MH m aM own (perF σ np i s h f t) G' → Fr1 own G G' → P (.inl (some (.int (σ.1 29 + 1 - 1)))) G') : Sp E (d + 4) yX9_permit mc ms [.ref m, .int i, .int s, .int h, .int f, .int t] G P := by
  have hF : Fr1 own G G := fr1_rf
  obtain ⟨hm, hA, -⟩ := id hM
  refine sp_intro bd_X9_permit (v1_all rfl) (Nat.le_of_ble_eq_true rfl) ?_
  change WX _ _ _ _ _ _ 0 [some (.ref m), some (.int i), some (.int s), some (.int h), some (.int f), some (.int t), none] [] _ 0 0
  refine wp_load (pc' := 2) (j := 4) dX9_permit_0 rfl rfl rfl ?_
  refine wp_iconst (pc' := 3) (0) dX9_permit_2 rfl rfl ?_
  refine wp_sipush (pc' := 6) (520) dX9_permit_3 rfl rfl ?_
  refine wp_s3 0 0 dX9_permit_6 ml_X9_153 (Nat.le_of_ble_eq_true rfl) (by omega) (by omega) ?_
  refine s_in _ _ _ ?_
  refine kt_v ?_
  refine wp_ifeqB (pc' := 12) 29 dX9_permit_9 rfl rfl (fun h9 => ?_) (fun h9 => ?_)
  · skip
    refine wp_iconst (pc' := 30) (0) dX9_permit_29 rfl rfl ?_
    refine wp_store (pc' := 32) (j := 6) (ls' := [_, _, _, _, _, _, _]) dX9_permit_30 rfl (Nat.le_of_ble_eq_true rfl) rfl rfl ?_
    refine wp_load (pc' := 33) (j := 0) dX9_permit_32 rfl rfl rfl ?_
    refine wp_load (pc' := 34) (j := 0) dX9_permit_33 rfl rfl rfl ?_
    refine wp_load (pc' := 35) (j := 1) dX9_permit_34 rfl rfl rfl ?_
    refine wp_v1 0 0 dX9_permit_35 ml_X9_219 hm (Nat.le_of_ble_eq_true rfl) (by omega) (by omega) ?_
    refine s_isCar hM _ ?_
    refine kt_v ?_
    refine wp_ifeqB (pc' := 41) 62 dX9_permit_38 rfl rfl (fun h38 => ?_) (fun h38 => ?_)
    · skip
      refine wp_iconst (pc' := 63) (0) dX9_permit_62 rfl rfl ?_
      refine wp_load (pc' := 65) (j := 6) dX9_permit_63 rfl rfl rfl ?_
      refine wp_load (pc' := 66) (j := 0) dX9_permit_65 rfl rfl rfl ?_
      refine wp_get (pc' := 69) dX9_permit_66 fl_X9_212 hm rfl rfl ?_
      refine wp_bipush (pc' := 71) (40) dX9_permit_69 rfl rfl ?_
      refine wp_icmp_ge (pc' := 74) 95 dX9_permit_71 rfl rfl (fun h71 => ?_) (fun h71 => ?_)
      · skip
        refine wp_iconst (pc' := 96) (0) dX9_permit_95 rfl rfl ?_
        refine wp_v3 0 0 dX9_permit_96 ml_X9_167 hm (Nat.le_of_ble_eq_true rfl) (by omega) (by omega) ?_
        refine s_goes hM hF false false false (fun G1 hM1 hF1 => ?_)
        refine kt_v ?_
        obtain ⟨hm1, hA1, -⟩ := id hM1
        refine wp_ifF (pc' := 102) 104 dX9_permit_99 rfl rfl (cmpF rfl) ?_
        refine wp_iconst (pc' := 103) (0) dX9_permit_102 rfl rfl ?_
        refine wp_iret dX9_permit_103 rfl rfl ?_
        exact hX _ _ (by simp only [mcode, K_permit, h9, h38, h71, Bool.false_eq_true, decide_true, decide_false, Bool.not_true, Bool.not_false, Bool.and_true, Bool.true_and, Bool.and_false, Bool.false_and, Bool.or_true, Bool.true_or, Bool.or_false, Bool.false_or, if_true, if_false, ite_true, ite_false]) (by decide) hM1 hF1
      · skip
        refine wp_load (pc' := 76) (j := 6) dX9_permit_74 rfl rfl rfl ?_
        refine wp_ifT 95 dX9_permit_76 rfl (cmpT rfl) ?_
        refine wp_iconst (pc' := 96) (0) dX9_permit_95 rfl rfl ?_
        refine wp_v3 0 0 dX9_permit_96 ml_X9_167 hm (Nat.le_of_ble_eq_true rfl) (by omega) (by omega) ?_
        refine s_goes hM hF false false false (fun G2 hM2 hF2 => ?_)
        refine kt_v ?_
        obtain ⟨hm2, hA2, -⟩ := id hM2
        refine wp_ifF (pc' := 102) 104 dX9_permit_99 rfl rfl (cmpF rfl) ?_
        refine wp_iconst (pc' := 103) (0) dX9_permit_102 rfl rfl ?_
        refine wp_iret dX9_permit_103 rfl rfl ?_
        exact hX _ _ (by simp only [mcode, K_permit, h9, h38, h71, Bool.false_eq_true, decide_true, decide_false, Bool.not_true, Bool.not_false, Bool.and_true, Bool.true_and, Bool.and_false, Bool.false_and, Bool.or_true, Bool.true_or, Bool.or_false, Bool.false_or, if_true, if_false, ite_true, ite_false]) (by decide) hM2 hF2
    · skip
      refine wp_load (pc' := 42) (j := 2) dX9_permit_41 rfl rfl rfl ?_
      refine wp_s1 0 0 dX9_permit_42 ml_X9_160 (Nat.le_of_ble_eq_true rfl) (by omega) (by omega) ?_
      refine s_isStreet _ ?_
      refine kt_v ?_
      refine wp_ifeqB (pc' := 48) 62 dX9_permit_45 rfl rfl (fun h45 => ?_) (fun h45 => ?_)
      · skip
        refine wp_iconst (pc' := 63) (0) dX9_permit_62 rfl rfl ?_
        refine wp_load (pc' := 65) (j := 6) dX9_permit_63 rfl rfl rfl ?_
        refine wp_load (pc' := 66) (j := 0) dX9_permit_65 rfl rfl rfl ?_
        refine wp_get (pc' := 69) dX9_permit_66 fl_X9_212 hm rfl rfl ?_
        refine wp_bipush (pc' := 71) (40) dX9_permit_69 rfl rfl ?_
        refine wp_icmp_ge (pc' := 74) 95 dX9_permit_71 rfl rfl (fun h71 => ?_) (fun h71 => ?_)
        · skip
          refine wp_iconst (pc' := 96) (0) dX9_permit_95 rfl rfl ?_
          refine wp_v3 0 0 dX9_permit_96 ml_X9_167 hm (Nat.le_of_ble_eq_true rfl) (by omega) (by omega) ?_
          refine s_goes hM hF false false false (fun G3 hM3 hF3 => ?_)
          refine kt_v ?_
          obtain ⟨hm3, hA3, -⟩ := id hM3
          refine wp_ifF (pc' := 102) 104 dX9_permit_99 rfl rfl (cmpF rfl) ?_
          refine wp_iconst (pc' := 103) (0) dX9_permit_102 rfl rfl ?_
          refine wp_iret dX9_permit_103 rfl rfl ?_
          exact hX _ _ (by simp only [mcode, K_permit, h9, h38, h45, h71, Bool.false_eq_true, decide_true, decide_false, Bool.not_true, Bool.not_false, Bool.and_true, Bool.true_and, Bool.and_false, Bool.false_and, Bool.or_true, Bool.true_or, Bool.or_false, Bool.false_or, if_true, if_false, ite_true, ite_false]) (by decide) hM3 hF3
        · skip
          refine wp_load (pc' := 76) (j := 6) dX9_permit_74 rfl rfl rfl ?_
          refine wp_ifT 95 dX9_permit_76 rfl (cmpT rfl) ?_
          refine wp_iconst (pc' := 96) (0) dX9_permit_95 rfl rfl ?_
          refine wp_v3 0 0 dX9_permit_96 ml_X9_167 hm (Nat.le_of_ble_eq_true rfl) (by omega) (by omega) ?_
          refine s_goes hM hF false false false (fun G4 hM4 hF4 => ?_)
          refine kt_v ?_
          obtain ⟨hm4, hA4, -⟩ := id hM4
          refine wp_ifF (pc' := 102) 104 dX9_permit_99 rfl rfl (cmpF rfl) ?_
          refine wp_iconst (pc' := 103) (0) dX9_permit_102 rfl rfl ?_
          refine wp_iret dX9_permit_103 rfl rfl ?_
          exact hX _ _ (by simp only [mcode, K_permit, h9, h38, h45, h71, Bool.false_eq_true, decide_true, decide_false, Bool.not_true, Bool.not_false, Bool.and_true, Bool.true_and, Bool.and_false, Bool.false_and, Bool.or_true, Bool.true_or, Bool.or_false, Bool.false_or, if_true, if_false, ite_true, ite_false]) (by decide) hM4 hF4
      · skip
        refine wp_load (pc' := 49) (j := 3) dX9_permit_48 rfl rfl rfl ?_
        refine wp_iconst (pc' := 50) (0) dX9_permit_49 rfl rfl ?_
        refine wp_bipush (pc' := 52) (9) dX9_permit_50 rfl rfl ?_
        refine wp_s3 0 0 dX9_permit_52 ml_X9_153 (Nat.le_of_ble_eq_true rfl) (by omega) (by omega) ?_
        refine s_in _ _ _ ?_
        refine kt_v ?_
        refine wp_ifeqB (pc' := 58) 62 dX9_permit_55 rfl rfl (fun h55 => ?_) (fun h55 => ?_)
        · skip
          refine wp_iconst (pc' := 63) (0) dX9_permit_62 rfl rfl ?_
          refine wp_load (pc' := 65) (j := 6) dX9_permit_63 rfl rfl rfl ?_
          refine wp_load (pc' := 66) (j := 0) dX9_permit_65 rfl rfl rfl ?_
          refine wp_get (pc' := 69) dX9_permit_66 fl_X9_212 hm rfl rfl ?_
          refine wp_bipush (pc' := 71) (40) dX9_permit_69 rfl rfl ?_
          refine wp_icmp_ge (pc' := 74) 95 dX9_permit_71 rfl rfl (fun h71 => ?_) (fun h71 => ?_)
          · skip
            refine wp_iconst (pc' := 96) (0) dX9_permit_95 rfl rfl ?_
            refine wp_v3 0 0 dX9_permit_96 ml_X9_167 hm (Nat.le_of_ble_eq_true rfl) (by omega) (by omega) ?_
            refine s_goes hM hF false false false (fun G5 hM5 hF5 => ?_)
            refine kt_v ?_
            obtain ⟨hm5, hA5, -⟩ := id hM5
            refine wp_ifF (pc' := 102) 104 dX9_permit_99 rfl rfl (cmpF rfl) ?_
            refine wp_iconst (pc' := 103) (0) dX9_permit_102 rfl rfl ?_
            refine wp_iret dX9_permit_103 rfl rfl ?_
            exact hX _ _ (by simp only [mcode, K_permit, h9, h38, h45, h55, h71, Bool.false_eq_true, decide_true, decide_false, Bool.not_true, Bool.not_false, Bool.and_true, Bool.true_and, Bool.and_false, Bool.false_and, Bool.or_true, Bool.true_or, Bool.or_false, Bool.false_or, if_true, if_false, ite_true, ite_false]) (by decide) hM5 hF5
          · skip
            refine wp_load (pc' := 76) (j := 6) dX9_permit_74 rfl rfl rfl ?_
            refine wp_ifT 95 dX9_permit_76 rfl (cmpT rfl) ?_
            refine wp_iconst (pc' := 96) (0) dX9_permit_95 rfl rfl ?_
            refine wp_v3 0 0 dX9_permit_96 ml_X9_167 hm (Nat.le_of_ble_eq_true rfl) (by omega) (by omega) ?_
            refine s_goes hM hF false false false (fun G6 hM6 hF6 => ?_)
            refine kt_v ?_
            obtain ⟨hm6, hA6, -⟩ := id hM6
            refine wp_ifF (pc' := 102) 104 dX9_permit_99 rfl rfl (cmpF rfl) ?_
            refine wp_iconst (pc' := 103) (0) dX9_permit_102 rfl rfl ?_
            refine wp_iret dX9_permit_103 rfl rfl ?_
            exact hX _ _ (by simp only [mcode, K_permit, h9, h38, h45, h55, h71, Bool.false_eq_true, decide_true, decide_false, Bool.not_true, Bool.not_false, Bool.and_true, Bool.true_and, Bool.and_false, Bool.false_and, Bool.or_true, Bool.true_or, Bool.or_false, Bool.false_or, if_true, if_false, ite_true, ite_false]) (by decide) hM6 hF6
        · skip
          refine wp_iconst (pc' := 59) (1) dX9_permit_58 rfl rfl ?_
          refine wp_goto 63 dX9_permit_59 rfl ?_
          refine wp_load (pc' := 65) (j := 6) dX9_permit_63 rfl rfl rfl ?_
          refine wp_load (pc' := 66) (j := 0) dX9_permit_65 rfl rfl rfl ?_
          refine wp_get (pc' := 69) dX9_permit_66 fl_X9_212 hm rfl rfl ?_
          refine wp_bipush (pc' := 71) (40) dX9_permit_69 rfl rfl ?_
          refine wp_icmp_ge (pc' := 74) 95 dX9_permit_71 rfl rfl (fun h71 => ?_) (fun h71 => ?_)
          · skip
            refine wp_iconst (pc' := 96) (0) dX9_permit_95 rfl rfl ?_
            refine wp_v3 0 0 dX9_permit_96 ml_X9_167 hm (Nat.le_of_ble_eq_true rfl) (by omega) (by omega) ?_
            refine s_goes hM hF true false false (fun G7 hM7 hF7 => ?_)
            refine kt_v ?_
            obtain ⟨hm7, hA7, -⟩ := id hM7
            refine wp_ifF (pc' := 102) 104 dX9_permit_99 rfl rfl (cmpF rfl) ?_
            refine wp_iconst (pc' := 103) (0) dX9_permit_102 rfl rfl ?_
            refine wp_iret dX9_permit_103 rfl rfl ?_
            exact hX _ _ (by simp only [mcode, K_permit, h9, h38, h45, h55, h71, Bool.false_eq_true, decide_true, decide_false, Bool.not_true, Bool.not_false, Bool.and_true, Bool.true_and, Bool.and_false, Bool.false_and, Bool.or_true, Bool.true_or, Bool.or_false, Bool.false_or, if_true, if_false, ite_true, ite_false]) (by decide) hM7 hF7
          · skip
            refine wp_load (pc' := 76) (j := 6) dX9_permit_74 rfl rfl rfl ?_
            refine wp_ifT 95 dX9_permit_76 rfl (cmpT rfl) ?_
            refine wp_iconst (pc' := 96) (0) dX9_permit_95 rfl rfl ?_
            refine wp_v3 0 0 dX9_permit_96 ml_X9_167 hm (Nat.le_of_ble_eq_true rfl) (by omega) (by omega) ?_
            refine s_goes hM hF true false false (fun G8 hM8 hF8 => ?_)
            refine kt_v ?_
            obtain ⟨hm8, hA8, -⟩ := id hM8
            refine wp_ifF (pc' := 102) 104 dX9_permit_99 rfl rfl (cmpF rfl) ?_
            refine wp_iconst (pc' := 103) (0) dX9_permit_102 rfl rfl ?_
            refine wp_iret dX9_permit_103 rfl rfl ?_
            exact hX _ _ (by simp only [mcode, K_permit, h9, h38, h45, h55, h71, Bool.false_eq_true, decide_true, decide_false, Bool.not_true, Bool.not_false, Bool.and_true, Bool.true_and, Bool.and_false, Bool.false_and, Bool.or_true, Bool.true_or, Bool.or_false, Bool.false_or, if_true, if_false, ite_true, ite_false]) (by decide) hM8 hF8
  · skip
    refine wp_load (pc' := 14) (j := 5) dX9_permit_12 rfl rfl rfl ?_
    refine wp_load (pc' := 16) (j := 4) dX9_permit_14 rfl rfl rfl ?_
    refine wp_sipush (pc' := 19) (520) dX9_permit_16 rfl rfl ?_
    refine wp_s3 0 0 dX9_permit_19 ml_X9_153 (Nat.le_of_ble_eq_true rfl) (by omega) (by omega) ?_
    refine s_in _ _ _ ?_
    refine kt_v ?_
    refine wp_ifeqB (pc' := 25) 29 dX9_permit_22 rfl rfl (fun h22 => ?_) (fun h22 => ?_)
    · skip
      refine wp_iconst (pc' := 30) (0) dX9_permit_29 rfl rfl ?_
      refine wp_store (pc' := 32) (j := 6) (ls' := [_, _, _, _, _, _, _]) dX9_permit_30 rfl (Nat.le_of_ble_eq_true rfl) rfl rfl ?_
      refine wp_load (pc' := 33) (j := 0) dX9_permit_32 rfl rfl rfl ?_
      refine wp_load (pc' := 34) (j := 0) dX9_permit_33 rfl rfl rfl ?_
      refine wp_load (pc' := 35) (j := 1) dX9_permit_34 rfl rfl rfl ?_
      refine wp_v1 0 0 dX9_permit_35 ml_X9_219 hm (Nat.le_of_ble_eq_true rfl) (by omega) (by omega) ?_
      refine s_isCar hM _ ?_
      refine kt_v ?_
      refine wp_ifeqB (pc' := 41) 62 dX9_permit_38 rfl rfl (fun h38 => ?_) (fun h38 => ?_)
      · skip
        refine wp_iconst (pc' := 63) (0) dX9_permit_62 rfl rfl ?_
        refine wp_load (pc' := 65) (j := 6) dX9_permit_63 rfl rfl rfl ?_
        refine wp_load (pc' := 66) (j := 0) dX9_permit_65 rfl rfl rfl ?_
        refine wp_get (pc' := 69) dX9_permit_66 fl_X9_212 hm rfl rfl ?_
        refine wp_bipush (pc' := 71) (40) dX9_permit_69 rfl rfl ?_
        refine wp_icmp_ge (pc' := 74) 95 dX9_permit_71 rfl rfl (fun h71 => ?_) (fun h71 => ?_)
        · skip
          refine wp_iconst (pc' := 96) (0) dX9_permit_95 rfl rfl ?_
          refine wp_v3 0 0 dX9_permit_96 ml_X9_167 hm (Nat.le_of_ble_eq_true rfl) (by omega) (by omega) ?_
          refine s_goes hM hF false false false (fun G9 hM9 hF9 => ?_)
          refine kt_v ?_
          obtain ⟨hm9, hA9, -⟩ := id hM9
          refine wp_ifF (pc' := 102) 104 dX9_permit_99 rfl rfl (cmpF rfl) ?_
          refine wp_iconst (pc' := 103) (0) dX9_permit_102 rfl rfl ?_
          refine wp_iret dX9_permit_103 rfl rfl ?_
          exact hX _ _ (by simp only [mcode, K_permit, h9, h22, h38, h71, Bool.false_eq_true, decide_true, decide_false, Bool.not_true, Bool.not_false, Bool.and_true, Bool.true_and, Bool.and_false, Bool.false_and, Bool.or_true, Bool.true_or, Bool.or_false, Bool.false_or, if_true, if_false, ite_true, ite_false]) (by decide) hM9 hF9
        · skip
          refine wp_load (pc' := 76) (j := 6) dX9_permit_74 rfl rfl rfl ?_
          refine wp_ifT 95 dX9_permit_76 rfl (cmpT rfl) ?_
          refine wp_iconst (pc' := 96) (0) dX9_permit_95 rfl rfl ?_
          refine wp_v3 0 0 dX9_permit_96 ml_X9_167 hm (Nat.le_of_ble_eq_true rfl) (by omega) (by omega) ?_
          refine s_goes hM hF false false false (fun G10 hM10 hF10 => ?_)
          refine kt_v ?_
          obtain ⟨hm10, hA10, -⟩ := id hM10
          refine wp_ifF (pc' := 102) 104 dX9_permit_99 rfl rfl (cmpF rfl) ?_
          refine wp_iconst (pc' := 103) (0) dX9_permit_102 rfl rfl ?_
          refine wp_iret dX9_permit_103 rfl rfl ?_
          exact hX _ _ (by simp only [mcode, K_permit, h9, h22, h38, h71, Bool.false_eq_true, decide_true, decide_false, Bool.not_true, Bool.not_false, Bool.and_true, Bool.true_and, Bool.and_false, Bool.false_and, Bool.or_true, Bool.true_or, Bool.or_false, Bool.false_or, if_true, if_false, ite_true, ite_false]) (by decide) hM10 hF10
      · skip
        refine wp_load (pc' := 42) (j := 2) dX9_permit_41 rfl rfl rfl ?_
        refine wp_s1 0 0 dX9_permit_42 ml_X9_160 (Nat.le_of_ble_eq_true rfl) (by omega) (by omega) ?_
        refine s_isStreet _ ?_
        refine kt_v ?_
        refine wp_ifeqB (pc' := 48) 62 dX9_permit_45 rfl rfl (fun h45 => ?_) (fun h45 => ?_)
        · skip
          refine wp_iconst (pc' := 63) (0) dX9_permit_62 rfl rfl ?_
          refine wp_load (pc' := 65) (j := 6) dX9_permit_63 rfl rfl rfl ?_
          refine wp_load (pc' := 66) (j := 0) dX9_permit_65 rfl rfl rfl ?_
          refine wp_get (pc' := 69) dX9_permit_66 fl_X9_212 hm rfl rfl ?_
          refine wp_bipush (pc' := 71) (40) dX9_permit_69 rfl rfl ?_
          refine wp_icmp_ge (pc' := 74) 95 dX9_permit_71 rfl rfl (fun h71 => ?_) (fun h71 => ?_)
          · skip
            refine wp_iconst (pc' := 96) (0) dX9_permit_95 rfl rfl ?_
            refine wp_v3 0 0 dX9_permit_96 ml_X9_167 hm (Nat.le_of_ble_eq_true rfl) (by omega) (by omega) ?_
            refine s_goes hM hF false false false (fun G11 hM11 hF11 => ?_)
            refine kt_v ?_
            obtain ⟨hm11, hA11, -⟩ := id hM11
            refine wp_ifF (pc' := 102) 104 dX9_permit_99 rfl rfl (cmpF rfl) ?_
            refine wp_iconst (pc' := 103) (0) dX9_permit_102 rfl rfl ?_
            refine wp_iret dX9_permit_103 rfl rfl ?_
            exact hX _ _ (by simp only [mcode, K_permit, h9, h22, h38, h45, h71, Bool.false_eq_true, decide_true, decide_false, Bool.not_true, Bool.not_false, Bool.and_true, Bool.true_and, Bool.and_false, Bool.false_and, Bool.or_true, Bool.true_or, Bool.or_false, Bool.false_or, if_true, if_false, ite_true, ite_false]) (by decide) hM11 hF11
          · skip
            refine wp_load (pc' := 76) (j := 6) dX9_permit_74 rfl rfl rfl ?_
            refine wp_ifT 95 dX9_permit_76 rfl (cmpT rfl) ?_
            refine wp_iconst (pc' := 96) (0) dX9_permit_95 rfl rfl ?_
            refine wp_v3 0 0 dX9_permit_96 ml_X9_167 hm (Nat.le_of_ble_eq_true rfl) (by omega) (by omega) ?_
            refine s_goes hM hF false false false (fun G12 hM12 hF12 => ?_)
            refine kt_v ?_
            obtain ⟨hm12, hA12, -⟩ := id hM12
            refine wp_ifF (pc' := 102) 104 dX9_permit_99 rfl rfl (cmpF rfl) ?_
            refine wp_iconst (pc' := 103) (0) dX9_permit_102 rfl rfl ?_
            refine wp_iret dX9_permit_103 rfl rfl ?_
            exact hX _ _ (by simp only [mcode, K_permit, h9, h22, h38, h45, h71, Bool.false_eq_true, decide_true, decide_false, Bool.not_true, Bool.not_false, Bool.and_true, Bool.true_and, Bool.and_false, Bool.false_and, Bool.or_true, Bool.true_or, Bool.or_false, Bool.false_or, if_true, if_false, ite_true, ite_false]) (by decide) hM12 hF12
        · skip
          refine wp_load (pc' := 49) (j := 3) dX9_permit_48 rfl rfl rfl ?_
          refine wp_iconst (pc' := 50) (0) dX9_permit_49 rfl rfl ?_
          refine wp_bipush (pc' := 52) (9) dX9_permit_50 rfl rfl ?_
          refine wp_s3 0 0 dX9_permit_52 ml_X9_153 (Nat.le_of_ble_eq_true rfl) (by omega) (by omega) ?_
          refine s_in _ _ _ ?_
          refine kt_v ?_
          refine wp_ifeqB (pc' := 58) 62 dX9_permit_55 rfl rfl (fun h55 => ?_) (fun h55 => ?_)
          · skip
            refine wp_iconst (pc' := 63) (0) dX9_permit_62 rfl rfl ?_
            refine wp_load (pc' := 65) (j := 6) dX9_permit_63 rfl rfl rfl ?_
            refine wp_load (pc' := 66) (j := 0) dX9_permit_65 rfl rfl rfl ?_
            refine wp_get (pc' := 69) dX9_permit_66 fl_X9_212 hm rfl rfl ?_
            refine wp_bipush (pc' := 71) (40) dX9_permit_69 rfl rfl ?_
            refine wp_icmp_ge (pc' := 74) 95 dX9_permit_71 rfl rfl (fun h71 => ?_) (fun h71 => ?_)
            · skip
              refine wp_iconst (pc' := 96) (0) dX9_permit_95 rfl rfl ?_
              refine wp_v3 0 0 dX9_permit_96 ml_X9_167 hm (Nat.le_of_ble_eq_true rfl) (by omega) (by omega) ?_
              refine s_goes hM hF false false false (fun G13 hM13 hF13 => ?_)
              refine kt_v ?_
              obtain ⟨hm13, hA13, -⟩ := id hM13
              refine wp_ifF (pc' := 102) 104 dX9_permit_99 rfl rfl (cmpF rfl) ?_
              refine wp_iconst (pc' := 103) (0) dX9_permit_102 rfl rfl ?_
              refine wp_iret dX9_permit_103 rfl rfl ?_
              exact hX _ _ (by simp only [mcode, K_permit, h9, h22, h38, h45, h55, h71, Bool.false_eq_true, decide_true, decide_false, Bool.not_true, Bool.not_false, Bool.and_true, Bool.true_and, Bool.and_false, Bool.false_and, Bool.or_true, Bool.true_or, Bool.or_false, Bool.false_or, if_true, if_false, ite_true, ite_false]) (by decide) hM13 hF13
            · skip
              refine wp_load (pc' := 76) (j := 6) dX9_permit_74 rfl rfl rfl ?_
              refine wp_ifT 95 dX9_permit_76 rfl (cmpT rfl) ?_
              refine wp_iconst (pc' := 96) (0) dX9_permit_95 rfl rfl ?_
              refine wp_v3 0 0 dX9_permit_96 ml_X9_167 hm (Nat.le_of_ble_eq_true rfl) (by omega) (by omega) ?_
              refine s_goes hM hF false false false (fun G14 hM14 hF14 => ?_)
              refine kt_v ?_
              obtain ⟨hm14, hA14, -⟩ := id hM14
              refine wp_ifF (pc' := 102) 104 dX9_permit_99 rfl rfl (cmpF rfl) ?_
              refine wp_iconst (pc' := 103) (0) dX9_permit_102 rfl rfl ?_
              refine wp_iret dX9_permit_103 rfl rfl ?_
              exact hX _ _ (by simp only [mcode, K_permit, h9, h22, h38, h45, h55, h71, Bool.false_eq_true, decide_true, decide_false, Bool.not_true, Bool.not_false, Bool.and_true, Bool.true_and, Bool.and_false, Bool.false_and, Bool.or_true, Bool.true_or, Bool.or_false, Bool.false_or, if_true, if_false, ite_true, ite_false]) (by decide) hM14 hF14
          · skip
            refine wp_iconst (pc' := 59) (1) dX9_permit_58 rfl rfl ?_
            refine wp_goto 63 dX9_permit_59 rfl ?_
            refine wp_load (pc' := 65) (j := 6) dX9_permit_63 rfl rfl rfl ?_
            refine wp_load (pc' := 66) (j := 0) dX9_permit_65 rfl rfl rfl ?_
            refine wp_get (pc' := 69) dX9_permit_66 fl_X9_212 hm rfl rfl ?_
            refine wp_bipush (pc' := 71) (40) dX9_permit_69 rfl rfl ?_
            refine wp_icmp_ge (pc' := 74) 95 dX9_permit_71 rfl rfl (fun h71 => ?_) (fun h71 => ?_)
            · skip
              refine wp_iconst (pc' := 96) (0) dX9_permit_95 rfl rfl ?_
              refine wp_v3 0 0 dX9_permit_96 ml_X9_167 hm (Nat.le_of_ble_eq_true rfl) (by omega) (by omega) ?_
              refine s_goes hM hF true false false (fun G15 hM15 hF15 => ?_)
              refine kt_v ?_
              obtain ⟨hm15, hA15, -⟩ := id hM15
              refine wp_ifF (pc' := 102) 104 dX9_permit_99 rfl rfl (cmpF rfl) ?_
              refine wp_iconst (pc' := 103) (0) dX9_permit_102 rfl rfl ?_
              refine wp_iret dX9_permit_103 rfl rfl ?_
              exact hX _ _ (by simp only [mcode, K_permit, h9, h22, h38, h45, h55, h71, Bool.false_eq_true, decide_true, decide_false, Bool.not_true, Bool.not_false, Bool.and_true, Bool.true_and, Bool.and_false, Bool.false_and, Bool.or_true, Bool.true_or, Bool.or_false, Bool.false_or, if_true, if_false, ite_true, ite_false]) (by decide) hM15 hF15
            · skip
              refine wp_load (pc' := 76) (j := 6) dX9_permit_74 rfl rfl rfl ?_
              refine wp_ifT 95 dX9_permit_76 rfl (cmpT rfl) ?_
              refine wp_iconst (pc' := 96) (0) dX9_permit_95 rfl rfl ?_
              refine wp_v3 0 0 dX9_permit_96 ml_X9_167 hm (Nat.le_of_ble_eq_true rfl) (by omega) (by omega) ?_
              refine s_goes hM hF true false false (fun G16 hM16 hF16 => ?_)
              refine kt_v ?_
              obtain ⟨hm16, hA16, -⟩ := id hM16
              refine wp_ifF (pc' := 102) 104 dX9_permit_99 rfl rfl (cmpF rfl) ?_
              refine wp_iconst (pc' := 103) (0) dX9_permit_102 rfl rfl ?_
              refine wp_iret dX9_permit_103 rfl rfl ?_
              exact hX _ _ (by simp only [mcode, K_permit, h9, h22, h38, h45, h55, h71, Bool.false_eq_true, decide_true, decide_false, Bool.not_true, Bool.not_false, Bool.and_true, Bool.true_and, Bool.and_false, Bool.false_and, Bool.or_true, Bool.true_or, Bool.or_false, Bool.false_or, if_true, if_false, ite_true, ite_false]) (by decide) hM16 hF16
    · skip
      refine wp_iconst (pc' := 26) (1) dX9_permit_25 rfl rfl ?_
      refine wp_goto 30 dX9_permit_26 rfl ?_
      refine wp_store (pc' := 32) (j := 6) (ls' := [_, _, _, _, _, _, _]) dX9_permit_30 rfl (Nat.le_of_ble_eq_true rfl) rfl rfl ?_
      refine wp_load (pc' := 33) (j := 0) dX9_permit_32 rfl rfl rfl ?_
      refine wp_load (pc' := 34) (j := 0) dX9_permit_33 rfl rfl rfl ?_
      refine wp_load (pc' := 35) (j := 1) dX9_permit_34 rfl rfl rfl ?_
      refine wp_v1 0 0 dX9_permit_35 ml_X9_219 hm (Nat.le_of_ble_eq_true rfl) (by omega) (by omega) ?_
      refine s_isCar hM _ ?_
      refine kt_v ?_
      refine wp_ifeqB (pc' := 41) 62 dX9_permit_38 rfl rfl (fun h38 => ?_) (fun h38 => ?_)
      · skip
        refine wp_iconst (pc' := 63) (0) dX9_permit_62 rfl rfl ?_
        refine wp_load (pc' := 65) (j := 6) dX9_permit_63 rfl rfl rfl ?_
        refine wp_load (pc' := 66) (j := 0) dX9_permit_65 rfl rfl rfl ?_
        refine wp_get (pc' := 69) dX9_permit_66 fl_X9_212 hm rfl rfl ?_
        refine wp_bipush (pc' := 71) (40) dX9_permit_69 rfl rfl ?_
        refine wp_icmp_ge (pc' := 74) 95 dX9_permit_71 rfl rfl (fun h71 => ?_) (fun h71 => ?_)
        · skip
          refine wp_iconst (pc' := 96) (0) dX9_permit_95 rfl rfl ?_
          refine wp_v3 0 0 dX9_permit_96 ml_X9_167 hm (Nat.le_of_ble_eq_true rfl) (by omega) (by omega) ?_
          refine s_goes hM hF false true false (fun G17 hM17 hF17 => ?_)
          refine kt_v ?_
          obtain ⟨hm17, hA17, -⟩ := id hM17
          refine wp_ifF (pc' := 102) 104 dX9_permit_99 rfl rfl (cmpF rfl) ?_
          refine wp_iconst (pc' := 103) (0) dX9_permit_102 rfl rfl ?_
          refine wp_iret dX9_permit_103 rfl rfl ?_
          exact hX _ _ (by simp only [mcode, K_permit, h9, h22, h38, h71, Bool.false_eq_true, decide_true, decide_false, Bool.not_true, Bool.not_false, Bool.and_true, Bool.true_and, Bool.and_false, Bool.false_and, Bool.or_true, Bool.true_or, Bool.or_false, Bool.false_or, if_true, if_false, ite_true, ite_false]) (by decide) hM17 hF17
        · skip
          refine wp_load (pc' := 76) (j := 6) dX9_permit_74 rfl rfl rfl ?_
          refine wp_ifF (pc' := 79) 95 dX9_permit_76 rfl rfl (cmpF rfl) ?_
          obtain ⟨a, ha, rfl⟩ := day_nI h9
          obtain ⟨b, hb, rfl⟩ : ∃ b, b < 521 ∧ t = nI b := by
            have h22b := h22
            unfold inB at h22b
            simp only [Bool.and_eq_true, Bool.not_eq_true', decide_eq_false_iff_not] at h22b
            refine day_nI ?_
            unfold inB
            rw [decide_eq_false h22b.2, decide_eq_false (fun q => h22b.1 ?_)]
            · rfl
            · exact Int32.lt_of_lt_of_le q (nI_pos' (by omega))
          have hab : a ≤ b := by
            have h22b := h22
            unfold inB at h22b
            simp only [Bool.and_eq_true, Bool.not_eq_true', decide_eq_false_iff_not] at h22b
            rcases Nat.lt_or_ge b a with q | q
            · exact absurd (nI_lt q (by omega)) h22b.1
            · exact q
          refine wp_load (pc' := 80) (j := 0) dX9_permit_79 rfl rfl rfl ?_
          refine wp_load (pc' := 81) (j := 3) dX9_permit_80 rfl rfl rfl ?_
          refine wp_load (pc' := 83) (j := 4) dX9_permit_81 rfl rfl rfl ?_
          refine wp_load (pc' := 85) (j := 5) dX9_permit_83 rfl rfl rfl ?_
          refine wp_v3 0 0 dX9_permit_85 ml_X9_222 hm (Nat.le_of_ble_eq_true rfl) (by omega) (by omega) ?_
          refine s_hasRoom hM hp hp40 _ hab (show b ≤ 520 from by omega) ?_
          refine kt_v ?_
          refine wp_ifeqB (pc' := 91) 95 dX9_permit_88 rfl rfl (fun h88 => ?_) (fun h88 => ?_)
          · skip
            refine wp_iconst (pc' := 96) (0) dX9_permit_95 rfl rfl ?_
            refine wp_v3 0 0 dX9_permit_96 ml_X9_167 hm (Nat.le_of_ble_eq_true rfl) (by omega) (by omega) ?_
            refine s_goes hM hF false true false (fun G18 hM18 hF18 => ?_)
            refine kt_v ?_
            obtain ⟨hm18, hA18, -⟩ := id hM18
            refine wp_ifF (pc' := 102) 104 dX9_permit_99 rfl rfl (cmpF rfl) ?_
            refine wp_iconst (pc' := 103) (0) dX9_permit_102 rfl rfl ?_
            refine wp_iret dX9_permit_103 rfl rfl ?_
            exact hX _ _ (by simp only [mcode, K_permit, ix_nI (show a < 2 ^ 31 from by omega), ix_nI (show b < 2 ^ 31 from by omega), h9, h22, h38, h71, h88, Bool.false_eq_true, decide_true, decide_false, Bool.not_true, Bool.not_false, Bool.and_true, Bool.true_and, Bool.and_false, Bool.false_and, Bool.or_true, Bool.true_or, Bool.or_false, Bool.false_or, if_true, if_false, ite_true, ite_false]) (by decide) hM18 hF18
          · skip
            refine wp_iconst (pc' := 92) (1) dX9_permit_91 rfl rfl ?_
            refine wp_goto 96 dX9_permit_92 rfl ?_
            refine wp_v3 0 0 dX9_permit_96 ml_X9_167 hm (Nat.le_of_ble_eq_true rfl) (by omega) (by omega) ?_
            refine s_goes hM hF false true true (fun G19 hM19 hF19 => ?_)
            refine kt_v ?_
            obtain ⟨hm19, hA19, -⟩ := id hM19
            refine wp_ifF (pc' := 102) 104 dX9_permit_99 rfl rfl (cmpF rfl) ?_
            refine wp_iconst (pc' := 103) (0) dX9_permit_102 rfl rfl ?_
            refine wp_iret dX9_permit_103 rfl rfl ?_
            exact hX _ _ (by simp only [mcode, K_permit, ix_nI (show a < 2 ^ 31 from by omega), ix_nI (show b < 2 ^ 31 from by omega), h9, h22, h38, h71, h88, Bool.false_eq_true, decide_true, decide_false, Bool.not_true, Bool.not_false, Bool.and_true, Bool.true_and, Bool.and_false, Bool.false_and, Bool.or_true, Bool.true_or, Bool.or_false, Bool.false_or, if_true, if_false, ite_true, ite_false]) (by decide) hM19 hF19
      · skip
        refine wp_load (pc' := 42) (j := 2) dX9_permit_41 rfl rfl rfl ?_
        refine wp_s1 0 0 dX9_permit_42 ml_X9_160 (Nat.le_of_ble_eq_true rfl) (by omega) (by omega) ?_
        refine s_isStreet _ ?_
        refine kt_v ?_
        refine wp_ifeqB (pc' := 48) 62 dX9_permit_45 rfl rfl (fun h45 => ?_) (fun h45 => ?_)
        · skip
          refine wp_iconst (pc' := 63) (0) dX9_permit_62 rfl rfl ?_
          refine wp_load (pc' := 65) (j := 6) dX9_permit_63 rfl rfl rfl ?_
          refine wp_load (pc' := 66) (j := 0) dX9_permit_65 rfl rfl rfl ?_
          refine wp_get (pc' := 69) dX9_permit_66 fl_X9_212 hm rfl rfl ?_
          refine wp_bipush (pc' := 71) (40) dX9_permit_69 rfl rfl ?_
          refine wp_icmp_ge (pc' := 74) 95 dX9_permit_71 rfl rfl (fun h71 => ?_) (fun h71 => ?_)
          · skip
            refine wp_iconst (pc' := 96) (0) dX9_permit_95 rfl rfl ?_
            refine wp_v3 0 0 dX9_permit_96 ml_X9_167 hm (Nat.le_of_ble_eq_true rfl) (by omega) (by omega) ?_
            refine s_goes hM hF false true false (fun G20 hM20 hF20 => ?_)
            refine kt_v ?_
            obtain ⟨hm20, hA20, -⟩ := id hM20
            refine wp_ifF (pc' := 102) 104 dX9_permit_99 rfl rfl (cmpF rfl) ?_
            refine wp_iconst (pc' := 103) (0) dX9_permit_102 rfl rfl ?_
            refine wp_iret dX9_permit_103 rfl rfl ?_
            exact hX _ _ (by simp only [mcode, K_permit, h9, h22, h38, h45, h71, Bool.false_eq_true, decide_true, decide_false, Bool.not_true, Bool.not_false, Bool.and_true, Bool.true_and, Bool.and_false, Bool.false_and, Bool.or_true, Bool.true_or, Bool.or_false, Bool.false_or, if_true, if_false, ite_true, ite_false]) (by decide) hM20 hF20
          · skip
            refine wp_load (pc' := 76) (j := 6) dX9_permit_74 rfl rfl rfl ?_
            refine wp_ifF (pc' := 79) 95 dX9_permit_76 rfl rfl (cmpF rfl) ?_
            obtain ⟨a, ha, rfl⟩ := day_nI h9
            obtain ⟨b, hb, rfl⟩ : ∃ b, b < 521 ∧ t = nI b := by
              have h22b := h22
              unfold inB at h22b
              simp only [Bool.and_eq_true, Bool.not_eq_true', decide_eq_false_iff_not] at h22b
              refine day_nI ?_
              unfold inB
              rw [decide_eq_false h22b.2, decide_eq_false (fun q => h22b.1 ?_)]
              · rfl
              · exact Int32.lt_of_lt_of_le q (nI_pos' (by omega))
            have hab : a ≤ b := by
              have h22b := h22
              unfold inB at h22b
              simp only [Bool.and_eq_true, Bool.not_eq_true', decide_eq_false_iff_not] at h22b
              rcases Nat.lt_or_ge b a with q | q
              · exact absurd (nI_lt q (by omega)) h22b.1
              · exact q
            refine wp_load (pc' := 80) (j := 0) dX9_permit_79 rfl rfl rfl ?_
            refine wp_load (pc' := 81) (j := 3) dX9_permit_80 rfl rfl rfl ?_
            refine wp_load (pc' := 83) (j := 4) dX9_permit_81 rfl rfl rfl ?_
            refine wp_load (pc' := 85) (j := 5) dX9_permit_83 rfl rfl rfl ?_
            refine wp_v3 0 0 dX9_permit_85 ml_X9_222 hm (Nat.le_of_ble_eq_true rfl) (by omega) (by omega) ?_
            refine s_hasRoom hM hp hp40 _ hab (show b ≤ 520 from by omega) ?_
            refine kt_v ?_
            refine wp_ifeqB (pc' := 91) 95 dX9_permit_88 rfl rfl (fun h88 => ?_) (fun h88 => ?_)
            · skip
              refine wp_iconst (pc' := 96) (0) dX9_permit_95 rfl rfl ?_
              refine wp_v3 0 0 dX9_permit_96 ml_X9_167 hm (Nat.le_of_ble_eq_true rfl) (by omega) (by omega) ?_
              refine s_goes hM hF false true false (fun G21 hM21 hF21 => ?_)
              refine kt_v ?_
              obtain ⟨hm21, hA21, -⟩ := id hM21
              refine wp_ifF (pc' := 102) 104 dX9_permit_99 rfl rfl (cmpF rfl) ?_
              refine wp_iconst (pc' := 103) (0) dX9_permit_102 rfl rfl ?_
              refine wp_iret dX9_permit_103 rfl rfl ?_
              exact hX _ _ (by simp only [mcode, K_permit, ix_nI (show a < 2 ^ 31 from by omega), ix_nI (show b < 2 ^ 31 from by omega), h9, h22, h38, h45, h71, h88, Bool.false_eq_true, decide_true, decide_false, Bool.not_true, Bool.not_false, Bool.and_true, Bool.true_and, Bool.and_false, Bool.false_and, Bool.or_true, Bool.true_or, Bool.or_false, Bool.false_or, if_true, if_false, ite_true, ite_false]) (by decide) hM21 hF21
            · skip
              refine wp_iconst (pc' := 92) (1) dX9_permit_91 rfl rfl ?_
              refine wp_goto 96 dX9_permit_92 rfl ?_
              refine wp_v3 0 0 dX9_permit_96 ml_X9_167 hm (Nat.le_of_ble_eq_true rfl) (by omega) (by omega) ?_
              refine s_goes hM hF false true true (fun G22 hM22 hF22 => ?_)
              refine kt_v ?_
              obtain ⟨hm22, hA22, -⟩ := id hM22
              refine wp_ifF (pc' := 102) 104 dX9_permit_99 rfl rfl (cmpF rfl) ?_
              refine wp_iconst (pc' := 103) (0) dX9_permit_102 rfl rfl ?_
              refine wp_iret dX9_permit_103 rfl rfl ?_
              exact hX _ _ (by simp only [mcode, K_permit, ix_nI (show a < 2 ^ 31 from by omega), ix_nI (show b < 2 ^ 31 from by omega), h9, h22, h38, h45, h71, h88, Bool.false_eq_true, decide_true, decide_false, Bool.not_true, Bool.not_false, Bool.and_true, Bool.true_and, Bool.and_false, Bool.false_and, Bool.or_true, Bool.true_or, Bool.or_false, Bool.false_or, if_true, if_false, ite_true, ite_false]) (by decide) hM22 hF22
        · skip
          refine wp_load (pc' := 49) (j := 3) dX9_permit_48 rfl rfl rfl ?_
          refine wp_iconst (pc' := 50) (0) dX9_permit_49 rfl rfl ?_
          refine wp_bipush (pc' := 52) (9) dX9_permit_50 rfl rfl ?_
          refine wp_s3 0 0 dX9_permit_52 ml_X9_153 (Nat.le_of_ble_eq_true rfl) (by omega) (by omega) ?_
          refine s_in _ _ _ ?_
          refine kt_v ?_
          refine wp_ifeqB (pc' := 58) 62 dX9_permit_55 rfl rfl (fun h55 => ?_) (fun h55 => ?_)
          · skip
            refine wp_iconst (pc' := 63) (0) dX9_permit_62 rfl rfl ?_
            refine wp_load (pc' := 65) (j := 6) dX9_permit_63 rfl rfl rfl ?_
            refine wp_load (pc' := 66) (j := 0) dX9_permit_65 rfl rfl rfl ?_
            refine wp_get (pc' := 69) dX9_permit_66 fl_X9_212 hm rfl rfl ?_
            refine wp_bipush (pc' := 71) (40) dX9_permit_69 rfl rfl ?_
            refine wp_icmp_ge (pc' := 74) 95 dX9_permit_71 rfl rfl (fun h71 => ?_) (fun h71 => ?_)
            · skip
              refine wp_iconst (pc' := 96) (0) dX9_permit_95 rfl rfl ?_
              refine wp_v3 0 0 dX9_permit_96 ml_X9_167 hm (Nat.le_of_ble_eq_true rfl) (by omega) (by omega) ?_
              refine s_goes hM hF false true false (fun G23 hM23 hF23 => ?_)
              refine kt_v ?_
              obtain ⟨hm23, hA23, -⟩ := id hM23
              refine wp_ifF (pc' := 102) 104 dX9_permit_99 rfl rfl (cmpF rfl) ?_
              refine wp_iconst (pc' := 103) (0) dX9_permit_102 rfl rfl ?_
              refine wp_iret dX9_permit_103 rfl rfl ?_
              exact hX _ _ (by simp only [mcode, K_permit, h9, h22, h38, h45, h55, h71, Bool.false_eq_true, decide_true, decide_false, Bool.not_true, Bool.not_false, Bool.and_true, Bool.true_and, Bool.and_false, Bool.false_and, Bool.or_true, Bool.true_or, Bool.or_false, Bool.false_or, if_true, if_false, ite_true, ite_false]) (by decide) hM23 hF23
            · skip
              refine wp_load (pc' := 76) (j := 6) dX9_permit_74 rfl rfl rfl ?_
              refine wp_ifF (pc' := 79) 95 dX9_permit_76 rfl rfl (cmpF rfl) ?_
              obtain ⟨a, ha, rfl⟩ := day_nI h9
              obtain ⟨b, hb, rfl⟩ : ∃ b, b < 521 ∧ t = nI b := by
                have h22b := h22
                unfold inB at h22b
                simp only [Bool.and_eq_true, Bool.not_eq_true', decide_eq_false_iff_not] at h22b
                refine day_nI ?_
                unfold inB
                rw [decide_eq_false h22b.2, decide_eq_false (fun q => h22b.1 ?_)]
                · rfl
                · exact Int32.lt_of_lt_of_le q (nI_pos' (by omega))
              have hab : a ≤ b := by
                have h22b := h22
                unfold inB at h22b
                simp only [Bool.and_eq_true, Bool.not_eq_true', decide_eq_false_iff_not] at h22b
                rcases Nat.lt_or_ge b a with q | q
                · exact absurd (nI_lt q (by omega)) h22b.1
                · exact q
              refine wp_load (pc' := 80) (j := 0) dX9_permit_79 rfl rfl rfl ?_
              refine wp_load (pc' := 81) (j := 3) dX9_permit_80 rfl rfl rfl ?_
              refine wp_load (pc' := 83) (j := 4) dX9_permit_81 rfl rfl rfl ?_
              refine wp_load (pc' := 85) (j := 5) dX9_permit_83 rfl rfl rfl ?_
              refine wp_v3 0 0 dX9_permit_85 ml_X9_222 hm (Nat.le_of_ble_eq_true rfl) (by omega) (by omega) ?_
              refine s_hasRoom hM hp hp40 _ hab (show b ≤ 520 from by omega) ?_
              refine kt_v ?_
              refine wp_ifeqB (pc' := 91) 95 dX9_permit_88 rfl rfl (fun h88 => ?_) (fun h88 => ?_)
              · skip
                refine wp_iconst (pc' := 96) (0) dX9_permit_95 rfl rfl ?_
                refine wp_v3 0 0 dX9_permit_96 ml_X9_167 hm (Nat.le_of_ble_eq_true rfl) (by omega) (by omega) ?_
                refine s_goes hM hF false true false (fun G24 hM24 hF24 => ?_)
                refine kt_v ?_
                obtain ⟨hm24, hA24, -⟩ := id hM24
                refine wp_ifF (pc' := 102) 104 dX9_permit_99 rfl rfl (cmpF rfl) ?_
                refine wp_iconst (pc' := 103) (0) dX9_permit_102 rfl rfl ?_
                refine wp_iret dX9_permit_103 rfl rfl ?_
                exact hX _ _ (by simp only [mcode, K_permit, ix_nI (show a < 2 ^ 31 from by omega), ix_nI (show b < 2 ^ 31 from by omega), h9, h22, h38, h45, h55, h71, h88, Bool.false_eq_true, decide_true, decide_false, Bool.not_true, Bool.not_false, Bool.and_true, Bool.true_and, Bool.and_false, Bool.false_and, Bool.or_true, Bool.true_or, Bool.or_false, Bool.false_or, if_true, if_false, ite_true, ite_false]) (by decide) hM24 hF24
              · skip
                refine wp_iconst (pc' := 92) (1) dX9_permit_91 rfl rfl ?_
                refine wp_goto 96 dX9_permit_92 rfl ?_
                refine wp_v3 0 0 dX9_permit_96 ml_X9_167 hm (Nat.le_of_ble_eq_true rfl) (by omega) (by omega) ?_
                refine s_goes hM hF false true true (fun G25 hM25 hF25 => ?_)
                refine kt_v ?_
                obtain ⟨hm25, hA25, -⟩ := id hM25
                refine wp_ifF (pc' := 102) 104 dX9_permit_99 rfl rfl (cmpF rfl) ?_
                refine wp_iconst (pc' := 103) (0) dX9_permit_102 rfl rfl ?_
                refine wp_iret dX9_permit_103 rfl rfl ?_
                exact hX _ _ (by simp only [mcode, K_permit, ix_nI (show a < 2 ^ 31 from by omega), ix_nI (show b < 2 ^ 31 from by omega), h9, h22, h38, h45, h55, h71, h88, Bool.false_eq_true, decide_true, decide_false, Bool.not_true, Bool.not_false, Bool.and_true, Bool.true_and, Bool.and_false, Bool.false_and, Bool.or_true, Bool.true_or, Bool.or_false, Bool.false_or, if_true, if_false, ite_true, ite_false]) (by decide) hM25 hF25
          · skip
            refine wp_iconst (pc' := 59) (1) dX9_permit_58 rfl rfl ?_
            refine wp_goto 63 dX9_permit_59 rfl ?_
            refine wp_load (pc' := 65) (j := 6) dX9_permit_63 rfl rfl rfl ?_
            refine wp_load (pc' := 66) (j := 0) dX9_permit_65 rfl rfl rfl ?_
            refine wp_get (pc' := 69) dX9_permit_66 fl_X9_212 hm rfl rfl ?_
            refine wp_bipush (pc' := 71) (40) dX9_permit_69 rfl rfl ?_
            refine wp_icmp_ge (pc' := 74) 95 dX9_permit_71 rfl rfl (fun h71 => ?_) (fun h71 => ?_)
            · skip
              refine wp_iconst (pc' := 96) (0) dX9_permit_95 rfl rfl ?_
              refine wp_v3 0 0 dX9_permit_96 ml_X9_167 hm (Nat.le_of_ble_eq_true rfl) (by omega) (by omega) ?_
              refine s_goes hM hF true true false (fun G26 hM26 hF26 => ?_)
              refine kt_v ?_
              obtain ⟨hm26, hA26, -⟩ := id hM26
              refine wp_ifF (pc' := 102) 104 dX9_permit_99 rfl rfl (cmpF rfl) ?_
              refine wp_iconst (pc' := 103) (0) dX9_permit_102 rfl rfl ?_
              refine wp_iret dX9_permit_103 rfl rfl ?_
              exact hX _ _ (by simp only [mcode, K_permit, h9, h22, h38, h45, h55, h71, Bool.false_eq_true, decide_true, decide_false, Bool.not_true, Bool.not_false, Bool.and_true, Bool.true_and, Bool.and_false, Bool.false_and, Bool.or_true, Bool.true_or, Bool.or_false, Bool.false_or, if_true, if_false, ite_true, ite_false]) (by decide) hM26 hF26
            · skip
              refine wp_load (pc' := 76) (j := 6) dX9_permit_74 rfl rfl rfl ?_
              refine wp_ifF (pc' := 79) 95 dX9_permit_76 rfl rfl (cmpF rfl) ?_
              obtain ⟨a, ha, rfl⟩ := day_nI h9
              obtain ⟨b, hb, rfl⟩ : ∃ b, b < 521 ∧ t = nI b := by
                have h22b := h22
                unfold inB at h22b
                simp only [Bool.and_eq_true, Bool.not_eq_true', decide_eq_false_iff_not] at h22b
                refine day_nI ?_
                unfold inB
                rw [decide_eq_false h22b.2, decide_eq_false (fun q => h22b.1 ?_)]
                · rfl
                · exact Int32.lt_of_lt_of_le q (nI_pos' (by omega))
              have hab : a ≤ b := by
                have h22b := h22
                unfold inB at h22b
                simp only [Bool.and_eq_true, Bool.not_eq_true', decide_eq_false_iff_not] at h22b
                rcases Nat.lt_or_ge b a with q | q
                · exact absurd (nI_lt q (by omega)) h22b.1
                · exact q
              refine wp_load (pc' := 80) (j := 0) dX9_permit_79 rfl rfl rfl ?_
              refine wp_load (pc' := 81) (j := 3) dX9_permit_80 rfl rfl rfl ?_
              refine wp_load (pc' := 83) (j := 4) dX9_permit_81 rfl rfl rfl ?_
              refine wp_load (pc' := 85) (j := 5) dX9_permit_83 rfl rfl rfl ?_
              refine wp_v3 0 0 dX9_permit_85 ml_X9_222 hm (Nat.le_of_ble_eq_true rfl) (by omega) (by omega) ?_
              refine s_hasRoom hM hp hp40 _ hab (show b ≤ 520 from by omega) ?_
              refine kt_v ?_
              refine wp_ifeqB (pc' := 91) 95 dX9_permit_88 rfl rfl (fun h88 => ?_) (fun h88 => ?_)
              · skip
                refine wp_iconst (pc' := 96) (0) dX9_permit_95 rfl rfl ?_
                refine wp_v3 0 0 dX9_permit_96 ml_X9_167 hm (Nat.le_of_ble_eq_true rfl) (by omega) (by omega) ?_
                refine s_goes hM hF true true false (fun G27 hM27 hF27 => ?_)
                refine kt_v ?_
                obtain ⟨hm27, hA27, -⟩ := id hM27
                refine wp_ifF (pc' := 102) 104 dX9_permit_99 rfl rfl (cmpF rfl) ?_
                refine wp_iconst (pc' := 103) (0) dX9_permit_102 rfl rfl ?_
                refine wp_iret dX9_permit_103 rfl rfl ?_
                exact hX _ _ (by simp only [mcode, K_permit, ix_nI (show a < 2 ^ 31 from by omega), ix_nI (show b < 2 ^ 31 from by omega), h9, h22, h38, h45, h55, h71, h88, Bool.false_eq_true, decide_true, decide_false, Bool.not_true, Bool.not_false, Bool.and_true, Bool.true_and, Bool.and_false, Bool.false_and, Bool.or_true, Bool.true_or, Bool.or_false, Bool.false_or, if_true, if_false, ite_true, ite_false]) (by decide) hM27 hF27
              · skip
                refine wp_iconst (pc' := 92) (1) dX9_permit_91 rfl rfl ?_
                refine wp_goto 96 dX9_permit_92 rfl ?_
                refine wp_v3 0 0 dX9_permit_96 ml_X9_167 hm (Nat.le_of_ble_eq_true rfl) (by omega) (by omega) ?_
                refine s_goes hM hF true true true (fun G28 hM28 hF28 => ?_)
                refine kt_v ?_
                replace hM28 : MH m aM own (zz σ) G28 := hM28
                obtain ⟨hm28, hA28, -⟩ := id hM28
                refine wp_ifT 104 dX9_permit_99 rfl (cmpT rfl) ?_
                have hlt : np < 40 := by
                  rw [hp] at h71
                  rcases Nat.lt_or_ge np 40 with q | q
                  · exact q
                  · exact absurd (show (40 : Int32) ≤ nI np from nI_le q (by omega)) h71
                refine wp_load (pc' := 105) (j := 0) dX9_permit_104 rfl rfl rfl ?_
                refine wp_get (pc' := 108) dX9_permit_105 fl_X9_74 hm28 rfl rfl ?_
                refine wp_load (pc' := 109) (j := 0) dX9_permit_108 rfl rfl rfl ?_
                refine wp_get (pc' := 112) dX9_permit_109 fl_X9_212 hm28 rfl rfl ?_
                refine wp_load (pc' := 113) (j := 1) dX9_permit_112 rfl rfl rfl ?_
                refine wp_mia (pc' := 114) hM28 hF28 30 (by decide) (by decide) dX9_permit_113 hp (show np < 40 from hlt) (by decide) rfl (fun G29 hM29 hF29 => ?_)
                obtain ⟨hm29, hA29, -⟩ := id hM29
                refine wp_load (pc' := 115) (j := 0) dX9_permit_114 rfl rfl rfl ?_
                refine wp_get (pc' := 118) dX9_permit_115 fl_X9_77 hm29 rfl rfl ?_
                refine wp_load (pc' := 119) (j := 0) dX9_permit_118 rfl rfl rfl ?_
                refine wp_get (pc' := 122) dX9_permit_119 fl_X9_212 hm29 rfl rfl ?_
                refine wp_load (pc' := 123) (j := 2) dX9_permit_122 rfl rfl rfl ?_
                refine wp_mia (pc' := 124) hM29 hF29 31 (by decide) (by decide) dX9_permit_123 hp (show np < 40 from hlt) (by decide) rfl (fun G30 hM30 hF30 => ?_)
                obtain ⟨hm30, hA30, -⟩ := id hM30
                refine wp_load (pc' := 125) (j := 0) dX9_permit_124 rfl rfl rfl ?_
                refine wp_get (pc' := 128) dX9_permit_125 fl_X9_80 hm30 rfl rfl ?_
                refine wp_load (pc' := 129) (j := 0) dX9_permit_128 rfl rfl rfl ?_
                refine wp_get (pc' := 132) dX9_permit_129 fl_X9_212 hm30 rfl rfl ?_
                refine wp_load (pc' := 133) (j := 3) dX9_permit_132 rfl rfl rfl ?_
                refine wp_mia (pc' := 134) hM30 hF30 32 (by decide) (by decide) dX9_permit_133 hp (show np < 40 from hlt) (by decide) rfl (fun G31 hM31 hF31 => ?_)
                obtain ⟨hm31, hA31, -⟩ := id hM31
                refine wp_load (pc' := 135) (j := 0) dX9_permit_134 rfl rfl rfl ?_
                refine wp_get (pc' := 138) dX9_permit_135 fl_X9_83 hm31 rfl rfl ?_
                refine wp_load (pc' := 139) (j := 0) dX9_permit_138 rfl rfl rfl ?_
                refine wp_get (pc' := 142) dX9_permit_139 fl_X9_212 hm31 rfl rfl ?_
                refine wp_load (pc' := 144) (j := 4) dX9_permit_142 rfl rfl rfl ?_
                refine wp_mia (pc' := 145) hM31 hF31 33 (by decide) (by decide) dX9_permit_144 hp (show np < 40 from hlt) (by decide) rfl (fun G32 hM32 hF32 => ?_)
                obtain ⟨hm32, hA32, -⟩ := id hM32
                refine wp_load (pc' := 146) (j := 0) dX9_permit_145 rfl rfl rfl ?_
                refine wp_get (pc' := 149) dX9_permit_146 fl_X9_86 hm32 rfl rfl ?_
                refine wp_load (pc' := 150) (j := 0) dX9_permit_149 rfl rfl rfl ?_
                refine wp_get (pc' := 153) dX9_permit_150 fl_X9_212 hm32 rfl rfl ?_
                refine wp_load (pc' := 155) (j := 5) dX9_permit_153 rfl rfl rfl ?_
                refine wp_mia (pc' := 156) hM32 hF32 34 (by decide) (by decide) dX9_permit_155 hp (show np < 40 from hlt) (by decide) rfl (fun G33 hM33 hF33 => ?_)
                obtain ⟨hm33, hA33, -⟩ := id hM33
                refine wp_load (pc' := 157) (j := 0) dX9_permit_156 rfl rfl rfl ?_
                refine wp_dup (pc' := 158) dX9_permit_157 rfl rfl ?_
                refine wp_get (pc' := 161) dX9_permit_158 fl_X9_212 hm33 rfl rfl ?_
                refine wp_iconst (pc' := 162) (1) dX9_permit_161 rfl rfl ?_
                refine wp_pure (pc' := 163) dX9_permit_162 rfl rfl ?_
                refine wp_mput (pc' := 166) hM33 hF33 dX9_permit_163 fl_X9_212 rfl (by decide) rfl (fun G34 hM34 hF34 => ?_)
                obtain ⟨hm34, hA34, -⟩ := id hM34
                refine wp_load (pc' := 167) (j := 0) dX9_permit_166 rfl rfl rfl ?_
                refine wp_get (pc' := 170) dX9_permit_167 fl_X9_212 hm34 rfl rfl ?_
                refine wp_iconst (pc' := 171) (1) dX9_permit_170 rfl rfl ?_
                refine wp_pure (pc' := 172) dX9_permit_171 rfl rfl ?_
                refine wp_iret dX9_permit_172 rfl rfl ?_
                exact hT (by simp only [mcode, K_permit, ix_nI (show a < 2 ^ 31 from by omega), ix_nI (show b < 2 ^ 31 from by omega), h9, h22, h38, h45, h55, h71, h88, Bool.false_eq_true, decide_true, decide_false, Bool.not_true, Bool.not_false, Bool.and_true, Bool.true_and, Bool.and_false, Bool.false_and, Bool.or_true, Bool.true_or, Bool.or_false, Bool.false_or, if_true, if_false, ite_true, ite_false]) hlt _ hM34 hF34

set_option maxRecDepth 20000 in
set_option maxHeartbeats 2000000 in
theorem p_hand {E : XE} {d mc ms : Nat} {G : HP} {P : Ps} {m : Nat} {aM own : Nat → Nat} {σ : MS} (hM : MH m aM own σ G) {nc : Nat} (hc : σ.1 22 = nI nc) (hc30 : nc ≤ 30) {np : Nat} (hp : σ.1 29 = nI np) (hp40 : np ≤ 40) {p i : Int32} (hX : ∀ c G', c = K_hand σ p i → c ≠ 0 → MH m aM own (msc σ 56 c) G' → Fr1 own G G' → P (.inl (some (.int 0))) G') (hT : K_hand σ p i = 0 → ∀ j, j < np → p = nI j → ∀ G', MH m aM own (mar (zz σ) 30 j i) G' → Fr1 own G G' → P (.inl (some (.int (σ.2.1 30 j)))) G') : Sp E (d + 3) yX9_hand mc ms [.ref m, .int p, .int i] G P := by
  have hF : Fr1 own G G := fr1_rf
  obtain ⟨hm, hA, -⟩ := id hM
  refine sp_intro bd_X9_hand (v1_all rfl) (Nat.le_of_ble_eq_true rfl) ?_
  change WX _ _ _ _ _ _ 0 [some (.ref m), some (.int p), some (.int i), none] [] _ 0 0
  refine wp_load (pc' := 1) (j := 0) dX9_hand_0 rfl rfl rfl ?_
  refine wp_load (pc' := 2) (j := 1) dX9_hand_1 rfl rfl rfl ?_
  refine wp_iconst (pc' := 3) (0) dX9_hand_2 rfl rfl ?_
  refine wp_load (pc' := 4) (j := 0) dX9_hand_3 rfl rfl rfl ?_
  refine wp_get (pc' := 7) dX9_hand_4 fl_X9_212 hm rfl rfl ?_
  refine wp_iconst (pc' := 8) (1) dX9_hand_7 rfl rfl ?_
  refine wp_pure (pc' := 9) dX9_hand_8 rfl rfl ?_
  refine wp_s3 0 0 dX9_hand_9 ml_X9_153 (Nat.le_of_ble_eq_true rfl) (by omega) (by omega) ?_
  refine s_in _ _ _ ?_
  refine kt_v ?_
  refine wp_ifeqB (pc' := 15) 27 dX9_hand_12 rfl rfl (fun h12 => ?_) (fun h12 => ?_)
  · skip
    refine wp_iconst (pc' := 28) (0) dX9_hand_27 rfl rfl ?_
    refine wp_iconst (pc' := 29) (1) dX9_hand_28 rfl rfl ?_
    refine wp_iconst (pc' := 30) (1) dX9_hand_29 rfl rfl ?_
    refine wp_v3 0 0 dX9_hand_30 ml_X9_167 hm (Nat.le_of_ble_eq_true rfl) (by omega) (by omega) ?_
    refine s_goes hM hF false true true (fun G1 hM1 hF1 => ?_)
    refine kt_v ?_
    obtain ⟨hm1, hA1, -⟩ := id hM1
    refine wp_ifF (pc' := 36) 38 dX9_hand_33 rfl rfl (cmpF rfl) ?_
    refine wp_iconst (pc' := 37) (0) dX9_hand_36 rfl rfl ?_
    refine wp_iret dX9_hand_37 rfl rfl ?_
    exact hX _ _ (by simp only [mcode, K_hand, h12, Bool.false_eq_true, decide_true, decide_false, Bool.not_true, Bool.not_false, Bool.and_true, Bool.true_and, Bool.and_false, Bool.false_and, Bool.or_true, Bool.true_or, Bool.or_false, Bool.false_or, if_true, if_false, ite_true, ite_false]) (by decide) hM1 hF1
  · skip
    refine wp_load (pc' := 16) (j := 0) dX9_hand_15 rfl rfl rfl ?_
    refine wp_load (pc' := 17) (j := 2) dX9_hand_16 rfl rfl rfl ?_
    refine wp_v1 0 0 dX9_hand_17 ml_X9_219 hm (Nat.le_of_ble_eq_true rfl) (by omega) (by omega) ?_
    refine s_isCar hM _ ?_
    refine kt_v ?_
    refine wp_ifeqB (pc' := 23) 27 dX9_hand_20 rfl rfl (fun h20 => ?_) (fun h20 => ?_)
    · skip
      refine wp_iconst (pc' := 28) (0) dX9_hand_27 rfl rfl ?_
      refine wp_iconst (pc' := 29) (1) dX9_hand_28 rfl rfl ?_
      refine wp_iconst (pc' := 30) (1) dX9_hand_29 rfl rfl ?_
      refine wp_v3 0 0 dX9_hand_30 ml_X9_167 hm (Nat.le_of_ble_eq_true rfl) (by omega) (by omega) ?_
      refine s_goes hM hF false true true (fun G2 hM2 hF2 => ?_)
      refine kt_v ?_
      obtain ⟨hm2, hA2, -⟩ := id hM2
      refine wp_ifF (pc' := 36) 38 dX9_hand_33 rfl rfl (cmpF rfl) ?_
      refine wp_iconst (pc' := 37) (0) dX9_hand_36 rfl rfl ?_
      refine wp_iret dX9_hand_37 rfl rfl ?_
      exact hX _ _ (by simp only [mcode, K_hand, h12, h20, Bool.false_eq_true, decide_true, decide_false, Bool.not_true, Bool.not_false, Bool.and_true, Bool.true_and, Bool.and_false, Bool.false_and, Bool.or_true, Bool.true_or, Bool.or_false, Bool.false_or, if_true, if_false, ite_true, ite_false]) (by decide) hM2 hF2
    · skip
      refine wp_iconst (pc' := 24) (1) dX9_hand_23 rfl rfl ?_
      refine wp_goto 28 dX9_hand_24 rfl ?_
      refine wp_iconst (pc' := 29) (1) dX9_hand_28 rfl rfl ?_
      refine wp_iconst (pc' := 30) (1) dX9_hand_29 rfl rfl ?_
      refine wp_v3 0 0 dX9_hand_30 ml_X9_167 hm (Nat.le_of_ble_eq_true rfl) (by omega) (by omega) ?_
      refine s_goes hM hF true true true (fun G3 hM3 hF3 => ?_)
      refine kt_v ?_
      replace hM3 : MH m aM own (zz σ) G3 := hM3
      obtain ⟨hm3, hA3, -⟩ := id hM3
      refine wp_ifT 38 dX9_hand_33 rfl (cmpT rfl) ?_
      obtain ⟨j, hj, rfl⟩ := clt_nI (n := np) (by rw [← hp]; exact h12) (by omega)
      have hjl : j < 40 := by omega
      have hix : ix (nI j) = j := ix_nI (by omega)
      refine wp_load (pc' := 39) (j := 0) dX9_hand_38 rfl rfl rfl ?_
      refine wp_get (pc' := 42) dX9_hand_39 fl_X9_74 hm3 rfl rfl ?_
      refine wp_load (pc' := 43) (j := 1) dX9_hand_42 rfl rfl rfl ?_
      refine wp_iald (pc' := 44) dX9_hand_43 (hA3 30 (by decide)) rfl hjl (by decide) rfl ?_
      refine wp_store (pc' := 45) (j := 3) (ls' := [_, _, _, _]) dX9_hand_44 rfl (Nat.le_of_ble_eq_true rfl) rfl rfl ?_
      refine wp_load (pc' := 46) (j := 0) dX9_hand_45 rfl rfl rfl ?_
      refine wp_get (pc' := 49) dX9_hand_46 fl_X9_74 hm3 rfl rfl ?_
      refine wp_load (pc' := 50) (j := 1) dX9_hand_49 rfl rfl rfl ?_
      refine wp_load (pc' := 51) (j := 2) dX9_hand_50 rfl rfl rfl ?_
      refine wp_mia (pc' := 52) hM3 hF3 30 (by decide) (by decide) dX9_hand_51 rfl hjl (by decide) rfl (fun G4 hM4 hF4 => ?_)
      obtain ⟨hm4, hA4, -⟩ := id hM4
      refine wp_load (pc' := 53) (j := 3) dX9_hand_52 rfl rfl rfl ?_
      refine wp_iret dX9_hand_53 rfl rfl ?_
      exact hT (by simp only [mcode, K_hand, hix, h12, h20, Bool.false_eq_true, decide_true, decide_false, Bool.not_true, Bool.not_false, Bool.and_true, Bool.true_and, Bool.and_false, Bool.false_and, Bool.or_true, Bool.true_or, Bool.or_false, Bool.false_or, if_true, if_false, ite_true, ite_false]) j hj rfl _ hM4 hF4

set_option maxRecDepth 20000 in
set_option maxHeartbeats 2000000 in
theorem p_countsAs {E : XE} {d mc ms : Nat} {G : HP} {P : Ps} {m : Nat} {aM own : Nat → Nat} {σ : MS} (hM : MH m aM own σ G) {nc : Nat} (hc : σ.1 22 = nI nc) (hc30 : nc ≤ 30) {np : Nat} (hp : σ.1 29 = nI np) (hp40 : np ≤ 40) {i s : Int32} (hX : ∀ c G', c = K_countsAs σ i s → c ≠ 0 → MH m aM own (msc σ 56 c) G' → Fr1 own G G' → P (.inl (some (.int 0))) G') (hT : K_countsAs σ i s = 0 → ∀ j, j < nc → i = nI j → ∀ G', MH m aM own (zz σ) G' → Fr1 own G G' → P (.inl (some (.int (userOnF (zz σ) j s (σ.1 0 / 96) np)))) G') : Sp E (d + 3) yX9_countsAs mc ms [.ref m, .int i, .int s] G P := by
  have hF : Fr1 own G G := fr1_rf
  obtain ⟨hm, hA, -⟩ := id hM
  refine sp_intro bd_X9_countsAs (v1_all rfl) (Nat.le_of_ble_eq_true rfl) ?_
  change WX _ _ _ _ _ _ 0 [some (.ref m), some (.int i), some (.int s)] [] _ 0 0
  refine wp_load (pc' := 1) (j := 0) dX9_countsAs_0 rfl rfl rfl ?_
  refine wp_load (pc' := 2) (j := 0) dX9_countsAs_1 rfl rfl rfl ?_
  refine wp_load (pc' := 3) (j := 1) dX9_countsAs_2 rfl rfl rfl ?_
  refine wp_v1 0 0 dX9_countsAs_3 ml_X9_219 hm (Nat.le_of_ble_eq_true rfl) (by omega) (by omega) ?_
  refine s_isCar hM _ ?_
  refine kt_v ?_
  refine wp_ifeqB (pc' := 9) 20 dX9_countsAs_6 rfl rfl (fun h6 => ?_) (fun h6 => ?_)
  · skip
    refine wp_iconst (pc' := 21) (0) dX9_countsAs_20 rfl rfl ?_
    refine wp_iconst (pc' := 22) (1) dX9_countsAs_21 rfl rfl ?_
    refine wp_iconst (pc' := 23) (1) dX9_countsAs_22 rfl rfl ?_
    refine wp_v3 0 0 dX9_countsAs_23 ml_X9_167 hm (Nat.le_of_ble_eq_true rfl) (by omega) (by omega) ?_
    refine s_goes hM hF false true true (fun G1 hM1 hF1 => ?_)
    refine kt_v ?_
    obtain ⟨hm1, hA1, -⟩ := id hM1
    refine wp_ifT 45 dX9_countsAs_26 rfl (cmpT rfl) ?_
    refine wp_iconst (pc' := 46) (0) dX9_countsAs_45 rfl rfl ?_
    refine wp_iret dX9_countsAs_46 rfl rfl ?_
    exact hX _ _ (by simp only [mcode, K_countsAs, h6, Bool.false_eq_true, decide_true, decide_false, Bool.not_true, Bool.not_false, Bool.and_true, Bool.true_and, Bool.and_false, Bool.false_and, Bool.or_true, Bool.true_or, Bool.or_false, Bool.false_or, if_true, if_false, ite_true, ite_false]) (by decide) hM1 hF1
  · skip
    refine wp_load (pc' := 10) (j := 2) dX9_countsAs_9 rfl rfl rfl ?_
    refine wp_s1 0 0 dX9_countsAs_10 ml_X9_160 (Nat.le_of_ble_eq_true rfl) (by omega) (by omega) ?_
    refine s_isStreet _ ?_
    refine kt_v ?_
    refine wp_ifeqB (pc' := 16) 20 dX9_countsAs_13 rfl rfl (fun h13 => ?_) (fun h13 => ?_)
    · skip
      refine wp_iconst (pc' := 21) (0) dX9_countsAs_20 rfl rfl ?_
      refine wp_iconst (pc' := 22) (1) dX9_countsAs_21 rfl rfl ?_
      refine wp_iconst (pc' := 23) (1) dX9_countsAs_22 rfl rfl ?_
      refine wp_v3 0 0 dX9_countsAs_23 ml_X9_167 hm (Nat.le_of_ble_eq_true rfl) (by omega) (by omega) ?_
      refine s_goes hM hF false true true (fun G2 hM2 hF2 => ?_)
      refine kt_v ?_
      obtain ⟨hm2, hA2, -⟩ := id hM2
      refine wp_ifT 45 dX9_countsAs_26 rfl (cmpT rfl) ?_
      refine wp_iconst (pc' := 46) (0) dX9_countsAs_45 rfl rfl ?_
      refine wp_iret dX9_countsAs_46 rfl rfl ?_
      exact hX _ _ (by simp only [mcode, K_countsAs, h6, h13, Bool.false_eq_true, decide_true, decide_false, Bool.not_true, Bool.not_false, Bool.and_true, Bool.true_and, Bool.and_false, Bool.false_and, Bool.or_true, Bool.true_or, Bool.or_false, Bool.false_or, if_true, if_false, ite_true, ite_false]) (by decide) hM2 hF2
    · skip
      refine wp_iconst (pc' := 17) (1) dX9_countsAs_16 rfl rfl ?_
      refine wp_goto 21 dX9_countsAs_17 rfl ?_
      refine wp_iconst (pc' := 22) (1) dX9_countsAs_21 rfl rfl ?_
      refine wp_iconst (pc' := 23) (1) dX9_countsAs_22 rfl rfl ?_
      refine wp_v3 0 0 dX9_countsAs_23 ml_X9_167 hm (Nat.le_of_ble_eq_true rfl) (by omega) (by omega) ?_
      refine s_goes hM hF true true true (fun G3 hM3 hF3 => ?_)
      refine kt_v ?_
      replace hM3 : MH m aM own (zz σ) G3 := hM3
      obtain ⟨hm3, hA3, -⟩ := id hM3
      refine wp_ifF (pc' := 29) 45 dX9_countsAs_26 rfl rfl (cmpF rfl) ?_
      obtain ⟨j, hj, rfl⟩ := clt_nI (n := nc) (by rw [← hc]; exact h6) (by omega)
      have hjl : j < 30 := by omega
      have hix : ix (nI j) = j := ix_nI (by omega)
      refine wp_load (pc' := 30) (j := 0) dX9_countsAs_29 rfl rfl rfl ?_
      refine wp_load (pc' := 31) (j := 1) dX9_countsAs_30 rfl rfl rfl ?_
      refine wp_load (pc' := 32) (j := 2) dX9_countsAs_31 rfl rfl rfl ?_
      refine wp_load (pc' := 33) (j := 0) dX9_countsAs_32 rfl rfl rfl ?_
      refine wp_get (pc' := 36) dX9_countsAs_33 fl_X9_189 hm3 rfl rfl ?_
      refine wp_bipush (pc' := 38) (96) dX9_countsAs_36 rfl rfl ?_
      refine wp_div (pc' := 39) dX9_countsAs_38 (by decide) rfl ?_
      refine wp_v3 0 0 dX9_countsAs_39 ml_X9_225 hm3 (Nat.le_of_ble_eq_true rfl) (by omega) (by omega) ?_
      refine s_userOn hM3 hp hp40 hjl _ _ ?_
      refine kt_v ?_
      refine wp_goto 46 dX9_countsAs_42 rfl ?_
      refine wp_iret dX9_countsAs_46 rfl rfl ?_
      exact hT (by simp only [mcode, K_countsAs, hix, h6, h13, Bool.false_eq_true, decide_true, decide_false, Bool.not_true, Bool.not_false, Bool.and_true, Bool.true_and, Bool.and_false, Bool.false_and, Bool.or_true, Bool.true_or, Bool.or_false, Bool.false_or, if_true, if_false, ite_true, ite_false]) j hj rfl _ hM3 hF3

set_option maxRecDepth 20000 in
set_option maxHeartbeats 2000000 in
theorem p_park {E : XE} {d mc ms : Nat} {G : HP} {P : Ps} {m : Nat} {aM own : Nat → Nat} {σ : MS} (hM : MH m aM own σ G) {nc : Nat} (hc : σ.1 22 = nI nc) (hc30 : nc ≤ 30) {i s mt : Int32} (hX : ∀ c G', c = K_park σ nc i s mt → c ≠ 0 → MH m aM own (msc σ 56 c) G' → Fr1 own G G' → P (.inl none) G') (hT : K_park σ nc i s mt = 0 → ∀ j, j < nc → i = nI j → ∀ G', MH m aM own (parkF σ j s mt) G' → Fr1 own G G' → P (.inl none) G') : Sp E (d + 3) yX9_park mc ms [.ref m, .int i, .int s, .int mt] G P := by
  have hF : Fr1 own G G := fr1_rf
  obtain ⟨hm, hA, -⟩ := id hM
  refine sp_intro bd_X9_park (v1_all rfl) (Nat.le_of_ble_eq_true rfl) ?_
  change WX _ _ _ _ _ _ 0 [some (.ref m), some (.int i), some (.int s), some (.int mt), none] [] _ 0 0
  refine wp_load (pc' := 1) (j := 0) dX9_park_0 rfl rfl rfl ?_
  refine wp_load (pc' := 2) (j := 1) dX9_park_1 rfl rfl rfl ?_
  refine wp_v1 0 0 dX9_park_2 ml_X9_219 hm (Nat.le_of_ble_eq_true rfl) (by omega) (by omega) ?_
  refine s_isCar hM _ ?_
  refine kt_v ?_
  refine wp_ifeqB (pc' := 8) 26 dX9_park_5 rfl rfl (fun h5 => ?_) (fun h5 => ?_)
  · skip
    refine wp_iconst (pc' := 27) (0) dX9_park_26 rfl rfl ?_
    refine wp_store (pc' := 29) (j := 4) (ls' := [_, _, _, _, _]) dX9_park_27 rfl (Nat.le_of_ble_eq_true rfl) rfl rfl ?_
    refine wp_load (pc' := 30) (j := 0) dX9_park_29 rfl rfl rfl ?_
    refine wp_load (pc' := 32) (j := 4) dX9_park_30 rfl rfl rfl ?_
    refine wp_load (pc' := 34) (j := 4) dX9_park_32 rfl rfl rfl ?_
    refine wp_ifT 84 dX9_park_34 rfl (cmpT rfl) ?_
    refine wp_iconst (pc' := 85) (0) dX9_park_84 rfl rfl ?_
    refine wp_iconst (pc' := 86) (1) dX9_park_85 rfl rfl ?_
    refine wp_v3 0 0 dX9_park_86 ml_X9_167 hm (Nat.le_of_ble_eq_true rfl) (by omega) (by omega) ?_
    refine s_goes hM hF false false true (fun G1 hM1 hF1 => ?_)
    refine kt_v ?_
    obtain ⟨hm1, hA1, -⟩ := id hM1
    refine wp_ifT 126 dX9_park_89 rfl (cmpT rfl) ?_
    refine wp_vret dX9_park_126 rfl ?_
    exact hX _ _ (by simp only [mcode, K_park, h5, Bool.false_eq_true, decide_true, decide_false, Bool.not_true, Bool.not_false, Bool.and_true, Bool.true_and, Bool.and_false, Bool.false_and, Bool.or_true, Bool.true_or, Bool.or_false, Bool.false_or, if_true, if_false, ite_true, ite_false]) (by decide) hM1 hF1
  · skip
    refine wp_load (pc' := 9) (j := 2) dX9_park_8 rfl rfl rfl ?_
    refine wp_s1 0 0 dX9_park_9 ml_X9_160 (Nat.le_of_ble_eq_true rfl) (by omega) (by omega) ?_
    refine s_isStreet _ ?_
    refine kt_v ?_
    refine wp_ifeqB (pc' := 15) 26 dX9_park_12 rfl rfl (fun h12 => ?_) (fun h12 => ?_)
    · skip
      refine wp_iconst (pc' := 27) (0) dX9_park_26 rfl rfl ?_
      refine wp_store (pc' := 29) (j := 4) (ls' := [_, _, _, _, _]) dX9_park_27 rfl (Nat.le_of_ble_eq_true rfl) rfl rfl ?_
      refine wp_load (pc' := 30) (j := 0) dX9_park_29 rfl rfl rfl ?_
      refine wp_load (pc' := 32) (j := 4) dX9_park_30 rfl rfl rfl ?_
      refine wp_load (pc' := 34) (j := 4) dX9_park_32 rfl rfl rfl ?_
      refine wp_ifT 84 dX9_park_34 rfl (cmpT rfl) ?_
      refine wp_iconst (pc' := 85) (0) dX9_park_84 rfl rfl ?_
      refine wp_iconst (pc' := 86) (1) dX9_park_85 rfl rfl ?_
      refine wp_v3 0 0 dX9_park_86 ml_X9_167 hm (Nat.le_of_ble_eq_true rfl) (by omega) (by omega) ?_
      refine s_goes hM hF false false true (fun G2 hM2 hF2 => ?_)
      refine kt_v ?_
      obtain ⟨hm2, hA2, -⟩ := id hM2
      refine wp_ifT 126 dX9_park_89 rfl (cmpT rfl) ?_
      refine wp_vret dX9_park_126 rfl ?_
      exact hX _ _ (by simp only [mcode, K_park, h5, h12, Bool.false_eq_true, decide_true, decide_false, Bool.not_true, Bool.not_false, Bool.and_true, Bool.true_and, Bool.and_false, Bool.false_and, Bool.or_true, Bool.true_or, Bool.or_false, Bool.false_or, if_true, if_false, ite_true, ite_false]) (by decide) hM2 hF2
    · skip
      refine wp_load (pc' := 16) (j := 3) dX9_park_15 rfl rfl rfl ?_
      refine wp_s1 0 0 dX9_park_16 ml_X9_164 (Nat.le_of_ble_eq_true rfl) (by omega) (by omega) ?_
      refine s_isMetre _ ?_
      refine kt_v ?_
      refine wp_ifeqB (pc' := 22) 26 dX9_park_19 rfl rfl (fun h19 => ?_) (fun h19 => ?_)
      · skip
        refine wp_iconst (pc' := 27) (0) dX9_park_26 rfl rfl ?_
        refine wp_store (pc' := 29) (j := 4) (ls' := [_, _, _, _, _]) dX9_park_27 rfl (Nat.le_of_ble_eq_true rfl) rfl rfl ?_
        refine wp_load (pc' := 30) (j := 0) dX9_park_29 rfl rfl rfl ?_
        refine wp_load (pc' := 32) (j := 4) dX9_park_30 rfl rfl rfl ?_
        refine wp_load (pc' := 34) (j := 4) dX9_park_32 rfl rfl rfl ?_
        refine wp_ifT 84 dX9_park_34 rfl (cmpT rfl) ?_
        refine wp_iconst (pc' := 85) (0) dX9_park_84 rfl rfl ?_
        refine wp_iconst (pc' := 86) (1) dX9_park_85 rfl rfl ?_
        refine wp_v3 0 0 dX9_park_86 ml_X9_167 hm (Nat.le_of_ble_eq_true rfl) (by omega) (by omega) ?_
        refine s_goes hM hF false false true (fun G3 hM3 hF3 => ?_)
        refine kt_v ?_
        obtain ⟨hm3, hA3, -⟩ := id hM3
        refine wp_ifT 126 dX9_park_89 rfl (cmpT rfl) ?_
        refine wp_vret dX9_park_126 rfl ?_
        exact hX _ _ (by simp only [mcode, K_park, h5, h12, h19, Bool.false_eq_true, decide_true, decide_false, Bool.not_true, Bool.not_false, Bool.and_true, Bool.true_and, Bool.and_false, Bool.false_and, Bool.or_true, Bool.true_or, Bool.or_false, Bool.false_or, if_true, if_false, ite_true, ite_false]) (by decide) hM3 hF3
      · skip
        obtain ⟨j, hj, rfl⟩ := clt_nI (n := nc) (by rw [← hc]; exact h5) (by omega)
        have hjl : j < 30 := by omega
        have hix : ix (nI j) = j := ix_nI (by omega)
        refine wp_iconst (pc' := 23) (1) dX9_park_22 rfl rfl ?_
        refine wp_goto 27 dX9_park_23 rfl ?_
        refine wp_store (pc' := 29) (j := 4) (ls' := [_, _, _, _, _]) dX9_park_27 rfl (Nat.le_of_ble_eq_true rfl) rfl rfl ?_
        refine wp_load (pc' := 30) (j := 0) dX9_park_29 rfl rfl rfl ?_
        refine wp_load (pc' := 32) (j := 4) dX9_park_30 rfl rfl rfl ?_
        refine wp_load (pc' := 34) (j := 4) dX9_park_32 rfl rfl rfl ?_
        refine wp_ifF (pc' := 37) 84 dX9_park_34 rfl rfl (cmpF rfl) ?_
        refine wp_load (pc' := 38) (j := 0) dX9_park_37 rfl rfl rfl ?_
        refine wp_get (pc' := 41) dX9_park_38 fl_X9_62 hm rfl rfl ?_
        refine wp_load (pc' := 43) (j := 4) dX9_park_41 rfl rfl rfl ?_
        refine wp_ifF (pc' := 46) 50 dX9_park_43 rfl rfl (cmpF rfl) ?_
        refine wp_load (pc' := 47) (j := 1) dX9_park_46 rfl rfl rfl ?_
        refine wp_goto 51 dX9_park_47 rfl ?_
        refine wp_iald (pc' := 52) dX9_park_51 (hA 25 (by decide)) rfl hjl (by decide) rfl ?_
        refine wp_iconst (pc' := 53) (-1) dX9_park_52 rfl rfl ?_
        refine wp_icmp_ne (pc' := 56) 84 dX9_park_53 rfl rfl (fun h53 => ?_) (fun h53 => ?_)
        · skip
          refine wp_iconst (pc' := 85) (0) dX9_park_84 rfl rfl ?_
          refine wp_iconst (pc' := 86) (1) dX9_park_85 rfl rfl ?_
          refine wp_v3 0 0 dX9_park_86 ml_X9_167 hm (Nat.le_of_ble_eq_true rfl) (by omega) (by omega) ?_
          refine s_goes hM hF true false true (fun G4 hM4 hF4 => ?_)
          refine kt_v ?_
          obtain ⟨hm4, hA4, -⟩ := id hM4
          refine wp_ifT 126 dX9_park_89 rfl (cmpT rfl) ?_
          refine wp_vret dX9_park_126 rfl ?_
          exact hX _ _ (by simp only [mcode, K_park, hix, h5, h12, h19, h53, Bool.false_eq_true, decide_true, decide_false, Bool.not_true, Bool.not_false, Bool.and_true, Bool.true_and, Bool.and_false, Bool.false_and, Bool.or_true, Bool.true_or, Bool.or_false, Bool.false_or, if_true, if_false, ite_true, ite_false]) (by decide) hM4 hF4
        · skip
          refine wp_load (pc' := 57) (j := 0) dX9_park_56 rfl rfl rfl ?_
          refine wp_load (pc' := 58) (j := 2) dX9_park_57 rfl rfl rfl ?_
          refine wp_load (pc' := 59) (j := 3) dX9_park_58 rfl rfl rfl ?_
          refine wp_load (pc' := 60) (j := 0) dX9_park_59 rfl rfl rfl ?_
          refine wp_get (pc' := 63) dX9_park_60 fl_X9_56 hm rfl rfl ?_
          refine wp_load (pc' := 65) (j := 4) dX9_park_63 rfl rfl rfl ?_
          refine wp_ifF (pc' := 68) 72 dX9_park_65 rfl rfl (cmpF rfl) ?_
          refine wp_load (pc' := 69) (j := 1) dX9_park_68 rfl rfl rfl ?_
          refine wp_goto 73 dX9_park_69 rfl ?_
          refine wp_iald (pc' := 74) dX9_park_73 (hA 23 (by decide)) rfl hjl (by decide) rfl ?_
          refine wp_v3 0 0 dX9_park_74 ml_X9_228 hm (Nat.le_of_ble_eq_true rfl) (by omega) (by omega) ?_
          refine s_isGap hM hc hc30 _ _ _ ?_
          refine kt_v ?_
          refine wp_ifeqB (pc' := 80) 84 dX9_park_77 rfl rfl (fun h77 => ?_) (fun h77 => ?_)
          · skip
            refine wp_iconst (pc' := 85) (0) dX9_park_84 rfl rfl ?_
            refine wp_iconst (pc' := 86) (1) dX9_park_85 rfl rfl ?_
            refine wp_v3 0 0 dX9_park_86 ml_X9_167 hm (Nat.le_of_ble_eq_true rfl) (by omega) (by omega) ?_
            refine s_goes hM hF true false true (fun G5 hM5 hF5 => ?_)
            refine kt_v ?_
            obtain ⟨hm5, hA5, -⟩ := id hM5
            refine wp_ifT 126 dX9_park_89 rfl (cmpT rfl) ?_
            refine wp_vret dX9_park_126 rfl ?_
            exact hX _ _ (by simp only [mcode, K_park, hix, h5, h12, h19, h53, h77, Bool.false_eq_true, decide_true, decide_false, Bool.not_true, Bool.not_false, Bool.and_true, Bool.true_and, Bool.and_false, Bool.false_and, Bool.or_true, Bool.true_or, Bool.or_false, Bool.false_or, if_true, if_false, ite_true, ite_false]) (by decide) hM5 hF5
          · skip
            refine wp_iconst (pc' := 81) (1) dX9_park_80 rfl rfl ?_
            refine wp_goto 85 dX9_park_81 rfl ?_
            refine wp_iconst (pc' := 86) (1) dX9_park_85 rfl rfl ?_
            refine wp_v3 0 0 dX9_park_86 ml_X9_167 hm (Nat.le_of_ble_eq_true rfl) (by omega) (by omega) ?_
            refine s_goes hM hF true true true (fun G6 hM6 hF6 => ?_)
            refine kt_v ?_
            replace hM6 : MH m aM own (zz σ) G6 := hM6
            obtain ⟨hm6, hA6, -⟩ := id hM6
            refine wp_ifF (pc' := 92) 126 dX9_park_89 rfl rfl (cmpF rfl) ?_
            refine wp_load (pc' := 93) (j := 0) dX9_park_92 rfl rfl rfl ?_
            refine wp_get (pc' := 96) dX9_park_93 fl_X9_62 hm6 rfl rfl ?_
            refine wp_load (pc' := 97) (j := 1) dX9_park_96 rfl rfl rfl ?_
            refine wp_load (pc' := 98) (j := 2) dX9_park_97 rfl rfl rfl ?_
            refine wp_mia (pc' := 99) hM6 hF6 25 (by decide) (by decide) dX9_park_98 rfl hjl (by decide) rfl (fun G7 hM7 hF7 => ?_)
            obtain ⟨hm7, hA7, -⟩ := id hM7
            refine wp_load (pc' := 100) (j := 0) dX9_park_99 rfl rfl rfl ?_
            refine wp_get (pc' := 103) dX9_park_100 fl_X9_65 hm7 rfl rfl ?_
            refine wp_load (pc' := 104) (j := 1) dX9_park_103 rfl rfl rfl ?_
            refine wp_load (pc' := 105) (j := 3) dX9_park_104 rfl rfl rfl ?_
            refine wp_mia (pc' := 106) hM7 hF7 26 (by decide) (by decide) dX9_park_105 rfl hjl (by decide) rfl (fun G8 hM8 hF8 => ?_)
            obtain ⟨hm8, hA8, -⟩ := id hM8
            refine wp_load (pc' := 107) (j := 0) dX9_park_106 rfl rfl rfl ?_
            refine wp_get (pc' := 110) dX9_park_107 fl_X9_68 hm8 rfl rfl ?_
            refine wp_load (pc' := 111) (j := 1) dX9_park_110 rfl rfl rfl ?_
            refine wp_load (pc' := 112) (j := 0) dX9_park_111 rfl rfl rfl ?_
            refine wp_get (pc' := 115) dX9_park_112 fl_X9_189 hm8 rfl rfl ?_
            refine wp_mia (pc' := 116) hM8 hF8 27 (by decide) (by decide) dX9_park_115 rfl hjl (by decide) rfl (fun G9 hM9 hF9 => ?_)
            obtain ⟨hm9, hA9, -⟩ := id hM9
            refine wp_load (pc' := 117) (j := 0) dX9_park_116 rfl rfl rfl ?_
            refine wp_get (pc' := 120) dX9_park_117 fl_X9_71 hm9 rfl rfl ?_
            refine wp_load (pc' := 121) (j := 1) dX9_park_120 rfl rfl rfl ?_
            refine wp_dup2 (pc' := 122) dX9_park_121 rfl rfl rfl ?_
            refine wp_iald (pc' := 123) dX9_park_122 (hA9 28 (by decide)) rfl hjl (by decide) rfl ?_
            refine wp_iconst (pc' := 124) (1) dX9_park_123 rfl rfl ?_
            refine wp_pure (pc' := 125) dX9_park_124 rfl rfl ?_
            refine wp_mia (pc' := 126) hM9 hF9 28 (by decide) (by decide) dX9_park_125 rfl hjl (by decide) rfl (fun G10 hM10 hF10 => ?_)
            obtain ⟨hm10, hA10, -⟩ := id hM10
            refine wp_vret dX9_park_126 rfl ?_
            exact hT (by simp only [mcode, K_park, hix, h5, h12, h19, h53, h77, Bool.false_eq_true, decide_true, decide_false, Bool.not_true, Bool.not_false, Bool.and_true, Bool.true_and, Bool.and_false, Bool.false_and, Bool.or_true, Bool.true_or, Bool.or_false, Bool.false_or, if_true, if_false, ite_true, ite_false]) j hj rfl _ hM10 hF10

set_option maxRecDepth 20000 in
set_option maxHeartbeats 2000000 in
theorem p_leave {E : XE} {d mc ms : Nat} {G : HP} {P : Ps} {m : Nat} {aM own : Nat → Nat} {σ : MS} (hM : MH m aM own σ G) {nc : Nat} (hc : σ.1 22 = nI nc) (hc30 : nc ≤ 30) {i : Int32} (hX : ∀ c G', c = K_leave σ i → c ≠ 0 → MH m aM own (msc σ 56 c) G' → Fr1 own G G' → P (.inl (some (.int 0))) G') (hT : K_leave σ i = 0 → ∀ j, j < nc → i = nI j → ∀ G', MH m aM own (mar (zz σ) 25 j (-1)) G' → Fr1 own G G' → P (.inl (some (.int (σ.1 0 - σ.2.1 27 j)))) G') : Sp E (d + 3) yX9_leave mc ms [.ref m, .int i] G P := by
  have hF : Fr1 own G G := fr1_rf
  obtain ⟨hm, hA, -⟩ := id hM
  refine sp_intro bd_X9_leave (v1_all rfl) (Nat.le_of_ble_eq_true rfl) ?_
  change WX _ _ _ _ _ _ 0 [some (.ref m), some (.int i), none] [] _ 0 0
  refine wp_load (pc' := 1) (j := 0) dX9_leave_0 rfl rfl rfl ?_
  refine wp_load (pc' := 2) (j := 1) dX9_leave_1 rfl rfl rfl ?_
  refine wp_v1 0 0 dX9_leave_2 ml_X9_219 hm (Nat.le_of_ble_eq_true rfl) (by omega) (by omega) ?_
  refine s_isCar hM _ ?_
  refine kt_v ?_
  rcases hb : isCarB σ i with _ | _
  · skip
    refine wp_store (pc' := 6) (j := 2) (ls' := [_, _, _]) dX9_leave_5 rfl (Nat.le_of_ble_eq_true rfl) rfl rfl ?_
    refine wp_load (pc' := 7) (j := 0) dX9_leave_6 rfl rfl rfl ?_
    refine wp_load (pc' := 8) (j := 2) dX9_leave_7 rfl rfl rfl ?_
    refine wp_load (pc' := 9) (j := 2) dX9_leave_8 rfl rfl rfl ?_
    refine wp_ifT 34 dX9_leave_9 rfl (cmpT rfl) ?_
    refine wp_iconst (pc' := 35) (0) dX9_leave_34 rfl rfl ?_
    refine wp_iconst (pc' := 36) (1) dX9_leave_35 rfl rfl ?_
    refine wp_v3 0 0 dX9_leave_36 ml_X9_167 hm (Nat.le_of_ble_eq_true rfl) (by omega) (by omega) ?_
    refine s_goes hM hF false false true (fun G1 hM1 hF1 => ?_)
    refine kt_v ?_
    obtain ⟨hm1, hA1, -⟩ := id hM1
    refine wp_ifF (pc' := 42) 44 dX9_leave_39 rfl rfl (cmpF rfl) ?_
    refine wp_iconst (pc' := 43) (0) dX9_leave_42 rfl rfl ?_
    refine wp_iret dX9_leave_43 rfl rfl ?_
    exact hX _ _ (by simp only [mcode, K_leave, hb, Bool.false_eq_true, decide_true, decide_false, Bool.not_true, Bool.not_false, Bool.and_true, Bool.true_and, Bool.and_false, Bool.false_and, Bool.or_true, Bool.true_or, Bool.or_false, Bool.false_or, if_true, if_false, ite_true, ite_false]) (by decide) hM1 hF1
  · skip
    obtain ⟨j, hj, rfl⟩ := clt_nI (n := nc) (by rw [← hc]; exact hb) (by omega)
    have hjl : j < 30 := by omega
    have hix : ix (nI j) = j := ix_nI (by omega)
    refine wp_store (pc' := 6) (j := 2) (ls' := [_, _, _]) dX9_leave_5 rfl (Nat.le_of_ble_eq_true rfl) rfl rfl ?_
    refine wp_load (pc' := 7) (j := 0) dX9_leave_6 rfl rfl rfl ?_
    refine wp_load (pc' := 8) (j := 2) dX9_leave_7 rfl rfl rfl ?_
    refine wp_load (pc' := 9) (j := 2) dX9_leave_8 rfl rfl rfl ?_
    refine wp_ifF (pc' := 12) 34 dX9_leave_9 rfl rfl (cmpF rfl) ?_
    refine wp_load (pc' := 13) (j := 0) dX9_leave_12 rfl rfl rfl ?_
    refine wp_get (pc' := 16) dX9_leave_13 fl_X9_62 hm rfl rfl ?_
    refine wp_load (pc' := 17) (j := 2) dX9_leave_16 rfl rfl rfl ?_
    refine wp_ifF (pc' := 20) 24 dX9_leave_17 rfl rfl (cmpF rfl) ?_
    refine wp_load (pc' := 21) (j := 1) dX9_leave_20 rfl rfl rfl ?_
    refine wp_goto 25 dX9_leave_21 rfl ?_
    refine wp_iald (pc' := 26) dX9_leave_25 (hA 25 (by decide)) rfl hjl (by decide) rfl ?_
    refine wp_iconst (pc' := 27) (-1) dX9_leave_26 rfl rfl ?_
    refine wp_icmp_eq (pc' := 30) 34 dX9_leave_27 rfl rfl (fun h27 => ?_) (fun h27 => ?_)
    · skip
      refine wp_iconst (pc' := 35) (0) dX9_leave_34 rfl rfl ?_
      refine wp_iconst (pc' := 36) (1) dX9_leave_35 rfl rfl ?_
      refine wp_v3 0 0 dX9_leave_36 ml_X9_167 hm (Nat.le_of_ble_eq_true rfl) (by omega) (by omega) ?_
      refine s_goes hM hF true false true (fun G2 hM2 hF2 => ?_)
      refine kt_v ?_
      obtain ⟨hm2, hA2, -⟩ := id hM2
      refine wp_ifF (pc' := 42) 44 dX9_leave_39 rfl rfl (cmpF rfl) ?_
      refine wp_iconst (pc' := 43) (0) dX9_leave_42 rfl rfl ?_
      refine wp_iret dX9_leave_43 rfl rfl ?_
      exact hX _ _ (by simp only [mcode, K_leave, hix, hb, h27, Bool.false_eq_true, decide_true, decide_false, Bool.not_true, Bool.not_false, Bool.and_true, Bool.true_and, Bool.and_false, Bool.false_and, Bool.or_true, Bool.true_or, Bool.or_false, Bool.false_or, if_true, if_false, ite_true, ite_false]) (by decide) hM2 hF2
    · skip
      refine wp_iconst (pc' := 31) (1) dX9_leave_30 rfl rfl ?_
      refine wp_goto 35 dX9_leave_31 rfl ?_
      refine wp_iconst (pc' := 36) (1) dX9_leave_35 rfl rfl ?_
      refine wp_v3 0 0 dX9_leave_36 ml_X9_167 hm (Nat.le_of_ble_eq_true rfl) (by omega) (by omega) ?_
      refine s_goes hM hF true true true (fun G3 hM3 hF3 => ?_)
      refine kt_v ?_
      replace hM3 : MH m aM own (zz σ) G3 := hM3
      obtain ⟨hm3, hA3, -⟩ := id hM3
      refine wp_ifT 44 dX9_leave_39 rfl (cmpT rfl) ?_
      refine wp_load (pc' := 45) (j := 0) dX9_leave_44 rfl rfl rfl ?_
      refine wp_get (pc' := 48) dX9_leave_45 fl_X9_62 hm3 rfl rfl ?_
      refine wp_load (pc' := 49) (j := 1) dX9_leave_48 rfl rfl rfl ?_
      refine wp_iconst (pc' := 50) (-1) dX9_leave_49 rfl rfl ?_
      refine wp_mia (pc' := 51) hM3 hF3 25 (by decide) (by decide) dX9_leave_50 rfl hjl (by decide) rfl (fun G4 hM4 hF4 => ?_)
      obtain ⟨hm4, hA4, -⟩ := id hM4
      refine wp_load (pc' := 52) (j := 0) dX9_leave_51 rfl rfl rfl ?_
      refine wp_get (pc' := 55) dX9_leave_52 fl_X9_189 hm4 rfl rfl ?_
      refine wp_load (pc' := 56) (j := 0) dX9_leave_55 rfl rfl rfl ?_
      refine wp_get (pc' := 59) dX9_leave_56 fl_X9_68 hm4 rfl rfl ?_
      refine wp_load (pc' := 60) (j := 1) dX9_leave_59 rfl rfl rfl ?_
      refine wp_iald (pc' := 61) dX9_leave_60 (hA4 27 (by decide)) rfl hjl (by decide) rfl ?_
      refine wp_pure (pc' := 62) dX9_leave_61 rfl rfl ?_
      refine wp_iret dX9_leave_62 rfl rfl ?_
      exact hT (by simp only [mcode, K_leave, hix, hb, h27, Bool.false_eq_true, decide_true, decide_false, Bool.not_true, Bool.not_false, Bool.and_true, Bool.true_and, Bool.and_false, Bool.false_and, Bool.or_true, Bool.true_or, Bool.or_false, Bool.false_or, if_true, if_false, ite_true, ite_false]) j hj rfl _ hM4 hF4

theorem dec_ab (a b : Int32) : a - b + (-1) = a - (b + 1) := by
  rw [Int32.sub_eq_add_neg (a := a) (b := b), Int32.sub_eq_add_neg (a := a) (b := b + 1), Int32.neg_add, Int32.sub_eq_add_neg (a := -b) (b := 1), Int32.add_assoc]
theorem dec59 (k : Nat) : nI 59 - nI k + (-1) = nI 59 - nI (k + 1) := (dec_ab (nI 59) (nI k)).trans (by rw [← nI_succ k])
set_option maxRecDepth 20000 in
set_option maxHeartbeats 2000000 in
theorem l_gap {E : XE} {d0 d mc ms : Nat} {G : HP} {P : Ps} (hd : d = d0 + 1) {m : Nat} {aM own : Nat → Nat} {σ : MS} (hM : MH m aM own σ G) {nc : Nat} (hc : σ.1 22 = nI nc) (hc30 : nc ≤ 30) {s l : Int32} (hP : P (.inl (some (.int (gapF σ s l nc 60)))) G) : ∀ j k, k + j = 60 → WX E d (yX9_gap, cX9_gap, (some .int), []) mc ms P 27 [some (.ref m), some (.int s), some (.int l), some (.int (gapF σ s l nc k)), some (.int (nI 59 - nI k))] [] G 0 0
  | 0, k, hk => by
    subst hd
    obtain ⟨hm, hA, -⟩ := id hM
    refine wp_load (pc' := 29) (j := 4) dX9_gap_27 rfl rfl rfl ?_
    refine wp_ifT 56 dX9_gap_29 rfl (show nI 59 - nI k < 0 from by rw [show k = 60 by omega]; decide) ?_
    refine wp_load (pc' := 57) (j := 3) dX9_gap_56 rfl rfl rfl ?_
    refine wp_iret dX9_gap_57 rfl rfl ?_
    obtain rfl : k = 60 := by omega
    exact hP
  | j + 1, k, hk => by
    have ih := l_gap (E := E) (d := d) (mc := mc) (ms := ms) hd hM hc hc30 hP j (k + 1) (by omega)
    subst hd
    obtain ⟨hm, hA, -⟩ := id hM
    rw [pk_sub (show k ≤ 59 by omega)]
    refine wp_load (pc' := 29) (j := 4) dX9_gap_27 rfl rfl rfl ?_
    refine wp_ifF (pc' := 32) 56 dX9_gap_29 rfl rfl (show ¬ nI (59 - k) < 0 from nI_pos (by omega)) ?_
    refine wp_load (pc' := 33) (j := 0) dX9_gap_32 rfl rfl rfl ?_
    refine wp_load (pc' := 34) (j := 1) dX9_gap_33 rfl rfl rfl ?_
    refine wp_load (pc' := 36) (j := 4) dX9_gap_34 rfl rfl rfl ?_
    refine wp_load (pc' := 37) (j := 2) dX9_gap_36 rfl rfl rfl ?_
    refine wp_v3 0 0 dX9_gap_37 ml_X9_228 hm (Nat.le_of_ble_eq_true rfl) (by omega) (by omega) ?_
    refine s_isGap hM hc hc30 _ _ _ ?_
    refine kt_v ?_
    refine wp_ifeqB (pc' := 43) 48 dX9_gap_40 rfl rfl (fun h40 => ?_) (fun h40 => ?_)
    · skip
      refine wp_load (pc' := 49) (j := 3) dX9_gap_48 rfl rfl rfl ?_
      refine wp_store (pc' := 50) (j := 3) (ls' := [_, _, _, _, _]) dX9_gap_49 rfl (Nat.le_of_ble_eq_true rfl) rfl rfl ?_
      refine wp_iinc (pc' := 53) (j := 4) (ls' := [_, _, _, _, _]) (nI 59 - nI (k + 1)) dX9_gap_50 rfl (by rw [← pk_sub (show k ≤ 59 by omega)]; exact dec59 k) rfl rfl ?_
      refine wp_goto 27 dX9_gap_53 rfl ?_
      simpa only [gapF, h40, Bool.false_eq_true, decide_true, decide_false, Bool.not_true, Bool.not_false, Bool.and_true, Bool.true_and, Bool.and_false, Bool.false_and, Bool.or_true, Bool.true_or, Bool.or_false, Bool.false_or, if_true, if_false, ite_true, ite_false] using ih
    · skip
      refine wp_load (pc' := 45) (j := 4) dX9_gap_43 rfl rfl rfl ?_
      refine wp_goto 49 dX9_gap_45 rfl ?_
      refine wp_store (pc' := 50) (j := 3) (ls' := [_, _, _, _, _]) dX9_gap_49 rfl (Nat.le_of_ble_eq_true rfl) rfl rfl ?_
      refine wp_iinc (pc' := 53) (j := 4) (ls' := [_, _, _, _, _]) (nI 59 - nI (k + 1)) dX9_gap_50 rfl (by rw [← pk_sub (show k ≤ 59 by omega)]; exact dec59 k) rfl rfl ?_
      refine wp_goto 27 dX9_gap_53 rfl ?_
      simpa only [gapF, h40, Bool.false_eq_true, decide_true, decide_false, Bool.not_true, Bool.not_false, Bool.and_true, Bool.true_and, Bool.and_false, Bool.false_and, Bool.or_true, Bool.true_or, Bool.or_false, Bool.false_or, if_true, if_false, ite_true, ite_false] using ih

set_option maxRecDepth 20000 in
set_option maxHeartbeats 2000000 in
theorem p_gap {E : XE} {d mc ms : Nat} {G : HP} {P : Ps} {m : Nat} {aM own : Nat → Nat} {σ : MS} (hM : MH m aM own σ G) {nc : Nat} (hc : σ.1 22 = nI nc) (hc30 : nc ≤ 30) {s l : Int32} (hX : ∀ c G', c = K_gap s l → c ≠ 0 → MH m aM own (msc σ 56 c) G' → Fr1 own G G' → P (.inl (some (.int 0))) G') (hT : K_gap s l = 0 → ∀ G', MH m aM own (zz σ) G' → Fr1 own G G' → P (.inl (some (.int (gapF (zz σ) s l nc 60)))) G') : Sp E (d + 3) yX9_gap mc ms [.ref m, .int s, .int l] G P := by
  have hF : Fr1 own G G := fr1_rf
  obtain ⟨hm, hA, -⟩ := id hM
  refine sp_intro bd_X9_gap (v1_all rfl) (Nat.le_of_ble_eq_true rfl) ?_
  change WX _ _ _ _ _ _ 0 [some (.ref m), some (.int s), some (.int l), none, none] [] _ 0 0
  refine wp_load (pc' := 1) (j := 0) dX9_gap_0 rfl rfl rfl ?_
  refine wp_load (pc' := 2) (j := 1) dX9_gap_1 rfl rfl rfl ?_
  refine wp_s1 0 0 dX9_gap_2 ml_X9_160 (Nat.le_of_ble_eq_true rfl) (by omega) (by omega) ?_
  refine s_isStreet _ ?_
  refine kt_v ?_
  rcases hb : isStreetB s with _ | _
  · skip
    refine wp_load (pc' := 6) (j := 2) dX9_gap_5 rfl rfl rfl ?_
    refine wp_iconst (pc' := 7) (3) dX9_gap_6 rfl rfl ?_
    refine wp_bipush (pc' := 9) (12) dX9_gap_7 rfl rfl ?_
    refine wp_s3 0 0 dX9_gap_9 ml_X9_153 (Nat.le_of_ble_eq_true rfl) (by omega) (by omega) ?_
    refine s_in _ _ _ ?_
    refine kt_v ?_
    rcases hb2 : inB l 3 12 with _ | _
    · skip
      refine wp_iconst (pc' := 13) (1) dX9_gap_12 rfl rfl ?_
      refine wp_v3 0 0 dX9_gap_13 ml_X9_167 hm (Nat.le_of_ble_eq_true rfl) (by omega) (by omega) ?_
      refine s_goes hM hF false false true (fun G1 hM1 hF1 => ?_)
      refine kt_v ?_
      obtain ⟨hm1, hA1, -⟩ := id hM1
      refine wp_ifF (pc' := 19) 21 dX9_gap_16 rfl rfl (cmpF rfl) ?_
      refine wp_iconst (pc' := 20) (0) dX9_gap_19 rfl rfl ?_
      refine wp_iret dX9_gap_20 rfl rfl ?_
      exact hX _ _ (by simp only [mcode, K_gap, hb, hb2, Bool.false_eq_true, decide_true, decide_false, Bool.not_true, Bool.not_false, Bool.and_true, Bool.true_and, Bool.and_false, Bool.false_and, Bool.or_true, Bool.true_or, Bool.or_false, Bool.false_or, if_true, if_false, ite_true, ite_false]) (by decide) hM1 hF1
    · skip
      refine wp_iconst (pc' := 13) (1) dX9_gap_12 rfl rfl ?_
      refine wp_v3 0 0 dX9_gap_13 ml_X9_167 hm (Nat.le_of_ble_eq_true rfl) (by omega) (by omega) ?_
      refine s_goes hM hF false true true (fun G2 hM2 hF2 => ?_)
      refine kt_v ?_
      obtain ⟨hm2, hA2, -⟩ := id hM2
      refine wp_ifF (pc' := 19) 21 dX9_gap_16 rfl rfl (cmpF rfl) ?_
      refine wp_iconst (pc' := 20) (0) dX9_gap_19 rfl rfl ?_
      refine wp_iret dX9_gap_20 rfl rfl ?_
      exact hX _ _ (by simp only [mcode, K_gap, hb, hb2, Bool.false_eq_true, decide_true, decide_false, Bool.not_true, Bool.not_false, Bool.and_true, Bool.true_and, Bool.and_false, Bool.false_and, Bool.or_true, Bool.true_or, Bool.or_false, Bool.false_or, if_true, if_false, ite_true, ite_false]) (by decide) hM2 hF2
  · skip
    refine wp_load (pc' := 6) (j := 2) dX9_gap_5 rfl rfl rfl ?_
    refine wp_iconst (pc' := 7) (3) dX9_gap_6 rfl rfl ?_
    refine wp_bipush (pc' := 9) (12) dX9_gap_7 rfl rfl ?_
    refine wp_s3 0 0 dX9_gap_9 ml_X9_153 (Nat.le_of_ble_eq_true rfl) (by omega) (by omega) ?_
    refine s_in _ _ _ ?_
    refine kt_v ?_
    rcases hb2 : inB l 3 12 with _ | _
    · skip
      refine wp_iconst (pc' := 13) (1) dX9_gap_12 rfl rfl ?_
      refine wp_v3 0 0 dX9_gap_13 ml_X9_167 hm (Nat.le_of_ble_eq_true rfl) (by omega) (by omega) ?_
      refine s_goes hM hF true false true (fun G3 hM3 hF3 => ?_)
      refine kt_v ?_
      obtain ⟨hm3, hA3, -⟩ := id hM3
      refine wp_ifF (pc' := 19) 21 dX9_gap_16 rfl rfl (cmpF rfl) ?_
      refine wp_iconst (pc' := 20) (0) dX9_gap_19 rfl rfl ?_
      refine wp_iret dX9_gap_20 rfl rfl ?_
      exact hX _ _ (by simp only [mcode, K_gap, hb, hb2, Bool.false_eq_true, decide_true, decide_false, Bool.not_true, Bool.not_false, Bool.and_true, Bool.true_and, Bool.and_false, Bool.false_and, Bool.or_true, Bool.true_or, Bool.or_false, Bool.false_or, if_true, if_false, ite_true, ite_false]) (by decide) hM3 hF3
    · skip
      refine wp_iconst (pc' := 13) (1) dX9_gap_12 rfl rfl ?_
      refine wp_v3 0 0 dX9_gap_13 ml_X9_167 hm (Nat.le_of_ble_eq_true rfl) (by omega) (by omega) ?_
      refine s_goes hM hF true true true (fun G4 hM4 hF4 => ?_)
      refine kt_v ?_
      replace hM4 : MH m aM own (zz σ) G4 := hM4
      obtain ⟨hm4, hA4, -⟩ := id hM4
      refine wp_ifT 21 dX9_gap_16 rfl (cmpT rfl) ?_
      refine wp_iconst (pc' := 22) (-1) dX9_gap_21 rfl rfl ?_
      refine wp_store (pc' := 23) (j := 3) (ls' := [_, _, _, _, _]) dX9_gap_22 rfl (Nat.le_of_ble_eq_true rfl) rfl rfl ?_
      refine wp_bipush (pc' := 25) (59) dX9_gap_23 rfl rfl ?_
      refine wp_store (pc' := 27) (j := 4) (ls' := [_, _, _, _, _]) dX9_gap_25 rfl (Nat.le_of_ble_eq_true rfl) rfl rfl ?_
      exact l_gap rfl hM4 hc hc30 (hT (by simp only [mcode, K_gap, hb, hb2, Bool.false_eq_true, decide_true, decide_false, Bool.not_true, Bool.not_false, Bool.and_true, Bool.true_and, Bool.and_false, Bool.false_and, Bool.or_true, Bool.true_or, Bool.or_false, Bool.false_or, if_true, if_false, ite_true, ite_false]) _ hM4 hF4) 60 0 (by omega)

set_option maxRecDepth 20000 in
set_option maxHeartbeats 2000000 in
theorem p_pay {E : XE} {d mc ms : Nat} {G : HP} {P : Ps} {m : Nat} {aM own : Nat → Nat} {σ : MS} (hM : MH m aM own σ G) {nc : Nat} (hc : σ.1 22 = nI nc) (hc30 : nc ≤ 30) {ny : Nat} (hy : σ.1 35 = nI ny) (hy200 : ny ≤ 200) {i s f q : Int32} (hX : ∀ c G', c = K_pay σ i s f q → c ≠ 0 → MH m aM own (msc σ 56 c) G' → Fr1 own G G' → P (.inl (some (.int 0))) G') (hT : K_pay σ i s f q = 0 → ∀ b, b < 4 → s = nI b → ny < 200 → ∀ G', MH m aM own (payF σ ny i s f q b) G' → Fr1 own G G' → P (.inl (some (.int (q * σ.2.1 52 b)))) G') : Sp E (d + 3) yX9_pay mc ms [.ref m, .int i, .int s, .int f, .int q] G P := by
  have hF : Fr1 own G G := fr1_rf
  obtain ⟨hm, hA, -⟩ := id hM
  refine sp_intro bd_X9_pay (v1_all rfl) (Nat.le_of_ble_eq_true rfl) ?_
  change WX _ _ _ _ _ _ 0 [some (.ref m), some (.int i), some (.int s), some (.int f), some (.int q), none] [] _ 0 0
  refine wp_load (pc' := 1) (j := 3) dX9_pay_0 rfl rfl rfl ?_
  refine wp_load (pc' := 2) (j := 0) dX9_pay_1 rfl rfl rfl ?_
  refine wp_get (pc' := 5) dX9_pay_2 fl_X9_189 hm rfl rfl ?_
  refine wp_bipush (pc' := 7) (96) dX9_pay_5 rfl rfl ?_
  refine wp_icmp_ge (pc' := 10) 14 dX9_pay_7 rfl rfl (fun h7 => ?_) (fun h7 => ?_)
  · skip
    refine wp_load (pc' := 15) (j := 0) dX9_pay_14 rfl rfl rfl ?_
    refine wp_get (pc' := 18) dX9_pay_15 fl_X9_189 hm rfl rfl ?_
    refine wp_bipush (pc' := 20) (96) dX9_pay_18 rfl rfl ?_
    refine wp_pure (pc' := 21) dX9_pay_20 rfl rfl ?_
    refine wp_load (pc' := 22) (j := 0) dX9_pay_21 rfl rfl rfl ?_
    refine wp_get (pc' := 25) dX9_pay_22 fl_X9_189 hm rfl rfl ?_
    refine wp_s3 0 0 dX9_pay_25 ml_X9_153 (Nat.le_of_ble_eq_true rfl) (by omega) (by omega) ?_
    refine s_in _ _ _ ?_
    refine kt_v ?_
    refine wp_ifeqB (pc' := 31) 46 dX9_pay_28 rfl rfl (fun h28 => ?_) (fun h28 => ?_)
    · skip
      refine wp_iconst (pc' := 47) (0) dX9_pay_46 rfl rfl ?_
      refine wp_store (pc' := 49) (j := 5) (ls' := [_, _, _, _, _, _]) dX9_pay_47 rfl (Nat.le_of_ble_eq_true rfl) rfl rfl ?_
      refine wp_load (pc' := 50) (j := 0) dX9_pay_49 rfl rfl rfl ?_
      refine wp_load (pc' := 51) (j := 0) dX9_pay_50 rfl rfl rfl ?_
      refine wp_load (pc' := 52) (j := 1) dX9_pay_51 rfl rfl rfl ?_
      refine wp_v1 0 0 dX9_pay_52 ml_X9_219 hm (Nat.le_of_ble_eq_true rfl) (by omega) (by omega) ?_
      refine s_isCar hM _ ?_
      refine kt_v ?_
      refine wp_ifeqB (pc' := 58) 69 dX9_pay_55 rfl rfl (fun h55 => ?_) (fun h55 => ?_)
      · skip
        refine wp_iconst (pc' := 70) (0) dX9_pay_69 rfl rfl ?_
        refine wp_load (pc' := 72) (j := 5) dX9_pay_70 rfl rfl rfl ?_
        refine wp_load (pc' := 73) (j := 0) dX9_pay_72 rfl rfl rfl ?_
        refine wp_get (pc' := 76) dX9_pay_73 fl_X9_231 hm rfl rfl ?_
        refine wp_sipush (pc' := 79) (200) dX9_pay_76 rfl rfl ?_
        refine wp_icmp_ge (pc' := 82) 86 dX9_pay_79 rfl rfl (fun h79 => ?_) (fun h79 => ?_)
        · skip
          refine wp_iconst (pc' := 87) (0) dX9_pay_86 rfl rfl ?_
          refine wp_v3 0 0 dX9_pay_87 ml_X9_167 hm (Nat.le_of_ble_eq_true rfl) (by omega) (by omega) ?_
          refine s_goes hM hF false false false (fun G1 hM1 hF1 => ?_)
          refine kt_v ?_
          obtain ⟨hm1, hA1, -⟩ := id hM1
          refine wp_ifF (pc' := 93) 95 dX9_pay_90 rfl rfl (cmpF rfl) ?_
          refine wp_iconst (pc' := 94) (0) dX9_pay_93 rfl rfl ?_
          refine wp_iret dX9_pay_94 rfl rfl ?_
          exact hX _ _ (by simp only [mcode, K_pay, h7, h28, h55, h79, Bool.false_eq_true, decide_true, decide_false, Bool.not_true, Bool.not_false, Bool.and_true, Bool.true_and, Bool.and_false, Bool.false_and, Bool.or_true, Bool.true_or, Bool.or_false, Bool.false_or, if_true, if_false, ite_true, ite_false]) (by decide) hM1 hF1
        · skip
          refine wp_iconst (pc' := 83) (1) dX9_pay_82 rfl rfl ?_
          refine wp_goto 87 dX9_pay_83 rfl ?_
          refine wp_v3 0 0 dX9_pay_87 ml_X9_167 hm (Nat.le_of_ble_eq_true rfl) (by omega) (by omega) ?_
          refine s_goes hM hF false false true (fun G2 hM2 hF2 => ?_)
          refine kt_v ?_
          obtain ⟨hm2, hA2, -⟩ := id hM2
          refine wp_ifF (pc' := 93) 95 dX9_pay_90 rfl rfl (cmpF rfl) ?_
          refine wp_iconst (pc' := 94) (0) dX9_pay_93 rfl rfl ?_
          refine wp_iret dX9_pay_94 rfl rfl ?_
          exact hX _ _ (by simp only [mcode, K_pay, h7, h28, h55, h79, Bool.false_eq_true, decide_true, decide_false, Bool.not_true, Bool.not_false, Bool.and_true, Bool.true_and, Bool.and_false, Bool.false_and, Bool.or_true, Bool.true_or, Bool.or_false, Bool.false_or, if_true, if_false, ite_true, ite_false]) (by decide) hM2 hF2
      · skip
        refine wp_load (pc' := 59) (j := 2) dX9_pay_58 rfl rfl rfl ?_
        refine wp_s1 0 0 dX9_pay_59 ml_X9_160 (Nat.le_of_ble_eq_true rfl) (by omega) (by omega) ?_
        refine s_isStreet _ ?_
        refine kt_v ?_
        refine wp_ifeqB (pc' := 65) 69 dX9_pay_62 rfl rfl (fun h62 => ?_) (fun h62 => ?_)
        · skip
          refine wp_iconst (pc' := 70) (0) dX9_pay_69 rfl rfl ?_
          refine wp_load (pc' := 72) (j := 5) dX9_pay_70 rfl rfl rfl ?_
          refine wp_load (pc' := 73) (j := 0) dX9_pay_72 rfl rfl rfl ?_
          refine wp_get (pc' := 76) dX9_pay_73 fl_X9_231 hm rfl rfl ?_
          refine wp_sipush (pc' := 79) (200) dX9_pay_76 rfl rfl ?_
          refine wp_icmp_ge (pc' := 82) 86 dX9_pay_79 rfl rfl (fun h79 => ?_) (fun h79 => ?_)
          · skip
            refine wp_iconst (pc' := 87) (0) dX9_pay_86 rfl rfl ?_
            refine wp_v3 0 0 dX9_pay_87 ml_X9_167 hm (Nat.le_of_ble_eq_true rfl) (by omega) (by omega) ?_
            refine s_goes hM hF false false false (fun G3 hM3 hF3 => ?_)
            refine kt_v ?_
            obtain ⟨hm3, hA3, -⟩ := id hM3
            refine wp_ifF (pc' := 93) 95 dX9_pay_90 rfl rfl (cmpF rfl) ?_
            refine wp_iconst (pc' := 94) (0) dX9_pay_93 rfl rfl ?_
            refine wp_iret dX9_pay_94 rfl rfl ?_
            exact hX _ _ (by simp only [mcode, K_pay, h7, h28, h55, h62, h79, Bool.false_eq_true, decide_true, decide_false, Bool.not_true, Bool.not_false, Bool.and_true, Bool.true_and, Bool.and_false, Bool.false_and, Bool.or_true, Bool.true_or, Bool.or_false, Bool.false_or, if_true, if_false, ite_true, ite_false]) (by decide) hM3 hF3
          · skip
            refine wp_iconst (pc' := 83) (1) dX9_pay_82 rfl rfl ?_
            refine wp_goto 87 dX9_pay_83 rfl ?_
            refine wp_v3 0 0 dX9_pay_87 ml_X9_167 hm (Nat.le_of_ble_eq_true rfl) (by omega) (by omega) ?_
            refine s_goes hM hF false false true (fun G4 hM4 hF4 => ?_)
            refine kt_v ?_
            obtain ⟨hm4, hA4, -⟩ := id hM4
            refine wp_ifF (pc' := 93) 95 dX9_pay_90 rfl rfl (cmpF rfl) ?_
            refine wp_iconst (pc' := 94) (0) dX9_pay_93 rfl rfl ?_
            refine wp_iret dX9_pay_94 rfl rfl ?_
            exact hX _ _ (by simp only [mcode, K_pay, h7, h28, h55, h62, h79, Bool.false_eq_true, decide_true, decide_false, Bool.not_true, Bool.not_false, Bool.and_true, Bool.true_and, Bool.and_false, Bool.false_and, Bool.or_true, Bool.true_or, Bool.or_false, Bool.false_or, if_true, if_false, ite_true, ite_false]) (by decide) hM4 hF4
        · skip
          refine wp_iconst (pc' := 66) (1) dX9_pay_65 rfl rfl ?_
          refine wp_goto 70 dX9_pay_66 rfl ?_
          refine wp_load (pc' := 72) (j := 5) dX9_pay_70 rfl rfl rfl ?_
          refine wp_load (pc' := 73) (j := 0) dX9_pay_72 rfl rfl rfl ?_
          refine wp_get (pc' := 76) dX9_pay_73 fl_X9_231 hm rfl rfl ?_
          refine wp_sipush (pc' := 79) (200) dX9_pay_76 rfl rfl ?_
          refine wp_icmp_ge (pc' := 82) 86 dX9_pay_79 rfl rfl (fun h79 => ?_) (fun h79 => ?_)
          · skip
            refine wp_iconst (pc' := 87) (0) dX9_pay_86 rfl rfl ?_
            refine wp_v3 0 0 dX9_pay_87 ml_X9_167 hm (Nat.le_of_ble_eq_true rfl) (by omega) (by omega) ?_
            refine s_goes hM hF true false false (fun G5 hM5 hF5 => ?_)
            refine kt_v ?_
            obtain ⟨hm5, hA5, -⟩ := id hM5
            refine wp_ifF (pc' := 93) 95 dX9_pay_90 rfl rfl (cmpF rfl) ?_
            refine wp_iconst (pc' := 94) (0) dX9_pay_93 rfl rfl ?_
            refine wp_iret dX9_pay_94 rfl rfl ?_
            exact hX _ _ (by simp only [mcode, K_pay, h7, h28, h55, h62, h79, Bool.false_eq_true, decide_true, decide_false, Bool.not_true, Bool.not_false, Bool.and_true, Bool.true_and, Bool.and_false, Bool.false_and, Bool.or_true, Bool.true_or, Bool.or_false, Bool.false_or, if_true, if_false, ite_true, ite_false]) (by decide) hM5 hF5
          · skip
            refine wp_iconst (pc' := 83) (1) dX9_pay_82 rfl rfl ?_
            refine wp_goto 87 dX9_pay_83 rfl ?_
            refine wp_v3 0 0 dX9_pay_87 ml_X9_167 hm (Nat.le_of_ble_eq_true rfl) (by omega) (by omega) ?_
            refine s_goes hM hF true false true (fun G6 hM6 hF6 => ?_)
            refine kt_v ?_
            obtain ⟨hm6, hA6, -⟩ := id hM6
            refine wp_ifF (pc' := 93) 95 dX9_pay_90 rfl rfl (cmpF rfl) ?_
            refine wp_iconst (pc' := 94) (0) dX9_pay_93 rfl rfl ?_
            refine wp_iret dX9_pay_94 rfl rfl ?_
            exact hX _ _ (by simp only [mcode, K_pay, h7, h28, h55, h62, h79, Bool.false_eq_true, decide_true, decide_false, Bool.not_true, Bool.not_false, Bool.and_true, Bool.true_and, Bool.and_false, Bool.false_and, Bool.or_true, Bool.true_or, Bool.or_false, Bool.false_or, if_true, if_false, ite_true, ite_false]) (by decide) hM6 hF6
    · skip
      refine wp_load (pc' := 33) (j := 4) dX9_pay_31 rfl rfl rfl ?_
      refine wp_iconst (pc' := 34) (1) dX9_pay_33 rfl rfl ?_
      refine wp_bipush (pc' := 36) (96) dX9_pay_34 rfl rfl ?_
      refine wp_s3 0 0 dX9_pay_36 ml_X9_153 (Nat.le_of_ble_eq_true rfl) (by omega) (by omega) ?_
      refine s_in _ _ _ ?_
      refine kt_v ?_
      refine wp_ifeqB (pc' := 42) 46 dX9_pay_39 rfl rfl (fun h39 => ?_) (fun h39 => ?_)
      · skip
        refine wp_iconst (pc' := 47) (0) dX9_pay_46 rfl rfl ?_
        refine wp_store (pc' := 49) (j := 5) (ls' := [_, _, _, _, _, _]) dX9_pay_47 rfl (Nat.le_of_ble_eq_true rfl) rfl rfl ?_
        refine wp_load (pc' := 50) (j := 0) dX9_pay_49 rfl rfl rfl ?_
        refine wp_load (pc' := 51) (j := 0) dX9_pay_50 rfl rfl rfl ?_
        refine wp_load (pc' := 52) (j := 1) dX9_pay_51 rfl rfl rfl ?_
        refine wp_v1 0 0 dX9_pay_52 ml_X9_219 hm (Nat.le_of_ble_eq_true rfl) (by omega) (by omega) ?_
        refine s_isCar hM _ ?_
        refine kt_v ?_
        refine wp_ifeqB (pc' := 58) 69 dX9_pay_55 rfl rfl (fun h55 => ?_) (fun h55 => ?_)
        · skip
          refine wp_iconst (pc' := 70) (0) dX9_pay_69 rfl rfl ?_
          refine wp_load (pc' := 72) (j := 5) dX9_pay_70 rfl rfl rfl ?_
          refine wp_load (pc' := 73) (j := 0) dX9_pay_72 rfl rfl rfl ?_
          refine wp_get (pc' := 76) dX9_pay_73 fl_X9_231 hm rfl rfl ?_
          refine wp_sipush (pc' := 79) (200) dX9_pay_76 rfl rfl ?_
          refine wp_icmp_ge (pc' := 82) 86 dX9_pay_79 rfl rfl (fun h79 => ?_) (fun h79 => ?_)
          · skip
            refine wp_iconst (pc' := 87) (0) dX9_pay_86 rfl rfl ?_
            refine wp_v3 0 0 dX9_pay_87 ml_X9_167 hm (Nat.le_of_ble_eq_true rfl) (by omega) (by omega) ?_
            refine s_goes hM hF false false false (fun G7 hM7 hF7 => ?_)
            refine kt_v ?_
            obtain ⟨hm7, hA7, -⟩ := id hM7
            refine wp_ifF (pc' := 93) 95 dX9_pay_90 rfl rfl (cmpF rfl) ?_
            refine wp_iconst (pc' := 94) (0) dX9_pay_93 rfl rfl ?_
            refine wp_iret dX9_pay_94 rfl rfl ?_
            exact hX _ _ (by simp only [mcode, K_pay, h7, h28, h39, h55, h79, Bool.false_eq_true, decide_true, decide_false, Bool.not_true, Bool.not_false, Bool.and_true, Bool.true_and, Bool.and_false, Bool.false_and, Bool.or_true, Bool.true_or, Bool.or_false, Bool.false_or, if_true, if_false, ite_true, ite_false]) (by decide) hM7 hF7
          · skip
            refine wp_iconst (pc' := 83) (1) dX9_pay_82 rfl rfl ?_
            refine wp_goto 87 dX9_pay_83 rfl ?_
            refine wp_v3 0 0 dX9_pay_87 ml_X9_167 hm (Nat.le_of_ble_eq_true rfl) (by omega) (by omega) ?_
            refine s_goes hM hF false false true (fun G8 hM8 hF8 => ?_)
            refine kt_v ?_
            obtain ⟨hm8, hA8, -⟩ := id hM8
            refine wp_ifF (pc' := 93) 95 dX9_pay_90 rfl rfl (cmpF rfl) ?_
            refine wp_iconst (pc' := 94) (0) dX9_pay_93 rfl rfl ?_
            refine wp_iret dX9_pay_94 rfl rfl ?_
            exact hX _ _ (by simp only [mcode, K_pay, h7, h28, h39, h55, h79, Bool.false_eq_true, decide_true, decide_false, Bool.not_true, Bool.not_false, Bool.and_true, Bool.true_and, Bool.and_false, Bool.false_and, Bool.or_true, Bool.true_or, Bool.or_false, Bool.false_or, if_true, if_false, ite_true, ite_false]) (by decide) hM8 hF8
        · skip
          refine wp_load (pc' := 59) (j := 2) dX9_pay_58 rfl rfl rfl ?_
          refine wp_s1 0 0 dX9_pay_59 ml_X9_160 (Nat.le_of_ble_eq_true rfl) (by omega) (by omega) ?_
          refine s_isStreet _ ?_
          refine kt_v ?_
          refine wp_ifeqB (pc' := 65) 69 dX9_pay_62 rfl rfl (fun h62 => ?_) (fun h62 => ?_)
          · skip
            refine wp_iconst (pc' := 70) (0) dX9_pay_69 rfl rfl ?_
            refine wp_load (pc' := 72) (j := 5) dX9_pay_70 rfl rfl rfl ?_
            refine wp_load (pc' := 73) (j := 0) dX9_pay_72 rfl rfl rfl ?_
            refine wp_get (pc' := 76) dX9_pay_73 fl_X9_231 hm rfl rfl ?_
            refine wp_sipush (pc' := 79) (200) dX9_pay_76 rfl rfl ?_
            refine wp_icmp_ge (pc' := 82) 86 dX9_pay_79 rfl rfl (fun h79 => ?_) (fun h79 => ?_)
            · skip
              refine wp_iconst (pc' := 87) (0) dX9_pay_86 rfl rfl ?_
              refine wp_v3 0 0 dX9_pay_87 ml_X9_167 hm (Nat.le_of_ble_eq_true rfl) (by omega) (by omega) ?_
              refine s_goes hM hF false false false (fun G9 hM9 hF9 => ?_)
              refine kt_v ?_
              obtain ⟨hm9, hA9, -⟩ := id hM9
              refine wp_ifF (pc' := 93) 95 dX9_pay_90 rfl rfl (cmpF rfl) ?_
              refine wp_iconst (pc' := 94) (0) dX9_pay_93 rfl rfl ?_
              refine wp_iret dX9_pay_94 rfl rfl ?_
              exact hX _ _ (by simp only [mcode, K_pay, h7, h28, h39, h55, h62, h79, Bool.false_eq_true, decide_true, decide_false, Bool.not_true, Bool.not_false, Bool.and_true, Bool.true_and, Bool.and_false, Bool.false_and, Bool.or_true, Bool.true_or, Bool.or_false, Bool.false_or, if_true, if_false, ite_true, ite_false]) (by decide) hM9 hF9
            · skip
              refine wp_iconst (pc' := 83) (1) dX9_pay_82 rfl rfl ?_
              refine wp_goto 87 dX9_pay_83 rfl ?_
              refine wp_v3 0 0 dX9_pay_87 ml_X9_167 hm (Nat.le_of_ble_eq_true rfl) (by omega) (by omega) ?_
              refine s_goes hM hF false false true (fun G10 hM10 hF10 => ?_)
              refine kt_v ?_
              obtain ⟨hm10, hA10, -⟩ := id hM10
              refine wp_ifF (pc' := 93) 95 dX9_pay_90 rfl rfl (cmpF rfl) ?_
              refine wp_iconst (pc' := 94) (0) dX9_pay_93 rfl rfl ?_
              refine wp_iret dX9_pay_94 rfl rfl ?_
              exact hX _ _ (by simp only [mcode, K_pay, h7, h28, h39, h55, h62, h79, Bool.false_eq_true, decide_true, decide_false, Bool.not_true, Bool.not_false, Bool.and_true, Bool.true_and, Bool.and_false, Bool.false_and, Bool.or_true, Bool.true_or, Bool.or_false, Bool.false_or, if_true, if_false, ite_true, ite_false]) (by decide) hM10 hF10
          · skip
            refine wp_iconst (pc' := 66) (1) dX9_pay_65 rfl rfl ?_
            refine wp_goto 70 dX9_pay_66 rfl ?_
            refine wp_load (pc' := 72) (j := 5) dX9_pay_70 rfl rfl rfl ?_
            refine wp_load (pc' := 73) (j := 0) dX9_pay_72 rfl rfl rfl ?_
            refine wp_get (pc' := 76) dX9_pay_73 fl_X9_231 hm rfl rfl ?_
            refine wp_sipush (pc' := 79) (200) dX9_pay_76 rfl rfl ?_
            refine wp_icmp_ge (pc' := 82) 86 dX9_pay_79 rfl rfl (fun h79 => ?_) (fun h79 => ?_)
            · skip
              refine wp_iconst (pc' := 87) (0) dX9_pay_86 rfl rfl ?_
              refine wp_v3 0 0 dX9_pay_87 ml_X9_167 hm (Nat.le_of_ble_eq_true rfl) (by omega) (by omega) ?_
              refine s_goes hM hF true false false (fun G11 hM11 hF11 => ?_)
              refine kt_v ?_
              obtain ⟨hm11, hA11, -⟩ := id hM11
              refine wp_ifF (pc' := 93) 95 dX9_pay_90 rfl rfl (cmpF rfl) ?_
              refine wp_iconst (pc' := 94) (0) dX9_pay_93 rfl rfl ?_
              refine wp_iret dX9_pay_94 rfl rfl ?_
              exact hX _ _ (by simp only [mcode, K_pay, h7, h28, h39, h55, h62, h79, Bool.false_eq_true, decide_true, decide_false, Bool.not_true, Bool.not_false, Bool.and_true, Bool.true_and, Bool.and_false, Bool.false_and, Bool.or_true, Bool.true_or, Bool.or_false, Bool.false_or, if_true, if_false, ite_true, ite_false]) (by decide) hM11 hF11
            · skip
              refine wp_iconst (pc' := 83) (1) dX9_pay_82 rfl rfl ?_
              refine wp_goto 87 dX9_pay_83 rfl ?_
              refine wp_v3 0 0 dX9_pay_87 ml_X9_167 hm (Nat.le_of_ble_eq_true rfl) (by omega) (by omega) ?_
              refine s_goes hM hF true false true (fun G12 hM12 hF12 => ?_)
              refine kt_v ?_
              obtain ⟨hm12, hA12, -⟩ := id hM12
              refine wp_ifF (pc' := 93) 95 dX9_pay_90 rfl rfl (cmpF rfl) ?_
              refine wp_iconst (pc' := 94) (0) dX9_pay_93 rfl rfl ?_
              refine wp_iret dX9_pay_94 rfl rfl ?_
              exact hX _ _ (by simp only [mcode, K_pay, h7, h28, h39, h55, h62, h79, Bool.false_eq_true, decide_true, decide_false, Bool.not_true, Bool.not_false, Bool.and_true, Bool.true_and, Bool.and_false, Bool.false_and, Bool.or_true, Bool.true_or, Bool.or_false, Bool.false_or, if_true, if_false, ite_true, ite_false]) (by decide) hM12 hF12
      · skip
        refine wp_iconst (pc' := 43) (1) dX9_pay_42 rfl rfl ?_
        refine wp_goto 47 dX9_pay_43 rfl ?_
        refine wp_store (pc' := 49) (j := 5) (ls' := [_, _, _, _, _, _]) dX9_pay_47 rfl (Nat.le_of_ble_eq_true rfl) rfl rfl ?_
        refine wp_load (pc' := 50) (j := 0) dX9_pay_49 rfl rfl rfl ?_
        refine wp_load (pc' := 51) (j := 0) dX9_pay_50 rfl rfl rfl ?_
        refine wp_load (pc' := 52) (j := 1) dX9_pay_51 rfl rfl rfl ?_
        refine wp_v1 0 0 dX9_pay_52 ml_X9_219 hm (Nat.le_of_ble_eq_true rfl) (by omega) (by omega) ?_
        refine s_isCar hM _ ?_
        refine kt_v ?_
        refine wp_ifeqB (pc' := 58) 69 dX9_pay_55 rfl rfl (fun h55 => ?_) (fun h55 => ?_)
        · skip
          refine wp_iconst (pc' := 70) (0) dX9_pay_69 rfl rfl ?_
          refine wp_load (pc' := 72) (j := 5) dX9_pay_70 rfl rfl rfl ?_
          refine wp_load (pc' := 73) (j := 0) dX9_pay_72 rfl rfl rfl ?_
          refine wp_get (pc' := 76) dX9_pay_73 fl_X9_231 hm rfl rfl ?_
          refine wp_sipush (pc' := 79) (200) dX9_pay_76 rfl rfl ?_
          refine wp_icmp_ge (pc' := 82) 86 dX9_pay_79 rfl rfl (fun h79 => ?_) (fun h79 => ?_)
          · skip
            refine wp_iconst (pc' := 87) (0) dX9_pay_86 rfl rfl ?_
            refine wp_v3 0 0 dX9_pay_87 ml_X9_167 hm (Nat.le_of_ble_eq_true rfl) (by omega) (by omega) ?_
            refine s_goes hM hF false true false (fun G13 hM13 hF13 => ?_)
            refine kt_v ?_
            obtain ⟨hm13, hA13, -⟩ := id hM13
            refine wp_ifF (pc' := 93) 95 dX9_pay_90 rfl rfl (cmpF rfl) ?_
            refine wp_iconst (pc' := 94) (0) dX9_pay_93 rfl rfl ?_
            refine wp_iret dX9_pay_94 rfl rfl ?_
            exact hX _ _ (by simp only [mcode, K_pay, h7, h28, h39, h55, h79, Bool.false_eq_true, decide_true, decide_false, Bool.not_true, Bool.not_false, Bool.and_true, Bool.true_and, Bool.and_false, Bool.false_and, Bool.or_true, Bool.true_or, Bool.or_false, Bool.false_or, if_true, if_false, ite_true, ite_false]) (by decide) hM13 hF13
          · skip
            refine wp_iconst (pc' := 83) (1) dX9_pay_82 rfl rfl ?_
            refine wp_goto 87 dX9_pay_83 rfl ?_
            refine wp_v3 0 0 dX9_pay_87 ml_X9_167 hm (Nat.le_of_ble_eq_true rfl) (by omega) (by omega) ?_
            refine s_goes hM hF false true true (fun G14 hM14 hF14 => ?_)
            refine kt_v ?_
            obtain ⟨hm14, hA14, -⟩ := id hM14
            refine wp_ifF (pc' := 93) 95 dX9_pay_90 rfl rfl (cmpF rfl) ?_
            refine wp_iconst (pc' := 94) (0) dX9_pay_93 rfl rfl ?_
            refine wp_iret dX9_pay_94 rfl rfl ?_
            exact hX _ _ (by simp only [mcode, K_pay, h7, h28, h39, h55, h79, Bool.false_eq_true, decide_true, decide_false, Bool.not_true, Bool.not_false, Bool.and_true, Bool.true_and, Bool.and_false, Bool.false_and, Bool.or_true, Bool.true_or, Bool.or_false, Bool.false_or, if_true, if_false, ite_true, ite_false]) (by decide) hM14 hF14
        · skip
          refine wp_load (pc' := 59) (j := 2) dX9_pay_58 rfl rfl rfl ?_
          refine wp_s1 0 0 dX9_pay_59 ml_X9_160 (Nat.le_of_ble_eq_true rfl) (by omega) (by omega) ?_
          refine s_isStreet _ ?_
          refine kt_v ?_
          refine wp_ifeqB (pc' := 65) 69 dX9_pay_62 rfl rfl (fun h62 => ?_) (fun h62 => ?_)
          · skip
            refine wp_iconst (pc' := 70) (0) dX9_pay_69 rfl rfl ?_
            refine wp_load (pc' := 72) (j := 5) dX9_pay_70 rfl rfl rfl ?_
            refine wp_load (pc' := 73) (j := 0) dX9_pay_72 rfl rfl rfl ?_
            refine wp_get (pc' := 76) dX9_pay_73 fl_X9_231 hm rfl rfl ?_
            refine wp_sipush (pc' := 79) (200) dX9_pay_76 rfl rfl ?_
            refine wp_icmp_ge (pc' := 82) 86 dX9_pay_79 rfl rfl (fun h79 => ?_) (fun h79 => ?_)
            · skip
              refine wp_iconst (pc' := 87) (0) dX9_pay_86 rfl rfl ?_
              refine wp_v3 0 0 dX9_pay_87 ml_X9_167 hm (Nat.le_of_ble_eq_true rfl) (by omega) (by omega) ?_
              refine s_goes hM hF false true false (fun G15 hM15 hF15 => ?_)
              refine kt_v ?_
              obtain ⟨hm15, hA15, -⟩ := id hM15
              refine wp_ifF (pc' := 93) 95 dX9_pay_90 rfl rfl (cmpF rfl) ?_
              refine wp_iconst (pc' := 94) (0) dX9_pay_93 rfl rfl ?_
              refine wp_iret dX9_pay_94 rfl rfl ?_
              exact hX _ _ (by simp only [mcode, K_pay, h7, h28, h39, h55, h62, h79, Bool.false_eq_true, decide_true, decide_false, Bool.not_true, Bool.not_false, Bool.and_true, Bool.true_and, Bool.and_false, Bool.false_and, Bool.or_true, Bool.true_or, Bool.or_false, Bool.false_or, if_true, if_false, ite_true, ite_false]) (by decide) hM15 hF15
            · skip
              refine wp_iconst (pc' := 83) (1) dX9_pay_82 rfl rfl ?_
              refine wp_goto 87 dX9_pay_83 rfl ?_
              refine wp_v3 0 0 dX9_pay_87 ml_X9_167 hm (Nat.le_of_ble_eq_true rfl) (by omega) (by omega) ?_
              refine s_goes hM hF false true true (fun G16 hM16 hF16 => ?_)
              refine kt_v ?_
              obtain ⟨hm16, hA16, -⟩ := id hM16
              refine wp_ifF (pc' := 93) 95 dX9_pay_90 rfl rfl (cmpF rfl) ?_
              refine wp_iconst (pc' := 94) (0) dX9_pay_93 rfl rfl ?_
              refine wp_iret dX9_pay_94 rfl rfl ?_
              exact hX _ _ (by simp only [mcode, K_pay, h7, h28, h39, h55, h62, h79, Bool.false_eq_true, decide_true, decide_false, Bool.not_true, Bool.not_false, Bool.and_true, Bool.true_and, Bool.and_false, Bool.false_and, Bool.or_true, Bool.true_or, Bool.or_false, Bool.false_or, if_true, if_false, ite_true, ite_false]) (by decide) hM16 hF16
          · skip
            refine wp_iconst (pc' := 66) (1) dX9_pay_65 rfl rfl ?_
            refine wp_goto 70 dX9_pay_66 rfl ?_
            refine wp_load (pc' := 72) (j := 5) dX9_pay_70 rfl rfl rfl ?_
            refine wp_load (pc' := 73) (j := 0) dX9_pay_72 rfl rfl rfl ?_
            refine wp_get (pc' := 76) dX9_pay_73 fl_X9_231 hm rfl rfl ?_
            refine wp_sipush (pc' := 79) (200) dX9_pay_76 rfl rfl ?_
            refine wp_icmp_ge (pc' := 82) 86 dX9_pay_79 rfl rfl (fun h79 => ?_) (fun h79 => ?_)
            · skip
              refine wp_iconst (pc' := 87) (0) dX9_pay_86 rfl rfl ?_
              refine wp_v3 0 0 dX9_pay_87 ml_X9_167 hm (Nat.le_of_ble_eq_true rfl) (by omega) (by omega) ?_
              refine s_goes hM hF true true false (fun G17 hM17 hF17 => ?_)
              refine kt_v ?_
              obtain ⟨hm17, hA17, -⟩ := id hM17
              refine wp_ifF (pc' := 93) 95 dX9_pay_90 rfl rfl (cmpF rfl) ?_
              refine wp_iconst (pc' := 94) (0) dX9_pay_93 rfl rfl ?_
              refine wp_iret dX9_pay_94 rfl rfl ?_
              exact hX _ _ (by simp only [mcode, K_pay, h7, h28, h39, h55, h62, h79, Bool.false_eq_true, decide_true, decide_false, Bool.not_true, Bool.not_false, Bool.and_true, Bool.true_and, Bool.and_false, Bool.false_and, Bool.or_true, Bool.true_or, Bool.or_false, Bool.false_or, if_true, if_false, ite_true, ite_false]) (by decide) hM17 hF17
            · skip
              refine wp_iconst (pc' := 83) (1) dX9_pay_82 rfl rfl ?_
              refine wp_goto 87 dX9_pay_83 rfl ?_
              refine wp_v3 0 0 dX9_pay_87 ml_X9_167 hm (Nat.le_of_ble_eq_true rfl) (by omega) (by omega) ?_
              refine s_goes hM hF true true true (fun G18 hM18 hF18 => ?_)
              refine kt_v ?_
              replace hM18 : MH m aM own (zz σ) G18 := hM18
              obtain ⟨hm18, hA18, -⟩ := id hM18
              refine wp_ifT 95 dX9_pay_90 rfl (cmpT rfl) ?_
              obtain ⟨b, hb, rfl⟩ := st_nI h62
              have hlt : ny < 200 := by
                rw [hy] at h79
                rcases Nat.lt_or_ge ny 200 with q | q
                · exact q
                · exact absurd (show (200 : Int32) ≤ nI ny from nI_le q (by omega)) h79
              refine wp_load (pc' := 96) (j := 0) dX9_pay_95 rfl rfl rfl ?_
              refine wp_get (pc' := 99) dX9_pay_96 fl_X9_89 hm18 rfl rfl ?_
              refine wp_load (pc' := 100) (j := 0) dX9_pay_99 rfl rfl rfl ?_
              refine wp_get (pc' := 103) dX9_pay_100 fl_X9_231 hm18 rfl rfl ?_
              refine wp_load (pc' := 104) (j := 1) dX9_pay_103 rfl rfl rfl ?_
              refine wp_mia (pc' := 105) hM18 hF18 36 (by decide) (by decide) dX9_pay_104 hy (show ny < 200 from hlt) (by decide) rfl (fun G19 hM19 hF19 => ?_)
              obtain ⟨hm19, hA19, -⟩ := id hM19
              refine wp_load (pc' := 106) (j := 0) dX9_pay_105 rfl rfl rfl ?_
              refine wp_get (pc' := 109) dX9_pay_106 fl_X9_92 hm19 rfl rfl ?_
              refine wp_load (pc' := 110) (j := 0) dX9_pay_109 rfl rfl rfl ?_
              refine wp_get (pc' := 113) dX9_pay_110 fl_X9_231 hm19 rfl rfl ?_
              refine wp_load (pc' := 114) (j := 2) dX9_pay_113 rfl rfl rfl ?_
              refine wp_mia (pc' := 115) hM19 hF19 37 (by decide) (by decide) dX9_pay_114 hy (show ny < 200 from hlt) (by decide) rfl (fun G20 hM20 hF20 => ?_)
              obtain ⟨hm20, hA20, -⟩ := id hM20
              refine wp_load (pc' := 116) (j := 0) dX9_pay_115 rfl rfl rfl ?_
              refine wp_get (pc' := 119) dX9_pay_116 fl_X9_95 hm20 rfl rfl ?_
              refine wp_load (pc' := 120) (j := 0) dX9_pay_119 rfl rfl rfl ?_
              refine wp_get (pc' := 123) dX9_pay_120 fl_X9_231 hm20 rfl rfl ?_
              refine wp_load (pc' := 124) (j := 3) dX9_pay_123 rfl rfl rfl ?_
              refine wp_mia (pc' := 125) hM20 hF20 38 (by decide) (by decide) dX9_pay_124 hy (show ny < 200 from hlt) (by decide) rfl (fun G21 hM21 hF21 => ?_)
              obtain ⟨hm21, hA21, -⟩ := id hM21
              refine wp_load (pc' := 126) (j := 0) dX9_pay_125 rfl rfl rfl ?_
              refine wp_get (pc' := 129) dX9_pay_126 fl_X9_98 hm21 rfl rfl ?_
              refine wp_load (pc' := 130) (j := 0) dX9_pay_129 rfl rfl rfl ?_
              refine wp_get (pc' := 133) dX9_pay_130 fl_X9_231 hm21 rfl rfl ?_
              refine wp_load (pc' := 135) (j := 4) dX9_pay_133 rfl rfl rfl ?_
              refine wp_mia (pc' := 136) hM21 hF21 39 (by decide) (by decide) dX9_pay_135 hy (show ny < 200 from hlt) (by decide) rfl (fun G22 hM22 hF22 => ?_)
              obtain ⟨hm22, hA22, -⟩ := id hM22
              refine wp_load (pc' := 137) (j := 0) dX9_pay_136 rfl rfl rfl ?_
              refine wp_dup (pc' := 138) dX9_pay_137 rfl rfl ?_
              refine wp_get (pc' := 141) dX9_pay_138 fl_X9_231 hm22 rfl rfl ?_
              refine wp_iconst (pc' := 142) (1) dX9_pay_141 rfl rfl ?_
              refine wp_pure (pc' := 143) dX9_pay_142 rfl rfl ?_
              refine wp_mput (pc' := 146) hM22 hF22 dX9_pay_143 fl_X9_231 rfl (by decide) rfl (fun G23 hM23 hF23 => ?_)
              obtain ⟨hm23, hA23, -⟩ := id hM23
              refine wp_load (pc' := 147) (j := 0) dX9_pay_146 rfl rfl rfl ?_
              refine wp_get (pc' := 150) dX9_pay_147 fl_X9_137 hm23 rfl rfl ?_
              refine wp_load (pc' := 151) (j := 2) dX9_pay_150 rfl rfl rfl ?_
              refine wp_dup2 (pc' := 152) dX9_pay_151 rfl rfl rfl ?_
              refine wp_iald (pc' := 153) dX9_pay_152 (hA23 53 (by decide)) rfl (show b < 4 from hb) (by decide) rfl ?_
              refine wp_load (pc' := 155) (j := 4) dX9_pay_153 rfl rfl rfl ?_
              refine wp_load (pc' := 156) (j := 0) dX9_pay_155 rfl rfl rfl ?_
              refine wp_get (pc' := 159) dX9_pay_156 fl_X9_134 hm23 rfl rfl ?_
              refine wp_load (pc' := 160) (j := 2) dX9_pay_159 rfl rfl rfl ?_
              refine wp_iald (pc' := 161) dX9_pay_160 (hA23 52 (by decide)) rfl (show b < 4 from hb) (by decide) rfl ?_
              refine wp_pure (pc' := 162) dX9_pay_161 rfl rfl ?_
              refine wp_pure (pc' := 163) dX9_pay_162 rfl rfl ?_
              refine wp_mia (pc' := 164) hM23 hF23 53 (by decide) (by decide) dX9_pay_163 rfl (show b < 4 from hb) (by decide) rfl (fun G24 hM24 hF24 => ?_)
              obtain ⟨hm24, hA24, -⟩ := id hM24
              refine wp_load (pc' := 166) (j := 4) dX9_pay_164 rfl rfl rfl ?_
              refine wp_load (pc' := 167) (j := 0) dX9_pay_166 rfl rfl rfl ?_
              refine wp_get (pc' := 170) dX9_pay_167 fl_X9_134 hm24 rfl rfl ?_
              refine wp_load (pc' := 171) (j := 2) dX9_pay_170 rfl rfl rfl ?_
              refine wp_iald (pc' := 172) dX9_pay_171 (hA24 52 (by decide)) rfl (show b < 4 from hb) (by decide) rfl ?_
              refine wp_pure (pc' := 173) dX9_pay_172 rfl rfl ?_
              refine wp_iret dX9_pay_173 rfl rfl ?_
              exact hT (by simp only [mcode, K_pay, h7, h28, h39, h55, h62, h79, Bool.false_eq_true, decide_true, decide_false, Bool.not_true, Bool.not_false, Bool.and_true, Bool.true_and, Bool.and_false, Bool.false_and, Bool.or_true, Bool.true_or, Bool.or_false, Bool.false_or, if_true, if_false, ite_true, ite_false]) b hb rfl hlt _ hM24 hF24
  · skip
    refine wp_iconst (pc' := 11) (0) dX9_pay_10 rfl rfl ?_
    refine wp_goto 21 dX9_pay_11 rfl ?_
    refine wp_load (pc' := 22) (j := 0) dX9_pay_21 rfl rfl rfl ?_
    refine wp_get (pc' := 25) dX9_pay_22 fl_X9_189 hm rfl rfl ?_
    refine wp_s3 0 0 dX9_pay_25 ml_X9_153 (Nat.le_of_ble_eq_true rfl) (by omega) (by omega) ?_
    refine s_in _ _ _ ?_
    refine kt_v ?_
    refine wp_ifeqB (pc' := 31) 46 dX9_pay_28 rfl rfl (fun h28 => ?_) (fun h28 => ?_)
    · skip
      refine wp_iconst (pc' := 47) (0) dX9_pay_46 rfl rfl ?_
      refine wp_store (pc' := 49) (j := 5) (ls' := [_, _, _, _, _, _]) dX9_pay_47 rfl (Nat.le_of_ble_eq_true rfl) rfl rfl ?_
      refine wp_load (pc' := 50) (j := 0) dX9_pay_49 rfl rfl rfl ?_
      refine wp_load (pc' := 51) (j := 0) dX9_pay_50 rfl rfl rfl ?_
      refine wp_load (pc' := 52) (j := 1) dX9_pay_51 rfl rfl rfl ?_
      refine wp_v1 0 0 dX9_pay_52 ml_X9_219 hm (Nat.le_of_ble_eq_true rfl) (by omega) (by omega) ?_
      refine s_isCar hM _ ?_
      refine kt_v ?_
      refine wp_ifeqB (pc' := 58) 69 dX9_pay_55 rfl rfl (fun h55 => ?_) (fun h55 => ?_)
      · skip
        refine wp_iconst (pc' := 70) (0) dX9_pay_69 rfl rfl ?_
        refine wp_load (pc' := 72) (j := 5) dX9_pay_70 rfl rfl rfl ?_
        refine wp_load (pc' := 73) (j := 0) dX9_pay_72 rfl rfl rfl ?_
        refine wp_get (pc' := 76) dX9_pay_73 fl_X9_231 hm rfl rfl ?_
        refine wp_sipush (pc' := 79) (200) dX9_pay_76 rfl rfl ?_
        refine wp_icmp_ge (pc' := 82) 86 dX9_pay_79 rfl rfl (fun h79 => ?_) (fun h79 => ?_)
        · skip
          refine wp_iconst (pc' := 87) (0) dX9_pay_86 rfl rfl ?_
          refine wp_v3 0 0 dX9_pay_87 ml_X9_167 hm (Nat.le_of_ble_eq_true rfl) (by omega) (by omega) ?_
          refine s_goes hM hF false false false (fun G25 hM25 hF25 => ?_)
          refine kt_v ?_
          obtain ⟨hm25, hA25, -⟩ := id hM25
          refine wp_ifF (pc' := 93) 95 dX9_pay_90 rfl rfl (cmpF rfl) ?_
          refine wp_iconst (pc' := 94) (0) dX9_pay_93 rfl rfl ?_
          refine wp_iret dX9_pay_94 rfl rfl ?_
          exact hX _ _ (by simp only [mcode, K_pay, h7, h28, h55, h79, Bool.false_eq_true, decide_true, decide_false, Bool.not_true, Bool.not_false, Bool.and_true, Bool.true_and, Bool.and_false, Bool.false_and, Bool.or_true, Bool.true_or, Bool.or_false, Bool.false_or, if_true, if_false, ite_true, ite_false]) (by decide) hM25 hF25
        · skip
          refine wp_iconst (pc' := 83) (1) dX9_pay_82 rfl rfl ?_
          refine wp_goto 87 dX9_pay_83 rfl ?_
          refine wp_v3 0 0 dX9_pay_87 ml_X9_167 hm (Nat.le_of_ble_eq_true rfl) (by omega) (by omega) ?_
          refine s_goes hM hF false false true (fun G26 hM26 hF26 => ?_)
          refine kt_v ?_
          obtain ⟨hm26, hA26, -⟩ := id hM26
          refine wp_ifF (pc' := 93) 95 dX9_pay_90 rfl rfl (cmpF rfl) ?_
          refine wp_iconst (pc' := 94) (0) dX9_pay_93 rfl rfl ?_
          refine wp_iret dX9_pay_94 rfl rfl ?_
          exact hX _ _ (by simp only [mcode, K_pay, h7, h28, h55, h79, Bool.false_eq_true, decide_true, decide_false, Bool.not_true, Bool.not_false, Bool.and_true, Bool.true_and, Bool.and_false, Bool.false_and, Bool.or_true, Bool.true_or, Bool.or_false, Bool.false_or, if_true, if_false, ite_true, ite_false]) (by decide) hM26 hF26
      · skip
        refine wp_load (pc' := 59) (j := 2) dX9_pay_58 rfl rfl rfl ?_
        refine wp_s1 0 0 dX9_pay_59 ml_X9_160 (Nat.le_of_ble_eq_true rfl) (by omega) (by omega) ?_
        refine s_isStreet _ ?_
        refine kt_v ?_
        refine wp_ifeqB (pc' := 65) 69 dX9_pay_62 rfl rfl (fun h62 => ?_) (fun h62 => ?_)
        · skip
          refine wp_iconst (pc' := 70) (0) dX9_pay_69 rfl rfl ?_
          refine wp_load (pc' := 72) (j := 5) dX9_pay_70 rfl rfl rfl ?_
          refine wp_load (pc' := 73) (j := 0) dX9_pay_72 rfl rfl rfl ?_
          refine wp_get (pc' := 76) dX9_pay_73 fl_X9_231 hm rfl rfl ?_
          refine wp_sipush (pc' := 79) (200) dX9_pay_76 rfl rfl ?_
          refine wp_icmp_ge (pc' := 82) 86 dX9_pay_79 rfl rfl (fun h79 => ?_) (fun h79 => ?_)
          · skip
            refine wp_iconst (pc' := 87) (0) dX9_pay_86 rfl rfl ?_
            refine wp_v3 0 0 dX9_pay_87 ml_X9_167 hm (Nat.le_of_ble_eq_true rfl) (by omega) (by omega) ?_
            refine s_goes hM hF false false false (fun G27 hM27 hF27 => ?_)
            refine kt_v ?_
            obtain ⟨hm27, hA27, -⟩ := id hM27
            refine wp_ifF (pc' := 93) 95 dX9_pay_90 rfl rfl (cmpF rfl) ?_
            refine wp_iconst (pc' := 94) (0) dX9_pay_93 rfl rfl ?_
            refine wp_iret dX9_pay_94 rfl rfl ?_
            exact hX _ _ (by simp only [mcode, K_pay, h7, h28, h55, h62, h79, Bool.false_eq_true, decide_true, decide_false, Bool.not_true, Bool.not_false, Bool.and_true, Bool.true_and, Bool.and_false, Bool.false_and, Bool.or_true, Bool.true_or, Bool.or_false, Bool.false_or, if_true, if_false, ite_true, ite_false]) (by decide) hM27 hF27
          · skip
            refine wp_iconst (pc' := 83) (1) dX9_pay_82 rfl rfl ?_
            refine wp_goto 87 dX9_pay_83 rfl ?_
            refine wp_v3 0 0 dX9_pay_87 ml_X9_167 hm (Nat.le_of_ble_eq_true rfl) (by omega) (by omega) ?_
            refine s_goes hM hF false false true (fun G28 hM28 hF28 => ?_)
            refine kt_v ?_
            obtain ⟨hm28, hA28, -⟩ := id hM28
            refine wp_ifF (pc' := 93) 95 dX9_pay_90 rfl rfl (cmpF rfl) ?_
            refine wp_iconst (pc' := 94) (0) dX9_pay_93 rfl rfl ?_
            refine wp_iret dX9_pay_94 rfl rfl ?_
            exact hX _ _ (by simp only [mcode, K_pay, h7, h28, h55, h62, h79, Bool.false_eq_true, decide_true, decide_false, Bool.not_true, Bool.not_false, Bool.and_true, Bool.true_and, Bool.and_false, Bool.false_and, Bool.or_true, Bool.true_or, Bool.or_false, Bool.false_or, if_true, if_false, ite_true, ite_false]) (by decide) hM28 hF28
        · skip
          refine wp_iconst (pc' := 66) (1) dX9_pay_65 rfl rfl ?_
          refine wp_goto 70 dX9_pay_66 rfl ?_
          refine wp_load (pc' := 72) (j := 5) dX9_pay_70 rfl rfl rfl ?_
          refine wp_load (pc' := 73) (j := 0) dX9_pay_72 rfl rfl rfl ?_
          refine wp_get (pc' := 76) dX9_pay_73 fl_X9_231 hm rfl rfl ?_
          refine wp_sipush (pc' := 79) (200) dX9_pay_76 rfl rfl ?_
          refine wp_icmp_ge (pc' := 82) 86 dX9_pay_79 rfl rfl (fun h79 => ?_) (fun h79 => ?_)
          · skip
            refine wp_iconst (pc' := 87) (0) dX9_pay_86 rfl rfl ?_
            refine wp_v3 0 0 dX9_pay_87 ml_X9_167 hm (Nat.le_of_ble_eq_true rfl) (by omega) (by omega) ?_
            refine s_goes hM hF true false false (fun G29 hM29 hF29 => ?_)
            refine kt_v ?_
            obtain ⟨hm29, hA29, -⟩ := id hM29
            refine wp_ifF (pc' := 93) 95 dX9_pay_90 rfl rfl (cmpF rfl) ?_
            refine wp_iconst (pc' := 94) (0) dX9_pay_93 rfl rfl ?_
            refine wp_iret dX9_pay_94 rfl rfl ?_
            exact hX _ _ (by simp only [mcode, K_pay, h7, h28, h55, h62, h79, Bool.false_eq_true, decide_true, decide_false, Bool.not_true, Bool.not_false, Bool.and_true, Bool.true_and, Bool.and_false, Bool.false_and, Bool.or_true, Bool.true_or, Bool.or_false, Bool.false_or, if_true, if_false, ite_true, ite_false]) (by decide) hM29 hF29
          · skip
            refine wp_iconst (pc' := 83) (1) dX9_pay_82 rfl rfl ?_
            refine wp_goto 87 dX9_pay_83 rfl ?_
            refine wp_v3 0 0 dX9_pay_87 ml_X9_167 hm (Nat.le_of_ble_eq_true rfl) (by omega) (by omega) ?_
            refine s_goes hM hF true false true (fun G30 hM30 hF30 => ?_)
            refine kt_v ?_
            obtain ⟨hm30, hA30, -⟩ := id hM30
            refine wp_ifF (pc' := 93) 95 dX9_pay_90 rfl rfl (cmpF rfl) ?_
            refine wp_iconst (pc' := 94) (0) dX9_pay_93 rfl rfl ?_
            refine wp_iret dX9_pay_94 rfl rfl ?_
            exact hX _ _ (by simp only [mcode, K_pay, h7, h28, h55, h62, h79, Bool.false_eq_true, decide_true, decide_false, Bool.not_true, Bool.not_false, Bool.and_true, Bool.true_and, Bool.and_false, Bool.false_and, Bool.or_true, Bool.true_or, Bool.or_false, Bool.false_or, if_true, if_false, ite_true, ite_false]) (by decide) hM30 hF30
    · skip
      refine wp_load (pc' := 33) (j := 4) dX9_pay_31 rfl rfl rfl ?_
      refine wp_iconst (pc' := 34) (1) dX9_pay_33 rfl rfl ?_
      refine wp_bipush (pc' := 36) (96) dX9_pay_34 rfl rfl ?_
      refine wp_s3 0 0 dX9_pay_36 ml_X9_153 (Nat.le_of_ble_eq_true rfl) (by omega) (by omega) ?_
      refine s_in _ _ _ ?_
      refine kt_v ?_
      refine wp_ifeqB (pc' := 42) 46 dX9_pay_39 rfl rfl (fun h39 => ?_) (fun h39 => ?_)
      · skip
        refine wp_iconst (pc' := 47) (0) dX9_pay_46 rfl rfl ?_
        refine wp_store (pc' := 49) (j := 5) (ls' := [_, _, _, _, _, _]) dX9_pay_47 rfl (Nat.le_of_ble_eq_true rfl) rfl rfl ?_
        refine wp_load (pc' := 50) (j := 0) dX9_pay_49 rfl rfl rfl ?_
        refine wp_load (pc' := 51) (j := 0) dX9_pay_50 rfl rfl rfl ?_
        refine wp_load (pc' := 52) (j := 1) dX9_pay_51 rfl rfl rfl ?_
        refine wp_v1 0 0 dX9_pay_52 ml_X9_219 hm (Nat.le_of_ble_eq_true rfl) (by omega) (by omega) ?_
        refine s_isCar hM _ ?_
        refine kt_v ?_
        refine wp_ifeqB (pc' := 58) 69 dX9_pay_55 rfl rfl (fun h55 => ?_) (fun h55 => ?_)
        · skip
          refine wp_iconst (pc' := 70) (0) dX9_pay_69 rfl rfl ?_
          refine wp_load (pc' := 72) (j := 5) dX9_pay_70 rfl rfl rfl ?_
          refine wp_load (pc' := 73) (j := 0) dX9_pay_72 rfl rfl rfl ?_
          refine wp_get (pc' := 76) dX9_pay_73 fl_X9_231 hm rfl rfl ?_
          refine wp_sipush (pc' := 79) (200) dX9_pay_76 rfl rfl ?_
          refine wp_icmp_ge (pc' := 82) 86 dX9_pay_79 rfl rfl (fun h79 => ?_) (fun h79 => ?_)
          · skip
            refine wp_iconst (pc' := 87) (0) dX9_pay_86 rfl rfl ?_
            refine wp_v3 0 0 dX9_pay_87 ml_X9_167 hm (Nat.le_of_ble_eq_true rfl) (by omega) (by omega) ?_
            refine s_goes hM hF false false false (fun G31 hM31 hF31 => ?_)
            refine kt_v ?_
            obtain ⟨hm31, hA31, -⟩ := id hM31
            refine wp_ifF (pc' := 93) 95 dX9_pay_90 rfl rfl (cmpF rfl) ?_
            refine wp_iconst (pc' := 94) (0) dX9_pay_93 rfl rfl ?_
            refine wp_iret dX9_pay_94 rfl rfl ?_
            exact hX _ _ (by simp only [mcode, K_pay, h7, h28, h39, h55, h79, Bool.false_eq_true, decide_true, decide_false, Bool.not_true, Bool.not_false, Bool.and_true, Bool.true_and, Bool.and_false, Bool.false_and, Bool.or_true, Bool.true_or, Bool.or_false, Bool.false_or, if_true, if_false, ite_true, ite_false]) (by decide) hM31 hF31
          · skip
            refine wp_iconst (pc' := 83) (1) dX9_pay_82 rfl rfl ?_
            refine wp_goto 87 dX9_pay_83 rfl ?_
            refine wp_v3 0 0 dX9_pay_87 ml_X9_167 hm (Nat.le_of_ble_eq_true rfl) (by omega) (by omega) ?_
            refine s_goes hM hF false false true (fun G32 hM32 hF32 => ?_)
            refine kt_v ?_
            obtain ⟨hm32, hA32, -⟩ := id hM32
            refine wp_ifF (pc' := 93) 95 dX9_pay_90 rfl rfl (cmpF rfl) ?_
            refine wp_iconst (pc' := 94) (0) dX9_pay_93 rfl rfl ?_
            refine wp_iret dX9_pay_94 rfl rfl ?_
            exact hX _ _ (by simp only [mcode, K_pay, h7, h28, h39, h55, h79, Bool.false_eq_true, decide_true, decide_false, Bool.not_true, Bool.not_false, Bool.and_true, Bool.true_and, Bool.and_false, Bool.false_and, Bool.or_true, Bool.true_or, Bool.or_false, Bool.false_or, if_true, if_false, ite_true, ite_false]) (by decide) hM32 hF32
        · skip
          refine wp_load (pc' := 59) (j := 2) dX9_pay_58 rfl rfl rfl ?_
          refine wp_s1 0 0 dX9_pay_59 ml_X9_160 (Nat.le_of_ble_eq_true rfl) (by omega) (by omega) ?_
          refine s_isStreet _ ?_
          refine kt_v ?_
          refine wp_ifeqB (pc' := 65) 69 dX9_pay_62 rfl rfl (fun h62 => ?_) (fun h62 => ?_)
          · skip
            refine wp_iconst (pc' := 70) (0) dX9_pay_69 rfl rfl ?_
            refine wp_load (pc' := 72) (j := 5) dX9_pay_70 rfl rfl rfl ?_
            refine wp_load (pc' := 73) (j := 0) dX9_pay_72 rfl rfl rfl ?_
            refine wp_get (pc' := 76) dX9_pay_73 fl_X9_231 hm rfl rfl ?_
            refine wp_sipush (pc' := 79) (200) dX9_pay_76 rfl rfl ?_
            refine wp_icmp_ge (pc' := 82) 86 dX9_pay_79 rfl rfl (fun h79 => ?_) (fun h79 => ?_)
            · skip
              refine wp_iconst (pc' := 87) (0) dX9_pay_86 rfl rfl ?_
              refine wp_v3 0 0 dX9_pay_87 ml_X9_167 hm (Nat.le_of_ble_eq_true rfl) (by omega) (by omega) ?_
              refine s_goes hM hF false false false (fun G33 hM33 hF33 => ?_)
              refine kt_v ?_
              obtain ⟨hm33, hA33, -⟩ := id hM33
              refine wp_ifF (pc' := 93) 95 dX9_pay_90 rfl rfl (cmpF rfl) ?_
              refine wp_iconst (pc' := 94) (0) dX9_pay_93 rfl rfl ?_
              refine wp_iret dX9_pay_94 rfl rfl ?_
              exact hX _ _ (by simp only [mcode, K_pay, h7, h28, h39, h55, h62, h79, Bool.false_eq_true, decide_true, decide_false, Bool.not_true, Bool.not_false, Bool.and_true, Bool.true_and, Bool.and_false, Bool.false_and, Bool.or_true, Bool.true_or, Bool.or_false, Bool.false_or, if_true, if_false, ite_true, ite_false]) (by decide) hM33 hF33
            · skip
              refine wp_iconst (pc' := 83) (1) dX9_pay_82 rfl rfl ?_
              refine wp_goto 87 dX9_pay_83 rfl ?_
              refine wp_v3 0 0 dX9_pay_87 ml_X9_167 hm (Nat.le_of_ble_eq_true rfl) (by omega) (by omega) ?_
              refine s_goes hM hF false false true (fun G34 hM34 hF34 => ?_)
              refine kt_v ?_
              obtain ⟨hm34, hA34, -⟩ := id hM34
              refine wp_ifF (pc' := 93) 95 dX9_pay_90 rfl rfl (cmpF rfl) ?_
              refine wp_iconst (pc' := 94) (0) dX9_pay_93 rfl rfl ?_
              refine wp_iret dX9_pay_94 rfl rfl ?_
              exact hX _ _ (by simp only [mcode, K_pay, h7, h28, h39, h55, h62, h79, Bool.false_eq_true, decide_true, decide_false, Bool.not_true, Bool.not_false, Bool.and_true, Bool.true_and, Bool.and_false, Bool.false_and, Bool.or_true, Bool.true_or, Bool.or_false, Bool.false_or, if_true, if_false, ite_true, ite_false]) (by decide) hM34 hF34
          · skip
            refine wp_iconst (pc' := 66) (1) dX9_pay_65 rfl rfl ?_
            refine wp_goto 70 dX9_pay_66 rfl ?_
            refine wp_load (pc' := 72) (j := 5) dX9_pay_70 rfl rfl rfl ?_
            refine wp_load (pc' := 73) (j := 0) dX9_pay_72 rfl rfl rfl ?_
            refine wp_get (pc' := 76) dX9_pay_73 fl_X9_231 hm rfl rfl ?_
            refine wp_sipush (pc' := 79) (200) dX9_pay_76 rfl rfl ?_
            refine wp_icmp_ge (pc' := 82) 86 dX9_pay_79 rfl rfl (fun h79 => ?_) (fun h79 => ?_)
            · skip
              refine wp_iconst (pc' := 87) (0) dX9_pay_86 rfl rfl ?_
              refine wp_v3 0 0 dX9_pay_87 ml_X9_167 hm (Nat.le_of_ble_eq_true rfl) (by omega) (by omega) ?_
              refine s_goes hM hF true false false (fun G35 hM35 hF35 => ?_)
              refine kt_v ?_
              obtain ⟨hm35, hA35, -⟩ := id hM35
              refine wp_ifF (pc' := 93) 95 dX9_pay_90 rfl rfl (cmpF rfl) ?_
              refine wp_iconst (pc' := 94) (0) dX9_pay_93 rfl rfl ?_
              refine wp_iret dX9_pay_94 rfl rfl ?_
              exact hX _ _ (by simp only [mcode, K_pay, h7, h28, h39, h55, h62, h79, Bool.false_eq_true, decide_true, decide_false, Bool.not_true, Bool.not_false, Bool.and_true, Bool.true_and, Bool.and_false, Bool.false_and, Bool.or_true, Bool.true_or, Bool.or_false, Bool.false_or, if_true, if_false, ite_true, ite_false]) (by decide) hM35 hF35
            · skip
              refine wp_iconst (pc' := 83) (1) dX9_pay_82 rfl rfl ?_
              refine wp_goto 87 dX9_pay_83 rfl ?_
              refine wp_v3 0 0 dX9_pay_87 ml_X9_167 hm (Nat.le_of_ble_eq_true rfl) (by omega) (by omega) ?_
              refine s_goes hM hF true false true (fun G36 hM36 hF36 => ?_)
              refine kt_v ?_
              obtain ⟨hm36, hA36, -⟩ := id hM36
              refine wp_ifF (pc' := 93) 95 dX9_pay_90 rfl rfl (cmpF rfl) ?_
              refine wp_iconst (pc' := 94) (0) dX9_pay_93 rfl rfl ?_
              refine wp_iret dX9_pay_94 rfl rfl ?_
              exact hX _ _ (by simp only [mcode, K_pay, h7, h28, h39, h55, h62, h79, Bool.false_eq_true, decide_true, decide_false, Bool.not_true, Bool.not_false, Bool.and_true, Bool.true_and, Bool.and_false, Bool.false_and, Bool.or_true, Bool.true_or, Bool.or_false, Bool.false_or, if_true, if_false, ite_true, ite_false]) (by decide) hM36 hF36
      · skip
        refine wp_iconst (pc' := 43) (1) dX9_pay_42 rfl rfl ?_
        refine wp_goto 47 dX9_pay_43 rfl ?_
        refine wp_store (pc' := 49) (j := 5) (ls' := [_, _, _, _, _, _]) dX9_pay_47 rfl (Nat.le_of_ble_eq_true rfl) rfl rfl ?_
        refine wp_load (pc' := 50) (j := 0) dX9_pay_49 rfl rfl rfl ?_
        refine wp_load (pc' := 51) (j := 0) dX9_pay_50 rfl rfl rfl ?_
        refine wp_load (pc' := 52) (j := 1) dX9_pay_51 rfl rfl rfl ?_
        refine wp_v1 0 0 dX9_pay_52 ml_X9_219 hm (Nat.le_of_ble_eq_true rfl) (by omega) (by omega) ?_
        refine s_isCar hM _ ?_
        refine kt_v ?_
        refine wp_ifeqB (pc' := 58) 69 dX9_pay_55 rfl rfl (fun h55 => ?_) (fun h55 => ?_)
        · skip
          refine wp_iconst (pc' := 70) (0) dX9_pay_69 rfl rfl ?_
          refine wp_load (pc' := 72) (j := 5) dX9_pay_70 rfl rfl rfl ?_
          refine wp_load (pc' := 73) (j := 0) dX9_pay_72 rfl rfl rfl ?_
          refine wp_get (pc' := 76) dX9_pay_73 fl_X9_231 hm rfl rfl ?_
          refine wp_sipush (pc' := 79) (200) dX9_pay_76 rfl rfl ?_
          refine wp_icmp_ge (pc' := 82) 86 dX9_pay_79 rfl rfl (fun h79 => ?_) (fun h79 => ?_)
          · skip
            refine wp_iconst (pc' := 87) (0) dX9_pay_86 rfl rfl ?_
            refine wp_v3 0 0 dX9_pay_87 ml_X9_167 hm (Nat.le_of_ble_eq_true rfl) (by omega) (by omega) ?_
            refine s_goes hM hF false true false (fun G37 hM37 hF37 => ?_)
            refine kt_v ?_
            obtain ⟨hm37, hA37, -⟩ := id hM37
            refine wp_ifF (pc' := 93) 95 dX9_pay_90 rfl rfl (cmpF rfl) ?_
            refine wp_iconst (pc' := 94) (0) dX9_pay_93 rfl rfl ?_
            refine wp_iret dX9_pay_94 rfl rfl ?_
            exact hX _ _ (by simp only [mcode, K_pay, h7, h28, h39, h55, h79, Bool.false_eq_true, decide_true, decide_false, Bool.not_true, Bool.not_false, Bool.and_true, Bool.true_and, Bool.and_false, Bool.false_and, Bool.or_true, Bool.true_or, Bool.or_false, Bool.false_or, if_true, if_false, ite_true, ite_false]) (by decide) hM37 hF37
          · skip
            refine wp_iconst (pc' := 83) (1) dX9_pay_82 rfl rfl ?_
            refine wp_goto 87 dX9_pay_83 rfl ?_
            refine wp_v3 0 0 dX9_pay_87 ml_X9_167 hm (Nat.le_of_ble_eq_true rfl) (by omega) (by omega) ?_
            refine s_goes hM hF false true true (fun G38 hM38 hF38 => ?_)
            refine kt_v ?_
            obtain ⟨hm38, hA38, -⟩ := id hM38
            refine wp_ifF (pc' := 93) 95 dX9_pay_90 rfl rfl (cmpF rfl) ?_
            refine wp_iconst (pc' := 94) (0) dX9_pay_93 rfl rfl ?_
            refine wp_iret dX9_pay_94 rfl rfl ?_
            exact hX _ _ (by simp only [mcode, K_pay, h7, h28, h39, h55, h79, Bool.false_eq_true, decide_true, decide_false, Bool.not_true, Bool.not_false, Bool.and_true, Bool.true_and, Bool.and_false, Bool.false_and, Bool.or_true, Bool.true_or, Bool.or_false, Bool.false_or, if_true, if_false, ite_true, ite_false]) (by decide) hM38 hF38
        · skip
          refine wp_load (pc' := 59) (j := 2) dX9_pay_58 rfl rfl rfl ?_
          refine wp_s1 0 0 dX9_pay_59 ml_X9_160 (Nat.le_of_ble_eq_true rfl) (by omega) (by omega) ?_
          refine s_isStreet _ ?_
          refine kt_v ?_
          refine wp_ifeqB (pc' := 65) 69 dX9_pay_62 rfl rfl (fun h62 => ?_) (fun h62 => ?_)
          · skip
            refine wp_iconst (pc' := 70) (0) dX9_pay_69 rfl rfl ?_
            refine wp_load (pc' := 72) (j := 5) dX9_pay_70 rfl rfl rfl ?_
            refine wp_load (pc' := 73) (j := 0) dX9_pay_72 rfl rfl rfl ?_
            refine wp_get (pc' := 76) dX9_pay_73 fl_X9_231 hm rfl rfl ?_
            refine wp_sipush (pc' := 79) (200) dX9_pay_76 rfl rfl ?_
            refine wp_icmp_ge (pc' := 82) 86 dX9_pay_79 rfl rfl (fun h79 => ?_) (fun h79 => ?_)
            · skip
              refine wp_iconst (pc' := 87) (0) dX9_pay_86 rfl rfl ?_
              refine wp_v3 0 0 dX9_pay_87 ml_X9_167 hm (Nat.le_of_ble_eq_true rfl) (by omega) (by omega) ?_
              refine s_goes hM hF false true false (fun G39 hM39 hF39 => ?_)
              refine kt_v ?_
              obtain ⟨hm39, hA39, -⟩ := id hM39
              refine wp_ifF (pc' := 93) 95 dX9_pay_90 rfl rfl (cmpF rfl) ?_
              refine wp_iconst (pc' := 94) (0) dX9_pay_93 rfl rfl ?_
              refine wp_iret dX9_pay_94 rfl rfl ?_
              exact hX _ _ (by simp only [mcode, K_pay, h7, h28, h39, h55, h62, h79, Bool.false_eq_true, decide_true, decide_false, Bool.not_true, Bool.not_false, Bool.and_true, Bool.true_and, Bool.and_false, Bool.false_and, Bool.or_true, Bool.true_or, Bool.or_false, Bool.false_or, if_true, if_false, ite_true, ite_false]) (by decide) hM39 hF39
            · skip
              refine wp_iconst (pc' := 83) (1) dX9_pay_82 rfl rfl ?_
              refine wp_goto 87 dX9_pay_83 rfl ?_
              refine wp_v3 0 0 dX9_pay_87 ml_X9_167 hm (Nat.le_of_ble_eq_true rfl) (by omega) (by omega) ?_
              refine s_goes hM hF false true true (fun G40 hM40 hF40 => ?_)
              refine kt_v ?_
              obtain ⟨hm40, hA40, -⟩ := id hM40
              refine wp_ifF (pc' := 93) 95 dX9_pay_90 rfl rfl (cmpF rfl) ?_
              refine wp_iconst (pc' := 94) (0) dX9_pay_93 rfl rfl ?_
              refine wp_iret dX9_pay_94 rfl rfl ?_
              exact hX _ _ (by simp only [mcode, K_pay, h7, h28, h39, h55, h62, h79, Bool.false_eq_true, decide_true, decide_false, Bool.not_true, Bool.not_false, Bool.and_true, Bool.true_and, Bool.and_false, Bool.false_and, Bool.or_true, Bool.true_or, Bool.or_false, Bool.false_or, if_true, if_false, ite_true, ite_false]) (by decide) hM40 hF40
          · skip
            refine wp_iconst (pc' := 66) (1) dX9_pay_65 rfl rfl ?_
            refine wp_goto 70 dX9_pay_66 rfl ?_
            refine wp_load (pc' := 72) (j := 5) dX9_pay_70 rfl rfl rfl ?_
            refine wp_load (pc' := 73) (j := 0) dX9_pay_72 rfl rfl rfl ?_
            refine wp_get (pc' := 76) dX9_pay_73 fl_X9_231 hm rfl rfl ?_
            refine wp_sipush (pc' := 79) (200) dX9_pay_76 rfl rfl ?_
            refine wp_icmp_ge (pc' := 82) 86 dX9_pay_79 rfl rfl (fun h79 => ?_) (fun h79 => ?_)
            · skip
              refine wp_iconst (pc' := 87) (0) dX9_pay_86 rfl rfl ?_
              refine wp_v3 0 0 dX9_pay_87 ml_X9_167 hm (Nat.le_of_ble_eq_true rfl) (by omega) (by omega) ?_
              refine s_goes hM hF true true false (fun G41 hM41 hF41 => ?_)
              refine kt_v ?_
              obtain ⟨hm41, hA41, -⟩ := id hM41
              refine wp_ifF (pc' := 93) 95 dX9_pay_90 rfl rfl (cmpF rfl) ?_
              refine wp_iconst (pc' := 94) (0) dX9_pay_93 rfl rfl ?_
              refine wp_iret dX9_pay_94 rfl rfl ?_
              exact hX _ _ (by simp only [mcode, K_pay, h7, h28, h39, h55, h62, h79, Bool.false_eq_true, decide_true, decide_false, Bool.not_true, Bool.not_false, Bool.and_true, Bool.true_and, Bool.and_false, Bool.false_and, Bool.or_true, Bool.true_or, Bool.or_false, Bool.false_or, if_true, if_false, ite_true, ite_false]) (by decide) hM41 hF41
            · skip
              refine wp_iconst (pc' := 83) (1) dX9_pay_82 rfl rfl ?_
              refine wp_goto 87 dX9_pay_83 rfl ?_
              refine wp_v3 0 0 dX9_pay_87 ml_X9_167 hm (Nat.le_of_ble_eq_true rfl) (by omega) (by omega) ?_
              refine s_goes hM hF true true true (fun G42 hM42 hF42 => ?_)
              refine kt_v ?_
              replace hM42 : MH m aM own (zz σ) G42 := hM42
              obtain ⟨hm42, hA42, -⟩ := id hM42
              refine wp_ifT 95 dX9_pay_90 rfl (cmpT rfl) ?_
              obtain ⟨b, hb, rfl⟩ := st_nI h62
              have hlt : ny < 200 := by
                rw [hy] at h79
                rcases Nat.lt_or_ge ny 200 with q | q
                · exact q
                · exact absurd (show (200 : Int32) ≤ nI ny from nI_le q (by omega)) h79
              refine wp_load (pc' := 96) (j := 0) dX9_pay_95 rfl rfl rfl ?_
              refine wp_get (pc' := 99) dX9_pay_96 fl_X9_89 hm42 rfl rfl ?_
              refine wp_load (pc' := 100) (j := 0) dX9_pay_99 rfl rfl rfl ?_
              refine wp_get (pc' := 103) dX9_pay_100 fl_X9_231 hm42 rfl rfl ?_
              refine wp_load (pc' := 104) (j := 1) dX9_pay_103 rfl rfl rfl ?_
              refine wp_mia (pc' := 105) hM42 hF42 36 (by decide) (by decide) dX9_pay_104 hy (show ny < 200 from hlt) (by decide) rfl (fun G43 hM43 hF43 => ?_)
              obtain ⟨hm43, hA43, -⟩ := id hM43
              refine wp_load (pc' := 106) (j := 0) dX9_pay_105 rfl rfl rfl ?_
              refine wp_get (pc' := 109) dX9_pay_106 fl_X9_92 hm43 rfl rfl ?_
              refine wp_load (pc' := 110) (j := 0) dX9_pay_109 rfl rfl rfl ?_
              refine wp_get (pc' := 113) dX9_pay_110 fl_X9_231 hm43 rfl rfl ?_
              refine wp_load (pc' := 114) (j := 2) dX9_pay_113 rfl rfl rfl ?_
              refine wp_mia (pc' := 115) hM43 hF43 37 (by decide) (by decide) dX9_pay_114 hy (show ny < 200 from hlt) (by decide) rfl (fun G44 hM44 hF44 => ?_)
              obtain ⟨hm44, hA44, -⟩ := id hM44
              refine wp_load (pc' := 116) (j := 0) dX9_pay_115 rfl rfl rfl ?_
              refine wp_get (pc' := 119) dX9_pay_116 fl_X9_95 hm44 rfl rfl ?_
              refine wp_load (pc' := 120) (j := 0) dX9_pay_119 rfl rfl rfl ?_
              refine wp_get (pc' := 123) dX9_pay_120 fl_X9_231 hm44 rfl rfl ?_
              refine wp_load (pc' := 124) (j := 3) dX9_pay_123 rfl rfl rfl ?_
              refine wp_mia (pc' := 125) hM44 hF44 38 (by decide) (by decide) dX9_pay_124 hy (show ny < 200 from hlt) (by decide) rfl (fun G45 hM45 hF45 => ?_)
              obtain ⟨hm45, hA45, -⟩ := id hM45
              refine wp_load (pc' := 126) (j := 0) dX9_pay_125 rfl rfl rfl ?_
              refine wp_get (pc' := 129) dX9_pay_126 fl_X9_98 hm45 rfl rfl ?_
              refine wp_load (pc' := 130) (j := 0) dX9_pay_129 rfl rfl rfl ?_
              refine wp_get (pc' := 133) dX9_pay_130 fl_X9_231 hm45 rfl rfl ?_
              refine wp_load (pc' := 135) (j := 4) dX9_pay_133 rfl rfl rfl ?_
              refine wp_mia (pc' := 136) hM45 hF45 39 (by decide) (by decide) dX9_pay_135 hy (show ny < 200 from hlt) (by decide) rfl (fun G46 hM46 hF46 => ?_)
              obtain ⟨hm46, hA46, -⟩ := id hM46
              refine wp_load (pc' := 137) (j := 0) dX9_pay_136 rfl rfl rfl ?_
              refine wp_dup (pc' := 138) dX9_pay_137 rfl rfl ?_
              refine wp_get (pc' := 141) dX9_pay_138 fl_X9_231 hm46 rfl rfl ?_
              refine wp_iconst (pc' := 142) (1) dX9_pay_141 rfl rfl ?_
              refine wp_pure (pc' := 143) dX9_pay_142 rfl rfl ?_
              refine wp_mput (pc' := 146) hM46 hF46 dX9_pay_143 fl_X9_231 rfl (by decide) rfl (fun G47 hM47 hF47 => ?_)
              obtain ⟨hm47, hA47, -⟩ := id hM47
              refine wp_load (pc' := 147) (j := 0) dX9_pay_146 rfl rfl rfl ?_
              refine wp_get (pc' := 150) dX9_pay_147 fl_X9_137 hm47 rfl rfl ?_
              refine wp_load (pc' := 151) (j := 2) dX9_pay_150 rfl rfl rfl ?_
              refine wp_dup2 (pc' := 152) dX9_pay_151 rfl rfl rfl ?_
              refine wp_iald (pc' := 153) dX9_pay_152 (hA47 53 (by decide)) rfl (show b < 4 from hb) (by decide) rfl ?_
              refine wp_load (pc' := 155) (j := 4) dX9_pay_153 rfl rfl rfl ?_
              refine wp_load (pc' := 156) (j := 0) dX9_pay_155 rfl rfl rfl ?_
              refine wp_get (pc' := 159) dX9_pay_156 fl_X9_134 hm47 rfl rfl ?_
              refine wp_load (pc' := 160) (j := 2) dX9_pay_159 rfl rfl rfl ?_
              refine wp_iald (pc' := 161) dX9_pay_160 (hA47 52 (by decide)) rfl (show b < 4 from hb) (by decide) rfl ?_
              refine wp_pure (pc' := 162) dX9_pay_161 rfl rfl ?_
              refine wp_pure (pc' := 163) dX9_pay_162 rfl rfl ?_
              refine wp_mia (pc' := 164) hM47 hF47 53 (by decide) (by decide) dX9_pay_163 rfl (show b < 4 from hb) (by decide) rfl (fun G48 hM48 hF48 => ?_)
              obtain ⟨hm48, hA48, -⟩ := id hM48
              refine wp_load (pc' := 166) (j := 4) dX9_pay_164 rfl rfl rfl ?_
              refine wp_load (pc' := 167) (j := 0) dX9_pay_166 rfl rfl rfl ?_
              refine wp_get (pc' := 170) dX9_pay_167 fl_X9_134 hm48 rfl rfl ?_
              refine wp_load (pc' := 171) (j := 2) dX9_pay_170 rfl rfl rfl ?_
              refine wp_iald (pc' := 172) dX9_pay_171 (hA48 52 (by decide)) rfl (show b < 4 from hb) (by decide) rfl ?_
              refine wp_pure (pc' := 173) dX9_pay_172 rfl rfl ?_
              refine wp_iret dX9_pay_173 rfl rfl ?_
              exact hT (by simp only [mcode, K_pay, h7, h28, h39, h55, h62, h79, Bool.false_eq_true, decide_true, decide_false, Bool.not_true, Bool.not_false, Bool.and_true, Bool.true_and, Bool.and_false, Bool.false_and, Bool.or_true, Bool.true_or, Bool.or_false, Bool.false_or, if_true, if_false, ite_true, ite_false]) b hb rfl hlt _ hM48 hF48

def CarOK (σ : MS) (i : Nat) : Prop := ∃ L o, σ.2.1 23 i = nI L ∧ L ≤ 60 ∧ 60 * σ.2.1 25 i + σ.2.1 26 i = nI o ∧ o + L ≤ 240
theorem judNow_eq {σ : MS} {i L n np ny o : Nat} (hs : σ.1 7 = nI n) (hs30 : n ≤ 30) (hp : σ.1 29 = nI np) (hp40 : np ≤ 40) (hy : σ.1 35 = nI ny) (hy200 : ny ≤ 200) (hL : σ.2.1 23 i = nI L) (hL12 : L ≤ 60) (ho : 60 * σ.2.1 25 i + σ.2.1 26 i = nI o) (ho240 : o + L ≤ 240) : judNow σ i = judNF σ i L n np ny o := by
  unfold judNow
  rw [hs, hp, hy, hL, ho, ix_nI (by omega), ix_nI (by omega), ix_nI (by omega), ix_nI (by omega), ix_nI (by omega)]
set_option maxRecDepth 20000 in
set_option maxHeartbeats 2000000 in
theorem s_judNow {E : XE} {d mc ms : Nat} {G : HP} {P : Ps} {m : Nat} {aM own : Nat → Nat} {σ : MS} (hM : MH m aM own σ G) {n : Nat} (hs : σ.1 7 = nI n) (hs30 : n ≤ 30) {np : Nat} (hp : σ.1 29 = nI np) (hp40 : np ≤ 40) {ny : Nat} (hy : σ.1 35 = nI ny) (hy200 : ny ≤ 200) {i : Nat} (hi : i < 30) (hC : CarOK σ i) (hP : P (.inl (some (.int (judNow σ i)))) G) : Sp E (d + 6) yX9_judgedNow mc ms [.ref m, .int (nI i)] G P := by
  obtain ⟨L, o, hL, hL12, ho, ho240⟩ := hC
  rw [judNow_eq hs hs30 hp hp40 hy hy200 hL hL12 ho ho240] at hP
  exact s_judgedNow hM hs hs30 hp hp40 hy hy200 hi hL hL12 ho ho240 hP

set_option maxRecDepth 20000 in
set_option maxHeartbeats 2000000 in
theorem p_judge {E : XE} {d mc ms : Nat} {G : HP} {P : Ps} {m : Nat} {aM own : Nat → Nat} {σ : MS} (hM : MH m aM own σ G) {n : Nat} (hs : σ.1 7 = nI n) (hs30 : n ≤ 30) {nc : Nat} (hc : σ.1 22 = nI nc) (hc30 : nc ≤ 30) {np : Nat} (hp : σ.1 29 = nI np) (hp40 : np ≤ 40) {ny : Nat} (hy : σ.1 35 = nI ny) (hy200 : ny ≤ 200) (hW : ∀ i, i < nc → ¬ σ.2.1 25 i = -1 → CarOK σ i) {i : Int32} (hX : ∀ c G', c = K_car1 σ i → c ≠ 0 → MH m aM own (msc σ 56 c) G' → Fr1 own G G' → P (.inl (some (.int 0))) G') (hT : K_car1 σ i = 0 → ∀ j, j < nc → i = nI j → ∀ G', MH m aM own (zz σ) G' → Fr1 own G G' → P (.inl (some (.int (if σ.2.1 25 j = -1 then -1 else judNow (zz σ) j)))) G') : Sp E (d + 7) yX9_judge mc ms [.ref m, .int i] G P := by
  have hF : Fr1 own G G := fr1_rf
  obtain ⟨hm, hA, -⟩ := id hM
  refine sp_intro bd_X9_judge (v1_all rfl) (Nat.le_of_ble_eq_true rfl) ?_
  change WX _ _ _ _ _ _ 0 [some (.ref m), some (.int i)] [] _ 0 0
  refine wp_load (pc' := 1) (j := 0) dX9_judge_0 rfl rfl rfl ?_
  refine wp_load (pc' := 2) (j := 0) dX9_judge_1 rfl rfl rfl ?_
  refine wp_load (pc' := 3) (j := 1) dX9_judge_2 rfl rfl rfl ?_
  refine wp_v1 0 0 dX9_judge_3 ml_X9_219 hm (Nat.le_of_ble_eq_true rfl) (by omega) (by omega) ?_
  refine s_isCar hM _ ?_
  refine kt_v ?_
  rcases hb : isCarB σ i with _ | _
  · skip
    refine wp_iconst (pc' := 7) (1) dX9_judge_6 rfl rfl ?_
    refine wp_iconst (pc' := 8) (1) dX9_judge_7 rfl rfl ?_
    refine wp_v3 0 0 dX9_judge_8 ml_X9_167 hm (Nat.le_of_ble_eq_true rfl) (by omega) (by omega) ?_
    refine s_goes hM hF false true true (fun G1 hM1 hF1 => ?_)
    refine kt_v ?_
    obtain ⟨hm1, hA1, -⟩ := id hM1
    refine wp_ifF (pc' := 14) 16 dX9_judge_11 rfl rfl (cmpF rfl) ?_
    refine wp_iconst (pc' := 15) (0) dX9_judge_14 rfl rfl ?_
    refine wp_iret dX9_judge_15 rfl rfl ?_
    exact hX _ _ (by simp only [mcode, K_car1, hb, Bool.false_eq_true, decide_true, decide_false, Bool.not_true, Bool.not_false, Bool.and_true, Bool.true_and, Bool.and_false, Bool.false_and, Bool.or_true, Bool.true_or, Bool.or_false, Bool.false_or, if_true, if_false, ite_true, ite_false]) (by decide) hM1 hF1
  · skip
    obtain ⟨j, hj, rfl⟩ := clt_nI (n := nc) (by rw [← hc]; exact hb) (by omega)
    have hjl : j < 30 := by omega
    have hix : ix (nI j) = j := ix_nI (by omega)
    refine wp_iconst (pc' := 7) (1) dX9_judge_6 rfl rfl ?_
    refine wp_iconst (pc' := 8) (1) dX9_judge_7 rfl rfl ?_
    refine wp_v3 0 0 dX9_judge_8 ml_X9_167 hm (Nat.le_of_ble_eq_true rfl) (by omega) (by omega) ?_
    refine s_goes hM hF true true true (fun G2 hM2 hF2 => ?_)
    refine kt_v ?_
    replace hM2 : MH m aM own (zz σ) G2 := hM2
    obtain ⟨hm2, hA2, -⟩ := id hM2
    refine wp_ifT 16 dX9_judge_11 rfl (cmpT rfl) ?_
    refine wp_load (pc' := 17) (j := 0) dX9_judge_16 rfl rfl rfl ?_
    refine wp_get (pc' := 20) dX9_judge_17 fl_X9_62 hm2 rfl rfl ?_
    refine wp_load (pc' := 21) (j := 1) dX9_judge_20 rfl rfl rfl ?_
    refine wp_iald (pc' := 22) dX9_judge_21 (hA2 25 (by decide)) rfl hjl (by decide) rfl ?_
    refine wp_iconst (pc' := 23) (-1) dX9_judge_22 rfl rfl ?_
    refine wp_icmp_ne (pc' := 26) 30 dX9_judge_23 rfl rfl (fun h23 => ?_) (fun h23 => ?_)
    · skip
      have h23x : ¬ σ.2.1 25 j = -1 := h23
      refine wp_load (pc' := 31) (j := 0) dX9_judge_30 rfl rfl rfl ?_
      refine wp_load (pc' := 32) (j := 1) dX9_judge_31 rfl rfl rfl ?_
      refine wp_v1 0 0 dX9_judge_32 ml_X9_247 hm2 (Nat.le_of_ble_eq_true rfl) (by omega) (by omega) ?_
      refine s_judNow hM2 hs hs30 hp hp40 hy hy200 hjl (hW j hj h23) ?_
      refine kt_v ?_
      refine wp_iret dX9_judge_35 rfl rfl ?_
      have hTT := hT (by simp only [mcode, K_car1, hb, h23, Bool.false_eq_true, decide_true, decide_false, Bool.not_true, Bool.not_false, Bool.and_true, Bool.true_and, Bool.and_false, Bool.false_and, Bool.or_true, Bool.true_or, Bool.or_false, Bool.false_or, if_true, if_false, ite_true, ite_false]) j hj rfl _ hM2 hF2
      simpa only [h23x, Bool.false_eq_true, decide_true, decide_false, Bool.not_true, Bool.not_false, Bool.and_true, Bool.true_and, Bool.and_false, Bool.false_and, Bool.or_true, Bool.true_or, Bool.or_false, Bool.false_or, if_true, if_false, ite_true, ite_false] using hTT
    · skip
      have h23x : σ.2.1 25 j = -1 := h23
      refine wp_iconst (pc' := 27) (-1) dX9_judge_26 rfl rfl ?_
      refine wp_goto 35 dX9_judge_27 rfl ?_
      refine wp_iret dX9_judge_35 rfl rfl ?_
      have hTT := hT (by simp only [mcode, K_car1, hb, h23, Bool.false_eq_true, decide_true, decide_false, Bool.not_true, Bool.not_false, Bool.and_true, Bool.true_and, Bool.and_false, Bool.false_and, Bool.or_true, Bool.true_or, Bool.or_false, Bool.false_or, if_true, if_false, ite_true, ite_false]) j hj rfl _ hM2 hF2
      simpa only [h23x, Bool.false_eq_true, decide_true, decide_false, Bool.not_true, Bool.not_false, Bool.and_true, Bool.true_and, Bool.and_false, Bool.false_and, Bool.or_true, Bool.true_or, Bool.or_false, Bool.false_or, if_true, if_false, ite_true, ite_false] using hTT

set_option maxRecDepth 20000 in
set_option maxHeartbeats 2000000 in
theorem s_gives {E : XE} {d mc ms : Nat} {G : HP} {P : Ps} {m : Nat} {aM own : Nat → Nat} {σ : MS} (hM : MH m aM own σ G) {G0 : HP} (hF : Fr1 own G0 G) {nf : Nat} (hf : σ.1 40 = nI nf) (hf60 : nf < 60) {i : Nat} (hi : i < 30) {a : Nat} (ha : a < 4) (hsa : σ.2.1 25 i = nI a) {w : Int32} (hP : ∀ G', MH m aM own (givF σ i w) G' → Fr1 own G0 G' → P (.inl none) G') : Sp E (d + 1) yX9_gives mc ms [.ref m, .int (nI i), .int w] G P := by
  have e1 : ix (σ.1 40) = nf := by rw [hf]; exact ix_nI (by omega)
  have e2 : ix (σ.2.1 25 i) = a := by rw [hsa]; exact ix_nI (by omega)
  simp only [givF, e1, e2] at hP
  obtain ⟨hm, hA, -⟩ := id hM
  refine sp_intro bd_X9_gives (v1_all rfl) (Nat.le_of_ble_eq_true rfl) ?_
  change WX _ _ _ _ _ _ 0 [some (.ref m), some (.int (nI i)), some (.int w)] [] _ 0 0
  refine wp_load (pc' := 1) (j := 0) dX9_gives_0 rfl rfl rfl ?_
  refine wp_get (pc' := 4) dX9_gives_1 fl_X9_101 hm rfl rfl ?_
  refine wp_load (pc' := 5) (j := 0) dX9_gives_4 rfl rfl rfl ?_
  refine wp_get (pc' := 8) dX9_gives_5 fl_X9_251 hm rfl rfl ?_
  refine wp_load (pc' := 9) (j := 1) dX9_gives_8 rfl rfl rfl ?_
  refine wp_mia (pc' := 10) hM hF 41 (by decide) (by decide) dX9_gives_9 hf (show nf < 60 from hf60) (by decide) rfl (fun G1 hM1 hF1 => ?_)
  obtain ⟨hm1, hA1, -⟩ := id hM1
  refine wp_load (pc' := 11) (j := 0) dX9_gives_10 rfl rfl rfl ?_
  refine wp_get (pc' := 14) dX9_gives_11 fl_X9_104 hm1 rfl rfl ?_
  refine wp_load (pc' := 15) (j := 0) dX9_gives_14 rfl rfl rfl ?_
  refine wp_get (pc' := 18) dX9_gives_15 fl_X9_251 hm1 rfl rfl ?_
  refine wp_load (pc' := 19) (j := 0) dX9_gives_18 rfl rfl rfl ?_
  refine wp_get (pc' := 22) dX9_gives_19 fl_X9_62 hm1 rfl rfl ?_
  refine wp_load (pc' := 23) (j := 1) dX9_gives_22 rfl rfl rfl ?_
  refine wp_iald (pc' := 24) dX9_gives_23 (hA1 25 (by decide)) rfl hi (by decide) rfl ?_
  refine wp_mia (pc' := 25) hM1 hF1 42 (by decide) (by decide) dX9_gives_24 hf (show nf < 60 from hf60) (by decide) rfl (fun G2 hM2 hF2 => ?_)
  obtain ⟨hm2, hA2, -⟩ := id hM2
  refine wp_load (pc' := 26) (j := 0) dX9_gives_25 rfl rfl rfl ?_
  refine wp_get (pc' := 29) dX9_gives_26 fl_X9_107 hm2 rfl rfl ?_
  refine wp_load (pc' := 30) (j := 0) dX9_gives_29 rfl rfl rfl ?_
  refine wp_get (pc' := 33) dX9_gives_30 fl_X9_251 hm2 rfl rfl ?_
  refine wp_load (pc' := 34) (j := 0) dX9_gives_33 rfl rfl rfl ?_
  refine wp_get (pc' := 37) dX9_gives_34 fl_X9_65 hm2 rfl rfl ?_
  refine wp_load (pc' := 38) (j := 1) dX9_gives_37 rfl rfl rfl ?_
  refine wp_iald (pc' := 39) dX9_gives_38 (hA2 26 (by decide)) rfl hi (by decide) rfl ?_
  refine wp_mia (pc' := 40) hM2 hF2 43 (by decide) (by decide) dX9_gives_39 hf (show nf < 60 from hf60) (by decide) rfl (fun G3 hM3 hF3 => ?_)
  obtain ⟨hm3, hA3, -⟩ := id hM3
  refine wp_load (pc' := 41) (j := 0) dX9_gives_40 rfl rfl rfl ?_
  refine wp_get (pc' := 44) dX9_gives_41 fl_X9_110 hm3 rfl rfl ?_
  refine wp_load (pc' := 45) (j := 0) dX9_gives_44 rfl rfl rfl ?_
  refine wp_get (pc' := 48) dX9_gives_45 fl_X9_251 hm3 rfl rfl ?_
  refine wp_load (pc' := 49) (j := 0) dX9_gives_48 rfl rfl rfl ?_
  refine wp_get (pc' := 52) dX9_gives_49 fl_X9_68 hm3 rfl rfl ?_
  refine wp_load (pc' := 53) (j := 1) dX9_gives_52 rfl rfl rfl ?_
  refine wp_iald (pc' := 54) dX9_gives_53 (hA3 27 (by decide)) rfl hi (by decide) rfl ?_
  refine wp_mia (pc' := 55) hM3 hF3 44 (by decide) (by decide) dX9_gives_54 hf (show nf < 60 from hf60) (by decide) rfl (fun G4 hM4 hF4 => ?_)
  obtain ⟨hm4, hA4, -⟩ := id hM4
  refine wp_load (pc' := 56) (j := 0) dX9_gives_55 rfl rfl rfl ?_
  refine wp_get (pc' := 59) dX9_gives_56 fl_X9_113 hm4 rfl rfl ?_
  refine wp_load (pc' := 60) (j := 0) dX9_gives_59 rfl rfl rfl ?_
  refine wp_get (pc' := 63) dX9_gives_60 fl_X9_251 hm4 rfl rfl ?_
  refine wp_load (pc' := 64) (j := 0) dX9_gives_63 rfl rfl rfl ?_
  refine wp_get (pc' := 67) dX9_gives_64 fl_X9_71 hm4 rfl rfl ?_
  refine wp_load (pc' := 68) (j := 1) dX9_gives_67 rfl rfl rfl ?_
  refine wp_iald (pc' := 69) dX9_gives_68 (hA4 28 (by decide)) rfl hi (by decide) rfl ?_
  refine wp_mia (pc' := 70) hM4 hF4 45 (by decide) (by decide) dX9_gives_69 hf (show nf < 60 from hf60) (by decide) rfl (fun G5 hM5 hF5 => ?_)
  obtain ⟨hm5, hA5, -⟩ := id hM5
  refine wp_load (pc' := 71) (j := 0) dX9_gives_70 rfl rfl rfl ?_
  refine wp_get (pc' := 74) dX9_gives_71 fl_X9_116 hm5 rfl rfl ?_
  refine wp_load (pc' := 75) (j := 0) dX9_gives_74 rfl rfl rfl ?_
  refine wp_get (pc' := 78) dX9_gives_75 fl_X9_251 hm5 rfl rfl ?_
  refine wp_load (pc' := 79) (j := 0) dX9_gives_78 rfl rfl rfl ?_
  refine wp_get (pc' := 82) dX9_gives_79 fl_X9_189 hm5 rfl rfl ?_
  refine wp_mia (pc' := 83) hM5 hF5 46 (by decide) (by decide) dX9_gives_82 hf (show nf < 60 from hf60) (by decide) rfl (fun G6 hM6 hF6 => ?_)
  obtain ⟨hm6, hA6, -⟩ := id hM6
  refine wp_load (pc' := 84) (j := 0) dX9_gives_83 rfl rfl rfl ?_
  refine wp_get (pc' := 87) dX9_gives_84 fl_X9_119 hm6 rfl rfl ?_
  refine wp_load (pc' := 88) (j := 0) dX9_gives_87 rfl rfl rfl ?_
  refine wp_get (pc' := 91) dX9_gives_88 fl_X9_251 hm6 rfl rfl ?_
  refine wp_load (pc' := 92) (j := 2) dX9_gives_91 rfl rfl rfl ?_
  refine wp_mia (pc' := 93) hM6 hF6 47 (by decide) (by decide) dX9_gives_92 hf (show nf < 60 from hf60) (by decide) rfl (fun G7 hM7 hF7 => ?_)
  obtain ⟨hm7, hA7, -⟩ := id hM7
  refine wp_load (pc' := 94) (j := 0) dX9_gives_93 rfl rfl rfl ?_
  refine wp_get (pc' := 97) dX9_gives_94 fl_X9_122 hm7 rfl rfl ?_
  refine wp_load (pc' := 98) (j := 0) dX9_gives_97 rfl rfl rfl ?_
  refine wp_get (pc' := 101) dX9_gives_98 fl_X9_251 hm7 rfl rfl ?_
  refine wp_load (pc' := 102) (j := 2) dX9_gives_101 rfl rfl rfl ?_
  refine wp_iconst (pc' := 103) (1) dX9_gives_102 rfl rfl ?_
  refine wp_icmp_ne (pc' := 106) 110 dX9_gives_103 rfl rfl (fun h103 => ?_) (fun h103 => ?_)
  · skip
    rw [decide_eq_false h103] at hP
    refine wp_iconst (pc' := 111) (0) dX9_gives_110 rfl rfl ?_
    refine wp_mza (pc' := 112) (x := false) hM7 hF7 48 (by decide) (by decide) dX9_gives_111 hf (show nf < 60 from hf60) (by decide) rfl (fun G8 hM8 hF8 => ?_)
    obtain ⟨hm8, hA8, -⟩ := id hM8
    refine wp_load (pc' := 113) (j := 0) dX9_gives_112 rfl rfl rfl ?_
    refine wp_get (pc' := 116) dX9_gives_113 fl_X9_140 hm8 rfl rfl ?_
    refine wp_load (pc' := 117) (j := 0) dX9_gives_116 rfl rfl rfl ?_
    refine wp_get (pc' := 120) dX9_gives_117 fl_X9_62 hm8 rfl rfl ?_
    refine wp_load (pc' := 121) (j := 1) dX9_gives_120 rfl rfl rfl ?_
    refine wp_iald (pc' := 122) dX9_gives_121 (hA8 25 (by decide)) rfl hi (by decide) rfl ?_
    refine wp_dup2 (pc' := 123) dX9_gives_122 rfl rfl rfl ?_
    refine wp_iald (pc' := 124) dX9_gives_123 (hA8 54 (by decide)) hsa (show a < 4 from ha) (by decide) rfl ?_
    refine wp_iconst (pc' := 125) (1) dX9_gives_124 rfl rfl ?_
    refine wp_pure (pc' := 126) dX9_gives_125 rfl rfl ?_
    refine wp_mia (pc' := 127) hM8 hF8 54 (by decide) (by decide) dX9_gives_126 hsa (show a < 4 from ha) (by decide) rfl (fun G9 hM9 hF9 => ?_)
    obtain ⟨hm9, hA9, -⟩ := id hM9
    refine wp_load (pc' := 128) (j := 0) dX9_gives_127 rfl rfl rfl ?_
    refine wp_dup (pc' := 129) dX9_gives_128 rfl rfl ?_
    refine wp_get (pc' := 132) dX9_gives_129 fl_X9_251 hm9 rfl rfl ?_
    refine wp_iconst (pc' := 133) (1) dX9_gives_132 rfl rfl ?_
    refine wp_pure (pc' := 134) dX9_gives_133 rfl rfl ?_
    refine wp_mput (pc' := 137) hM9 hF9 dX9_gives_134 fl_X9_251 rfl (by decide) rfl (fun G10 hM10 hF10 => ?_)
    obtain ⟨hm10, hA10, -⟩ := id hM10
    refine wp_vret dX9_gives_137 rfl ?_
    exact hP _ hM10 hF10
  · skip
    rw [decide_eq_true h103] at hP
    refine wp_iconst (pc' := 107) (1) dX9_gives_106 rfl rfl ?_
    refine wp_goto 111 dX9_gives_107 rfl ?_
    refine wp_mza (pc' := 112) (x := true) hM7 hF7 48 (by decide) (by decide) dX9_gives_111 hf (show nf < 60 from hf60) (by decide) rfl (fun G11 hM11 hF11 => ?_)
    obtain ⟨hm11, hA11, -⟩ := id hM11
    refine wp_load (pc' := 113) (j := 0) dX9_gives_112 rfl rfl rfl ?_
    refine wp_get (pc' := 116) dX9_gives_113 fl_X9_140 hm11 rfl rfl ?_
    refine wp_load (pc' := 117) (j := 0) dX9_gives_116 rfl rfl rfl ?_
    refine wp_get (pc' := 120) dX9_gives_117 fl_X9_62 hm11 rfl rfl ?_
    refine wp_load (pc' := 121) (j := 1) dX9_gives_120 rfl rfl rfl ?_
    refine wp_iald (pc' := 122) dX9_gives_121 (hA11 25 (by decide)) rfl hi (by decide) rfl ?_
    refine wp_dup2 (pc' := 123) dX9_gives_122 rfl rfl rfl ?_
    refine wp_iald (pc' := 124) dX9_gives_123 (hA11 54 (by decide)) hsa (show a < 4 from ha) (by decide) rfl ?_
    refine wp_iconst (pc' := 125) (1) dX9_gives_124 rfl rfl ?_
    refine wp_pure (pc' := 126) dX9_gives_125 rfl rfl ?_
    refine wp_mia (pc' := 127) hM11 hF11 54 (by decide) (by decide) dX9_gives_126 hsa (show a < 4 from ha) (by decide) rfl (fun G12 hM12 hF12 => ?_)
    obtain ⟨hm12, hA12, -⟩ := id hM12
    refine wp_load (pc' := 128) (j := 0) dX9_gives_127 rfl rfl rfl ?_
    refine wp_dup (pc' := 129) dX9_gives_128 rfl rfl ?_
    refine wp_get (pc' := 132) dX9_gives_129 fl_X9_251 hm12 rfl rfl ?_
    refine wp_iconst (pc' := 133) (1) dX9_gives_132 rfl rfl ?_
    refine wp_pure (pc' := 134) dX9_gives_133 rfl rfl ?_
    refine wp_mput (pc' := 137) hM12 hF12 dX9_gives_134 fl_X9_251 rfl (by decide) rfl (fun G13 hM13 hF13 => ?_)
    obtain ⟨hm13, hA13, -⟩ := id hM13
    refine wp_vret dX9_gives_137 rfl ?_
    exact hP _ hM13 hF13

set_option maxRecDepth 20000 in
set_option maxHeartbeats 2000000 in
theorem s_judgedX {E : XE} {d mc ms : Nat} {G : HP} {P : Ps} {m : Nat} {aM own : Nat → Nat} {σ : MS} (hM : MH m aM own σ G) {n : Nat} (hs : σ.1 7 = nI n) (hs30 : n ≤ 30) {np : Nat} (hp : σ.1 29 = nI np) (hp40 : np ≤ 40) {ny : Nat} (hy : σ.1 35 = nI ny) (hy200 : ny ≤ 200) {i L : Nat} (hi : i < 30) (hL : σ.2.1 23 i = nI L) (hL12 : L ≤ 60) {x : Int32} (hx : x = nI i) (s mt fr q : Int32) (hP : P (.inl (some (.int (judF σ i L n np ny s mt fr q)))) G) : Sp E (d + 5) yX9_judged mc ms [.ref m, .int x, .int s, .int mt, .int fr, .int q] G P := by
  subst hx
  exact s_judged hM hs hs30 hp hp40 hy hy200 hi hL hL12 s mt fr q hP

def FineOK (σ : MS) (j : Nat) : Prop := ∃ i L, i < 30 ∧ σ.2.1 41 j = nI i ∧ σ.2.1 23 i = nI L ∧ L ≤ 60
/-- what a fine's judgement is by now, but for blocked metres -/
def judFine (σ : MS) (j : Nat) : Int32 := judF σ (ix (σ.2.1 41 j)) (ix (σ.2.1 23 (ix (σ.2.1 41 j)))) (ix (σ.1 7)) (ix (σ.1 29)) (ix (σ.1 35)) (σ.2.1 42 j) (σ.2.1 43 j) (σ.2.1 44 j) (σ.2.1 46 j)
theorem judFine_eq {σ : MS} {j i L n np ny : Nat} (hs : σ.1 7 = nI n) (hs30 : n ≤ 30) (hp : σ.1 29 = nI np) (hp40 : np ≤ 40) (hy : σ.1 35 = nI ny) (hy200 : ny ≤ 200) (hi : i < 30) (hc : σ.2.1 41 j = nI i) (hL : σ.2.1 23 i = nI L) (hL12 : L ≤ 60) : judFine σ j = judF σ i L n np ny (σ.2.1 42 j) (σ.2.1 43 j) (σ.2.1 44 j) (σ.2.1 46 j) := by
  unfold judFine
  rw [hs, hp, hy, hc, ix_nI (n := i) (by omega), hL, ix_nI (by omega), ix_nI (by omega), ix_nI (by omega), ix_nI (by omega)]
theorem judF_2 : True := trivial
set_option maxRecDepth 20000 in
set_option maxHeartbeats 2000000 in
theorem p_appeal {E : XE} {d mc ms : Nat} {G : HP} {P : Ps} {m : Nat} {aM own : Nat → Nat} {σ : MS} (hM : MH m aM own σ G) {n : Nat} (hs : σ.1 7 = nI n) (hs30 : n ≤ 30) {np : Nat} (hp : σ.1 29 = nI np) (hp40 : np ≤ 40) {ny : Nat} (hy : σ.1 35 = nI ny) (hy200 : ny ≤ 200) {nf : Nat} (hf : σ.1 40 = nI nf) (hf60 : nf ≤ 60) (hW : ∀ j, j < nf → FineOK σ j) {i : Int32} (hX : ∀ c G', c = K_appeal σ i → c ≠ 0 → MH m aM own (msc σ 56 c) G' → Fr1 own G G' → P (.inl (some (.int 0))) G') (hT : K_appeal σ i = 0 → ∀ j, j < nf → i = nI j → ∀ G' b, b = (!σ.2.2 48 j && decide (judFine (mbr (zz σ) 49 j true) j = 0)) → MH m aM own (mbr (mbr (zz σ) 49 j true) 50 j b) G' → Fr1 own G G' → P (.inl (some (.int (b2i b)))) G') : Sp E (d + 6) yX9_appeal mc ms [.ref m, .int i] G P := by
  have hF : Fr1 own G G := fr1_rf
  obtain ⟨hm, hA, -⟩ := id hM
  refine sp_intro bd_X9_appeal (v1_all rfl) (Nat.le_of_ble_eq_true rfl) ?_
  change WX _ _ _ _ _ _ 0 [some (.ref m), some (.int i), none] [] _ 0 0
  refine wp_load (pc' := 1) (j := 0) dX9_appeal_0 rfl rfl rfl ?_
  refine wp_load (pc' := 2) (j := 1) dX9_appeal_1 rfl rfl rfl ?_
  refine wp_v1 0 0 dX9_appeal_2 ml_X9_261 hm (Nat.le_of_ble_eq_true rfl) (by omega) (by omega) ?_
  refine s_isFine hM _ ?_
  refine kt_v ?_
  rcases hb : isFineB σ i with _ | _
  · skip
    refine wp_store (pc' := 6) (j := 2) (ls' := [_, _, _]) dX9_appeal_5 rfl (Nat.le_of_ble_eq_true rfl) rfl rfl ?_
    refine wp_load (pc' := 7) (j := 0) dX9_appeal_6 rfl rfl rfl ?_
    refine wp_load (pc' := 8) (j := 2) dX9_appeal_7 rfl rfl rfl ?_
    refine wp_load (pc' := 9) (j := 2) dX9_appeal_8 rfl rfl rfl ?_
    refine wp_ifT 50 dX9_appeal_9 rfl (cmpT rfl) ?_
    refine wp_iconst (pc' := 51) (0) dX9_appeal_50 rfl rfl ?_
    refine wp_iconst (pc' := 52) (1) dX9_appeal_51 rfl rfl ?_
    refine wp_v3 0 0 dX9_appeal_52 ml_X9_167 hm (Nat.le_of_ble_eq_true rfl) (by omega) (by omega) ?_
    refine s_goes hM hF false false true (fun G1 hM1 hF1 => ?_)
    refine kt_v ?_
    obtain ⟨hm1, hA1, -⟩ := id hM1
    refine wp_ifF (pc' := 58) 60 dX9_appeal_55 rfl rfl (cmpF rfl) ?_
    refine wp_iconst (pc' := 59) (0) dX9_appeal_58 rfl rfl ?_
    refine wp_iret dX9_appeal_59 rfl rfl ?_
    exact hX _ _ (by simp only [mcode, K_appeal, hb, Bool.false_eq_true, decide_true, decide_false, Bool.not_true, Bool.not_false, Bool.and_true, Bool.true_and, Bool.and_false, Bool.false_and, Bool.or_true, Bool.true_or, Bool.or_false, Bool.false_or, if_true, if_false, ite_true, ite_false]) (by decide) hM1 hF1
  · skip
    obtain ⟨j, hj, rfl⟩ := clt_nI (n := nf) (by rw [← hf]; exact hb) (by omega)
    have hjl : j < 60 := by omega
    have hix : ix (nI j) = j := ix_nI (by omega)
    refine wp_store (pc' := 6) (j := 2) (ls' := [_, _, _]) dX9_appeal_5 rfl (Nat.le_of_ble_eq_true rfl) rfl rfl ?_
    refine wp_load (pc' := 7) (j := 0) dX9_appeal_6 rfl rfl rfl ?_
    refine wp_load (pc' := 8) (j := 2) dX9_appeal_7 rfl rfl rfl ?_
    refine wp_load (pc' := 9) (j := 2) dX9_appeal_8 rfl rfl rfl ?_
    refine wp_ifF (pc' := 12) 50 dX9_appeal_9 rfl rfl (cmpF rfl) ?_
    refine wp_load (pc' := 13) (j := 0) dX9_appeal_12 rfl rfl rfl ?_
    refine wp_get (pc' := 16) dX9_appeal_13 fl_X9_125 hm rfl rfl ?_
    refine wp_load (pc' := 17) (j := 2) dX9_appeal_16 rfl rfl rfl ?_
    refine wp_ifF (pc' := 20) 24 dX9_appeal_17 rfl rfl (cmpF rfl) ?_
    refine wp_load (pc' := 21) (j := 1) dX9_appeal_20 rfl rfl rfl ?_
    refine wp_goto 25 dX9_appeal_21 rfl ?_
    refine wp_zald (pc' := 26) dX9_appeal_25 (hA 49 (by decide)) rfl hjl (by decide) rfl ?_
    refine wp_ifneB (pc' := 29) 50 dX9_appeal_26 rfl rfl (fun h26 => ?_) (fun h26 => ?_)
    · skip
      refine wp_iconst (pc' := 51) (0) dX9_appeal_50 rfl rfl ?_
      refine wp_iconst (pc' := 52) (1) dX9_appeal_51 rfl rfl ?_
      refine wp_v3 0 0 dX9_appeal_52 ml_X9_167 hm (Nat.le_of_ble_eq_true rfl) (by omega) (by omega) ?_
      refine s_goes hM hF true false true (fun G2 hM2 hF2 => ?_)
      refine kt_v ?_
      obtain ⟨hm2, hA2, -⟩ := id hM2
      refine wp_ifF (pc' := 58) 60 dX9_appeal_55 rfl rfl (cmpF rfl) ?_
      refine wp_iconst (pc' := 59) (0) dX9_appeal_58 rfl rfl ?_
      refine wp_iret dX9_appeal_59 rfl rfl ?_
      exact hX _ _ (by simp only [mcode, K_appeal, hix, hb, h26, Bool.false_eq_true, decide_true, decide_false, Bool.not_true, Bool.not_false, Bool.and_true, Bool.true_and, Bool.and_false, Bool.false_and, Bool.or_true, Bool.true_or, Bool.or_false, Bool.false_or, if_true, if_false, ite_true, ite_false]) (by decide) hM2 hF2
    · skip
      refine wp_load (pc' := 30) (j := 0) dX9_appeal_29 rfl rfl rfl ?_
      refine wp_get (pc' := 33) dX9_appeal_30 fl_X9_131 hm rfl rfl ?_
      refine wp_load (pc' := 34) (j := 2) dX9_appeal_33 rfl rfl rfl ?_
      refine wp_ifF (pc' := 37) 41 dX9_appeal_34 rfl rfl (cmpF rfl) ?_
      refine wp_load (pc' := 38) (j := 1) dX9_appeal_37 rfl rfl rfl ?_
      refine wp_goto 42 dX9_appeal_38 rfl ?_
      refine wp_zald (pc' := 43) dX9_appeal_42 (hA 51 (by decide)) rfl hjl (by decide) rfl ?_
      refine wp_ifneB (pc' := 46) 50 dX9_appeal_43 rfl rfl (fun h43 => ?_) (fun h43 => ?_)
      · skip
        refine wp_iconst (pc' := 51) (0) dX9_appeal_50 rfl rfl ?_
        refine wp_iconst (pc' := 52) (1) dX9_appeal_51 rfl rfl ?_
        refine wp_v3 0 0 dX9_appeal_52 ml_X9_167 hm (Nat.le_of_ble_eq_true rfl) (by omega) (by omega) ?_
        refine s_goes hM hF true false true (fun G3 hM3 hF3 => ?_)
        refine kt_v ?_
        obtain ⟨hm3, hA3, -⟩ := id hM3
        refine wp_ifF (pc' := 58) 60 dX9_appeal_55 rfl rfl (cmpF rfl) ?_
        refine wp_iconst (pc' := 59) (0) dX9_appeal_58 rfl rfl ?_
        refine wp_iret dX9_appeal_59 rfl rfl ?_
        exact hX _ _ (by simp only [mcode, K_appeal, hix, hb, h26, h43, Bool.false_eq_true, decide_true, decide_false, Bool.not_true, Bool.not_false, Bool.and_true, Bool.true_and, Bool.and_false, Bool.false_and, Bool.or_true, Bool.true_or, Bool.or_false, Bool.false_or, if_true, if_false, ite_true, ite_false]) (by decide) hM3 hF3
      · skip
        refine wp_iconst (pc' := 47) (1) dX9_appeal_46 rfl rfl ?_
        refine wp_goto 51 dX9_appeal_47 rfl ?_
        refine wp_iconst (pc' := 52) (1) dX9_appeal_51 rfl rfl ?_
        refine wp_v3 0 0 dX9_appeal_52 ml_X9_167 hm (Nat.le_of_ble_eq_true rfl) (by omega) (by omega) ?_
        refine s_goes hM hF true true true (fun G4 hM4 hF4 => ?_)
        refine kt_v ?_
        replace hM4 : MH m aM own (zz σ) G4 := hM4
        obtain ⟨hm4, hA4, -⟩ := id hM4
        refine wp_ifT 60 dX9_appeal_55 rfl (cmpT rfl) ?_
        obtain ⟨i, L, hi, hci, hL, hL12⟩ := hW j hj
        refine wp_load (pc' := 61) (j := 0) dX9_appeal_60 rfl rfl rfl ?_
        refine wp_get (pc' := 64) dX9_appeal_61 fl_X9_125 hm4 rfl rfl ?_
        refine wp_load (pc' := 65) (j := 1) dX9_appeal_64 rfl rfl rfl ?_
        refine wp_iconst (pc' := 66) (1) dX9_appeal_65 rfl rfl ?_
        refine wp_mza (pc' := 67) (x := true) hM4 hF4 49 (by decide) (by decide) dX9_appeal_66 rfl hjl (by decide) rfl (fun G5 hM5 hF5 => ?_)
        obtain ⟨hm5, hA5, -⟩ := id hM5
        refine wp_load (pc' := 68) (j := 0) dX9_appeal_67 rfl rfl rfl ?_
        refine wp_get (pc' := 71) dX9_appeal_68 fl_X9_128 hm5 rfl rfl ?_
        refine wp_load (pc' := 72) (j := 1) dX9_appeal_71 rfl rfl rfl ?_
        refine wp_load (pc' := 73) (j := 0) dX9_appeal_72 rfl rfl rfl ?_
        refine wp_get (pc' := 76) dX9_appeal_73 fl_X9_122 hm5 rfl rfl ?_
        refine wp_load (pc' := 77) (j := 1) dX9_appeal_76 rfl rfl rfl ?_
        refine wp_zald (pc' := 78) dX9_appeal_77 (hA5 48 (by decide)) rfl hjl (by decide) rfl ?_
        refine wp_ifneB (pc' := 81) 122 dX9_appeal_78 rfl rfl (fun h78 => ?_) (fun h78 => ?_)
        · skip
          have h78x : σ.2.2 48 j = true := h78
          refine wp_iconst (pc' := 123) (0) dX9_appeal_122 rfl rfl ?_
          refine wp_mza (pc' := 124) (x := false) hM5 hF5 50 (by decide) (by decide) dX9_appeal_123 rfl hjl (by decide) rfl (fun G6 hM6 hF6 => ?_)
          obtain ⟨hm6, hA6, -⟩ := id hM6
          refine wp_load (pc' := 125) (j := 0) dX9_appeal_124 rfl rfl rfl ?_
          refine wp_get (pc' := 128) dX9_appeal_125 fl_X9_128 hm6 rfl rfl ?_
          refine wp_load (pc' := 129) (j := 1) dX9_appeal_128 rfl rfl rfl ?_
          refine wp_zald (pc' := 130) dX9_appeal_129 (hA6 50 (by decide)) rfl hjl (by decide) rfl ?_
          simp only [mbr_at]
          refine wp_iret dX9_appeal_130 rfl nar_b2i ?_
          refine hT (by simp only [mcode, K_appeal, hix, hb, h26, h43, h78, Bool.false_eq_true, decide_true, decide_false, Bool.not_true, Bool.not_false, Bool.and_true, Bool.true_and, Bool.and_false, Bool.false_and, Bool.or_true, Bool.true_or, Bool.or_false, Bool.false_or, if_true, if_false, ite_true, ite_false]) j hj rfl _ _ ?_ hM6 hF6
          simp only [h78x, hb, h26, h43, h78, Bool.false_eq_true, decide_true, decide_false, Bool.not_true, Bool.not_false, Bool.and_true, Bool.true_and, Bool.and_false, Bool.false_and, Bool.or_true, Bool.true_or, Bool.or_false, Bool.false_or, if_true, if_false, ite_true, ite_false]
        · skip
          have h78x : σ.2.2 48 j = false := h78
          skip
          refine wp_load (pc' := 82) (j := 0) dX9_appeal_81 rfl rfl rfl ?_
          refine wp_load (pc' := 83) (j := 0) dX9_appeal_82 rfl rfl rfl ?_
          refine wp_get (pc' := 86) dX9_appeal_83 fl_X9_101 hm5 rfl rfl ?_
          refine wp_load (pc' := 87) (j := 1) dX9_appeal_86 rfl rfl rfl ?_
          refine wp_iald (pc' := 88) dX9_appeal_87 (hA5 41 (by decide)) rfl hjl (by decide) rfl ?_
          refine wp_load (pc' := 89) (j := 0) dX9_appeal_88 rfl rfl rfl ?_
          refine wp_get (pc' := 92) dX9_appeal_89 fl_X9_104 hm5 rfl rfl ?_
          refine wp_load (pc' := 93) (j := 1) dX9_appeal_92 rfl rfl rfl ?_
          refine wp_iald (pc' := 94) dX9_appeal_93 (hA5 42 (by decide)) rfl hjl (by decide) rfl ?_
          refine wp_load (pc' := 95) (j := 0) dX9_appeal_94 rfl rfl rfl ?_
          refine wp_get (pc' := 98) dX9_appeal_95 fl_X9_107 hm5 rfl rfl ?_
          refine wp_load (pc' := 99) (j := 1) dX9_appeal_98 rfl rfl rfl ?_
          refine wp_iald (pc' := 100) dX9_appeal_99 (hA5 43 (by decide)) rfl hjl (by decide) rfl ?_
          refine wp_load (pc' := 101) (j := 0) dX9_appeal_100 rfl rfl rfl ?_
          refine wp_get (pc' := 104) dX9_appeal_101 fl_X9_110 hm5 rfl rfl ?_
          refine wp_load (pc' := 105) (j := 1) dX9_appeal_104 rfl rfl rfl ?_
          refine wp_iald (pc' := 106) dX9_appeal_105 (hA5 44 (by decide)) rfl hjl (by decide) rfl ?_
          refine wp_load (pc' := 107) (j := 0) dX9_appeal_106 rfl rfl rfl ?_
          refine wp_get (pc' := 110) dX9_appeal_107 fl_X9_116 hm5 rfl rfl ?_
          refine wp_load (pc' := 111) (j := 1) dX9_appeal_110 rfl rfl rfl ?_
          refine wp_iald (pc' := 112) dX9_appeal_111 (hA5 46 (by decide)) rfl hjl (by decide) rfl ?_
          refine wp_v5 0 0 dX9_appeal_112 ml_X9_243 hm5 (Nat.le_of_ble_eq_true rfl) (by omega) (by omega) ?_
          refine s_judgedX hM5 hs hs30 hp hp40 hy hy200 hi hL hL12 hci _ _ _ _ ?_
          refine kt_v ?_
          refine wp_if_ne (pc' := 118) 122 dX9_appeal_115 rfl rfl (fun h115 => ?_) (fun h115 => ?_)
          · skip
            have e9 : judFine (mbr (zz σ) 49 j true) j = _ := judFine_eq (σ := mbr (zz σ) 49 j true) hs hs30 hp hp40 hy hy200 hi hci hL hL12
            rw [← show judFine (mbr (zz σ) 49 j true) j = _ from e9] at h115
            refine wp_iconst (pc' := 123) (0) dX9_appeal_122 rfl rfl ?_
            refine wp_mza (pc' := 124) (x := false) hM5 hF5 50 (by decide) (by decide) dX9_appeal_123 rfl hjl (by decide) rfl (fun G7 hM7 hF7 => ?_)
            obtain ⟨hm7, hA7, -⟩ := id hM7
            refine wp_load (pc' := 125) (j := 0) dX9_appeal_124 rfl rfl rfl ?_
            refine wp_get (pc' := 128) dX9_appeal_125 fl_X9_128 hm7 rfl rfl ?_
            refine wp_load (pc' := 129) (j := 1) dX9_appeal_128 rfl rfl rfl ?_
            refine wp_zald (pc' := 130) dX9_appeal_129 (hA7 50 (by decide)) rfl hjl (by decide) rfl ?_
            simp only [mbr_at]
            refine wp_iret dX9_appeal_130 rfl nar_b2i ?_
            refine hT (by simp only [mcode, K_appeal, hix, hb, h26, h43, h78, h115, Bool.false_eq_true, decide_true, decide_false, Bool.not_true, Bool.not_false, Bool.and_true, Bool.true_and, Bool.and_false, Bool.false_and, Bool.or_true, Bool.true_or, Bool.or_false, Bool.false_or, if_true, if_false, ite_true, ite_false]) j hj rfl _ _ ?_ hM7 hF7
            simp only [h78x, hb, h26, h43, h78, h115, Bool.false_eq_true, decide_true, decide_false, Bool.not_true, Bool.not_false, Bool.and_true, Bool.true_and, Bool.and_false, Bool.false_and, Bool.or_true, Bool.true_or, Bool.or_false, Bool.false_or, if_true, if_false, ite_true, ite_false]
          · skip
            have e9 : judFine (mbr (zz σ) 49 j true) j = _ := judFine_eq (σ := mbr (zz σ) 49 j true) hs hs30 hp hp40 hy hy200 hi hci hL hL12
            rw [← show judFine (mbr (zz σ) 49 j true) j = _ from e9] at h115
            refine wp_iconst (pc' := 119) (1) dX9_appeal_118 rfl rfl ?_
            refine wp_goto 123 dX9_appeal_119 rfl ?_
            refine wp_mza (pc' := 124) (x := true) hM5 hF5 50 (by decide) (by decide) dX9_appeal_123 rfl hjl (by decide) rfl (fun G8 hM8 hF8 => ?_)
            obtain ⟨hm8, hA8, -⟩ := id hM8
            refine wp_load (pc' := 125) (j := 0) dX9_appeal_124 rfl rfl rfl ?_
            refine wp_get (pc' := 128) dX9_appeal_125 fl_X9_128 hm8 rfl rfl ?_
            refine wp_load (pc' := 129) (j := 1) dX9_appeal_128 rfl rfl rfl ?_
            refine wp_zald (pc' := 130) dX9_appeal_129 (hA8 50 (by decide)) rfl hjl (by decide) rfl ?_
            simp only [mbr_at]
            refine wp_iret dX9_appeal_130 rfl nar_b2i ?_
            refine hT (by simp only [mcode, K_appeal, hix, hb, h26, h43, h78, h115, Bool.false_eq_true, decide_true, decide_false, Bool.not_true, Bool.not_false, Bool.and_true, Bool.true_and, Bool.and_false, Bool.false_and, Bool.or_true, Bool.true_or, Bool.or_false, Bool.false_or, if_true, if_false, ite_true, ite_false]) j hj rfl _ _ ?_ hM8 hF8
            simp only [h78x, hb, h26, h43, h78, h115, Bool.false_eq_true, decide_true, decide_false, Bool.not_true, Bool.not_false, Bool.and_true, Bool.true_and, Bool.and_false, Bool.false_and, Bool.or_true, Bool.true_or, Bool.or_false, Bool.false_or, if_true, if_false, ite_true, ite_false]

set_option maxRecDepth 20000 in
set_option maxHeartbeats 2000000 in
theorem p_payFine {E : XE} {d mc ms : Nat} {G : HP} {P : Ps} {m : Nat} {aM own : Nat → Nat} {σ : MS} (hM : MH m aM own σ G) {nf : Nat} (hf : σ.1 40 = nI nf) (hf60 : nf ≤ 60) {i : Int32} (hX : ∀ c G', c = K_payFine σ i → c ≠ 0 → MH m aM own (msc σ 56 c) G' → Fr1 own G G' → P (.inl (some (.int 0))) G') (hT : K_payFine σ i = 0 → ∀ j, j < nf → i = nI j → ∀ G', MH m aM own (mbr (zz σ) 51 j true) G' → Fr1 own G G' → P (.inl (some (.int (amoF σ j)))) G') : Sp E (d + 3) yX9_payFine mc ms [.ref m, .int i] G P := by
  have hF : Fr1 own G G := fr1_rf
  obtain ⟨hm, hA, -⟩ := id hM
  refine sp_intro bd_X9_payFine (v1_all rfl) (Nat.le_of_ble_eq_true rfl) ?_
  change WX _ _ _ _ _ _ 0 [some (.ref m), some (.int i), none] [] _ 0 0
  refine wp_load (pc' := 1) (j := 0) dX9_payFine_0 rfl rfl rfl ?_
  refine wp_load (pc' := 2) (j := 1) dX9_payFine_1 rfl rfl rfl ?_
  refine wp_v1 0 0 dX9_payFine_2 ml_X9_261 hm (Nat.le_of_ble_eq_true rfl) (by omega) (by omega) ?_
  refine s_isFine hM _ ?_
  refine kt_v ?_
  rcases hb : isFineB σ i with _ | _
  · skip
    refine wp_store (pc' := 6) (j := 2) (ls' := [_, _, _]) dX9_payFine_5 rfl (Nat.le_of_ble_eq_true rfl) rfl rfl ?_
    refine wp_load (pc' := 7) (j := 0) dX9_payFine_6 rfl rfl rfl ?_
    refine wp_load (pc' := 8) (j := 2) dX9_payFine_7 rfl rfl rfl ?_
    refine wp_load (pc' := 9) (j := 2) dX9_payFine_8 rfl rfl rfl ?_
    refine wp_ifT 50 dX9_payFine_9 rfl (cmpT rfl) ?_
    refine wp_iconst (pc' := 51) (0) dX9_payFine_50 rfl rfl ?_
    refine wp_iconst (pc' := 52) (1) dX9_payFine_51 rfl rfl ?_
    refine wp_v3 0 0 dX9_payFine_52 ml_X9_167 hm (Nat.le_of_ble_eq_true rfl) (by omega) (by omega) ?_
    refine s_goes hM hF false false true (fun G1 hM1 hF1 => ?_)
    refine kt_v ?_
    obtain ⟨hm1, hA1, -⟩ := id hM1
    refine wp_ifF (pc' := 58) 60 dX9_payFine_55 rfl rfl (cmpF rfl) ?_
    refine wp_iconst (pc' := 59) (0) dX9_payFine_58 rfl rfl ?_
    refine wp_iret dX9_payFine_59 rfl rfl ?_
    exact hX _ _ (by simp only [mcode, K_payFine, hb, Bool.false_eq_true, decide_true, decide_false, Bool.not_true, Bool.not_false, Bool.and_true, Bool.true_and, Bool.and_false, Bool.false_and, Bool.or_true, Bool.true_or, Bool.or_false, Bool.false_or, if_true, if_false, ite_true, ite_false]) (by decide) hM1 hF1
  · skip
    obtain ⟨j, hj, rfl⟩ := clt_nI (n := nf) (by rw [← hf]; exact hb) (by omega)
    have hjl : j < 60 := by omega
    have hix : ix (nI j) = j := ix_nI (by omega)
    refine wp_store (pc' := 6) (j := 2) (ls' := [_, _, _]) dX9_payFine_5 rfl (Nat.le_of_ble_eq_true rfl) rfl rfl ?_
    refine wp_load (pc' := 7) (j := 0) dX9_payFine_6 rfl rfl rfl ?_
    refine wp_load (pc' := 8) (j := 2) dX9_payFine_7 rfl rfl rfl ?_
    refine wp_load (pc' := 9) (j := 2) dX9_payFine_8 rfl rfl rfl ?_
    refine wp_ifF (pc' := 12) 50 dX9_payFine_9 rfl rfl (cmpF rfl) ?_
    refine wp_load (pc' := 13) (j := 0) dX9_payFine_12 rfl rfl rfl ?_
    refine wp_get (pc' := 16) dX9_payFine_13 fl_X9_131 hm rfl rfl ?_
    refine wp_load (pc' := 17) (j := 2) dX9_payFine_16 rfl rfl rfl ?_
    refine wp_ifF (pc' := 20) 24 dX9_payFine_17 rfl rfl (cmpF rfl) ?_
    refine wp_load (pc' := 21) (j := 1) dX9_payFine_20 rfl rfl rfl ?_
    refine wp_goto 25 dX9_payFine_21 rfl ?_
    refine wp_zald (pc' := 26) dX9_payFine_25 (hA 51 (by decide)) rfl hjl (by decide) rfl ?_
    refine wp_ifneB (pc' := 29) 50 dX9_payFine_26 rfl rfl (fun h26 => ?_) (fun h26 => ?_)
    · skip
      refine wp_iconst (pc' := 51) (0) dX9_payFine_50 rfl rfl ?_
      refine wp_iconst (pc' := 52) (1) dX9_payFine_51 rfl rfl ?_
      refine wp_v3 0 0 dX9_payFine_52 ml_X9_167 hm (Nat.le_of_ble_eq_true rfl) (by omega) (by omega) ?_
      refine s_goes hM hF true false true (fun G2 hM2 hF2 => ?_)
      refine kt_v ?_
      obtain ⟨hm2, hA2, -⟩ := id hM2
      refine wp_ifF (pc' := 58) 60 dX9_payFine_55 rfl rfl (cmpF rfl) ?_
      refine wp_iconst (pc' := 59) (0) dX9_payFine_58 rfl rfl ?_
      refine wp_iret dX9_payFine_59 rfl rfl ?_
      exact hX _ _ (by simp only [mcode, K_payFine, hix, hb, h26, Bool.false_eq_true, decide_true, decide_false, Bool.not_true, Bool.not_false, Bool.and_true, Bool.true_and, Bool.and_false, Bool.false_and, Bool.or_true, Bool.true_or, Bool.or_false, Bool.false_or, if_true, if_false, ite_true, ite_false]) (by decide) hM2 hF2
    · skip
      refine wp_load (pc' := 30) (j := 0) dX9_payFine_29 rfl rfl rfl ?_
      refine wp_get (pc' := 33) dX9_payFine_30 fl_X9_128 hm rfl rfl ?_
      refine wp_load (pc' := 34) (j := 2) dX9_payFine_33 rfl rfl rfl ?_
      refine wp_ifF (pc' := 37) 41 dX9_payFine_34 rfl rfl (cmpF rfl) ?_
      refine wp_load (pc' := 38) (j := 1) dX9_payFine_37 rfl rfl rfl ?_
      refine wp_goto 42 dX9_payFine_38 rfl ?_
      refine wp_zald (pc' := 43) dX9_payFine_42 (hA 50 (by decide)) rfl hjl (by decide) rfl ?_
      refine wp_ifneB (pc' := 46) 50 dX9_payFine_43 rfl rfl (fun h43 => ?_) (fun h43 => ?_)
      · skip
        refine wp_iconst (pc' := 51) (0) dX9_payFine_50 rfl rfl ?_
        refine wp_iconst (pc' := 52) (1) dX9_payFine_51 rfl rfl ?_
        refine wp_v3 0 0 dX9_payFine_52 ml_X9_167 hm (Nat.le_of_ble_eq_true rfl) (by omega) (by omega) ?_
        refine s_goes hM hF true false true (fun G3 hM3 hF3 => ?_)
        refine kt_v ?_
        obtain ⟨hm3, hA3, -⟩ := id hM3
        refine wp_ifF (pc' := 58) 60 dX9_payFine_55 rfl rfl (cmpF rfl) ?_
        refine wp_iconst (pc' := 59) (0) dX9_payFine_58 rfl rfl ?_
        refine wp_iret dX9_payFine_59 rfl rfl ?_
        exact hX _ _ (by simp only [mcode, K_payFine, hix, hb, h26, h43, Bool.false_eq_true, decide_true, decide_false, Bool.not_true, Bool.not_false, Bool.and_true, Bool.true_and, Bool.and_false, Bool.false_and, Bool.or_true, Bool.true_or, Bool.or_false, Bool.false_or, if_true, if_false, ite_true, ite_false]) (by decide) hM3 hF3
      · skip
        refine wp_iconst (pc' := 47) (1) dX9_payFine_46 rfl rfl ?_
        refine wp_goto 51 dX9_payFine_47 rfl ?_
        refine wp_iconst (pc' := 52) (1) dX9_payFine_51 rfl rfl ?_
        refine wp_v3 0 0 dX9_payFine_52 ml_X9_167 hm (Nat.le_of_ble_eq_true rfl) (by omega) (by omega) ?_
        refine s_goes hM hF true true true (fun G4 hM4 hF4 => ?_)
        refine kt_v ?_
        replace hM4 : MH m aM own (zz σ) G4 := hM4
        obtain ⟨hm4, hA4, -⟩ := id hM4
        refine wp_ifT 60 dX9_payFine_55 rfl (cmpT rfl) ?_
        refine wp_load (pc' := 61) (j := 0) dX9_payFine_60 rfl rfl rfl ?_
        refine wp_get (pc' := 64) dX9_payFine_61 fl_X9_131 hm4 rfl rfl ?_
        refine wp_load (pc' := 65) (j := 1) dX9_payFine_64 rfl rfl rfl ?_
        refine wp_iconst (pc' := 66) (1) dX9_payFine_65 rfl rfl ?_
        refine wp_mza (pc' := 67) (x := true) hM4 hF4 51 (by decide) (by decide) dX9_payFine_66 rfl hjl (by decide) rfl (fun G5 hM5 hF5 => ?_)
        obtain ⟨hm5, hA5, -⟩ := id hM5
        refine wp_load (pc' := 68) (j := 0) dX9_payFine_67 rfl rfl rfl ?_
        refine wp_load (pc' := 69) (j := 1) dX9_payFine_68 rfl rfl rfl ?_
        refine wp_v1 0 0 dX9_payFine_69 ml_X9_264 hm5 (Nat.le_of_ble_eq_true rfl) (by omega) (by omega) ?_
        refine s_amount hM5 hjl ?_
        refine kt_v ?_
        refine wp_iret dX9_payFine_72 rfl rfl ?_
        exact hT (by simp only [mcode, K_payFine, hix, hb, h26, h43, Bool.false_eq_true, decide_true, decide_false, Bool.not_true, Bool.not_false, Bool.and_true, Bool.true_and, Bool.and_false, Bool.false_and, Bool.or_true, Bool.true_or, Bool.or_false, Bool.false_or, if_true, if_false, ite_true, ite_false]) j hj rfl _ hM5 hF5

set_option maxRecDepth 20000 in
set_option maxHeartbeats 2000000 in
theorem p_fine {E : XE} {d mc ms : Nat} {G : HP} {P : Ps} {m : Nat} {aM own : Nat → Nat} {σ : MS} (hM : MH m aM own σ G) {nf : Nat} (hf : σ.1 40 = nI nf) (hf60 : nf ≤ 60) {i w : Int32} (hX : ∀ c G', c = K_fine σ i w → c ≠ 0 → MH m aM own (msc σ 56 c) G' → Fr1 own G G' → P (.inl (some (.int 0))) G') (hT : K_fine σ i w = 0 → ∀ j, j < nf → i = nI j → ∀ G', MH m aM own (zz σ) G' → Fr1 own G G' → P (.inl (some (.int (fineV σ j w)))) G') : Sp E (d + 3) yX9_fine mc ms [.ref m, .int i, .int w] G P := by
  have hF : Fr1 own G G := fr1_rf
  obtain ⟨hm, hA, -⟩ := id hM
  refine sp_intro bd_X9_fine (v1_all rfl) (Nat.le_of_ble_eq_true rfl) ?_
  change WX _ _ _ _ _ _ 0 [some (.ref m), some (.int i), some (.int w)] [] _ 0 0
  refine wp_load (pc' := 1) (j := 0) dX9_fine_0 rfl rfl rfl ?_
  refine wp_load (pc' := 2) (j := 0) dX9_fine_1 rfl rfl rfl ?_
  refine wp_load (pc' := 3) (j := 1) dX9_fine_2 rfl rfl rfl ?_
  refine wp_v1 0 0 dX9_fine_3 ml_X9_261 hm (Nat.le_of_ble_eq_true rfl) (by omega) (by omega) ?_
  refine s_isFine hM _ ?_
  refine kt_v ?_
  rcases hb : isFineB σ i with _ | _
  · skip
    refine wp_load (pc' := 7) (j := 2) dX9_fine_6 rfl rfl rfl ?_
    refine wp_iconst (pc' := 8) (0) dX9_fine_7 rfl rfl ?_
    refine wp_iconst (pc' := 9) (5) dX9_fine_8 rfl rfl ?_
    refine wp_s3 0 0 dX9_fine_9 ml_X9_153 (Nat.le_of_ble_eq_true rfl) (by omega) (by omega) ?_
    refine s_in _ _ _ ?_
    refine kt_v ?_
    rcases hb2 : inB w 0 5 with _ | _
    · skip
      refine wp_iconst (pc' := 13) (1) dX9_fine_12 rfl rfl ?_
      refine wp_v3 0 0 dX9_fine_13 ml_X9_167 hm (Nat.le_of_ble_eq_true rfl) (by omega) (by omega) ?_
      refine s_goes hM hF false false true (fun G1 hM1 hF1 => ?_)
      refine kt_v ?_
      obtain ⟨hm1, hA1, -⟩ := id hM1
      refine wp_ifF (pc' := 19) 21 dX9_fine_16 rfl rfl (cmpF rfl) ?_
      refine wp_iconst (pc' := 20) (0) dX9_fine_19 rfl rfl ?_
      refine wp_iret dX9_fine_20 rfl rfl ?_
      exact hX _ _ (by simp only [mcode, K_fine, hb, hb2, Bool.false_eq_true, decide_true, decide_false, Bool.not_true, Bool.not_false, Bool.and_true, Bool.true_and, Bool.and_false, Bool.false_and, Bool.or_true, Bool.true_or, Bool.or_false, Bool.false_or, if_true, if_false, ite_true, ite_false]) (by decide) hM1 hF1
    · skip
      refine wp_iconst (pc' := 13) (1) dX9_fine_12 rfl rfl ?_
      refine wp_v3 0 0 dX9_fine_13 ml_X9_167 hm (Nat.le_of_ble_eq_true rfl) (by omega) (by omega) ?_
      refine s_goes hM hF false true true (fun G2 hM2 hF2 => ?_)
      refine kt_v ?_
      obtain ⟨hm2, hA2, -⟩ := id hM2
      refine wp_ifF (pc' := 19) 21 dX9_fine_16 rfl rfl (cmpF rfl) ?_
      refine wp_iconst (pc' := 20) (0) dX9_fine_19 rfl rfl ?_
      refine wp_iret dX9_fine_20 rfl rfl ?_
      exact hX _ _ (by simp only [mcode, K_fine, hb, hb2, Bool.false_eq_true, decide_true, decide_false, Bool.not_true, Bool.not_false, Bool.and_true, Bool.true_and, Bool.and_false, Bool.false_and, Bool.or_true, Bool.true_or, Bool.or_false, Bool.false_or, if_true, if_false, ite_true, ite_false]) (by decide) hM2 hF2
  · skip
    obtain ⟨j, hj, rfl⟩ := clt_nI (n := nf) (by rw [← hf]; exact hb) (by omega)
    have hjl : j < 60 := by omega
    have hix : ix (nI j) = j := ix_nI (by omega)
    refine wp_load (pc' := 7) (j := 2) dX9_fine_6 rfl rfl rfl ?_
    refine wp_iconst (pc' := 8) (0) dX9_fine_7 rfl rfl ?_
    refine wp_iconst (pc' := 9) (5) dX9_fine_8 rfl rfl ?_
    refine wp_s3 0 0 dX9_fine_9 ml_X9_153 (Nat.le_of_ble_eq_true rfl) (by omega) (by omega) ?_
    refine s_in _ _ _ ?_
    refine kt_v ?_
    rcases hb2 : inB w 0 5 with _ | _
    · skip
      refine wp_iconst (pc' := 13) (1) dX9_fine_12 rfl rfl ?_
      refine wp_v3 0 0 dX9_fine_13 ml_X9_167 hm (Nat.le_of_ble_eq_true rfl) (by omega) (by omega) ?_
      refine s_goes hM hF true false true (fun G3 hM3 hF3 => ?_)
      refine kt_v ?_
      obtain ⟨hm3, hA3, -⟩ := id hM3
      refine wp_ifF (pc' := 19) 21 dX9_fine_16 rfl rfl (cmpF rfl) ?_
      refine wp_iconst (pc' := 20) (0) dX9_fine_19 rfl rfl ?_
      refine wp_iret dX9_fine_20 rfl rfl ?_
      exact hX _ _ (by simp only [mcode, K_fine, hix, hb, hb2, Bool.false_eq_true, decide_true, decide_false, Bool.not_true, Bool.not_false, Bool.and_true, Bool.true_and, Bool.and_false, Bool.false_and, Bool.or_true, Bool.true_or, Bool.or_false, Bool.false_or, if_true, if_false, ite_true, ite_false]) (by decide) hM3 hF3
    · skip
      refine wp_iconst (pc' := 13) (1) dX9_fine_12 rfl rfl ?_
      refine wp_v3 0 0 dX9_fine_13 ml_X9_167 hm (Nat.le_of_ble_eq_true rfl) (by omega) (by omega) ?_
      refine s_goes hM hF true true true (fun G4 hM4 hF4 => ?_)
      refine kt_v ?_
      replace hM4 : MH m aM own (zz σ) G4 := hM4
      obtain ⟨hm4, hA4, -⟩ := id hM4
      refine wp_ifT 21 dX9_fine_16 rfl (cmpT rfl) ?_
      refine wp_load (pc' := 22) (j := 2) dX9_fine_21 rfl rfl rfl ?_
      refine wp_if_ne (pc' := 25) 34 dX9_fine_22 rfl rfl (fun h22 => ?_) (fun h22 => ?_)
      · skip
        refine wp_load (pc' := 35) (j := 2) dX9_fine_34 rfl rfl rfl ?_
        refine wp_iconst (pc' := 36) (1) dX9_fine_35 rfl rfl ?_
        refine wp_icmp_ne (pc' := 39) 48 dX9_fine_36 rfl rfl (fun h36 => ?_) (fun h36 => ?_)
        · skip
          refine wp_load (pc' := 49) (j := 2) dX9_fine_48 rfl rfl rfl ?_
          refine wp_iconst (pc' := 50) (2) dX9_fine_49 rfl rfl ?_
          refine wp_icmp_ne (pc' := 53) 62 dX9_fine_50 rfl rfl (fun h50 => ?_) (fun h50 => ?_)
          · skip
            refine wp_load (pc' := 63) (j := 2) dX9_fine_62 rfl rfl rfl ?_
            refine wp_iconst (pc' := 64) (3) dX9_fine_63 rfl rfl ?_
            refine wp_icmp_ne (pc' := 67) 76 dX9_fine_64 rfl rfl (fun h64 => ?_) (fun h64 => ?_)
            · skip
              refine wp_load (pc' := 77) (j := 2) dX9_fine_76 rfl rfl rfl ?_
              refine wp_iconst (pc' := 78) (4) dX9_fine_77 rfl rfl ?_
              refine wp_icmp_ne (pc' := 81) 93 dX9_fine_78 rfl rfl (fun h78 => ?_) (fun h78 => ?_)
              · skip
                refine wp_load (pc' := 94) (j := 0) dX9_fine_93 rfl rfl rfl ?_
                refine wp_get (pc' := 97) dX9_fine_94 fl_X9_131 hm4 rfl rfl ?_
                refine wp_load (pc' := 98) (j := 1) dX9_fine_97 rfl rfl rfl ?_
                refine wp_zald (pc' := 99) dX9_fine_98 (hA4 51 (by decide)) rfl hjl (by decide) rfl ?_
                refine wp_ifeqB (pc' := 102) 106 dX9_fine_99 rfl rfl (fun h99 => ?_) (fun h99 => ?_)
                · skip
                  replace h99 : σ.2.2 51 j = false := h99
                  refine wp_iconst (pc' := 107) (0) dX9_fine_106 rfl rfl ?_
                  refine wp_iret dX9_fine_107 rfl rfl ?_
                  have hTT := hT (by simp only [mcode, K_fine, hix, hb, hb2, Bool.false_eq_true, decide_true, decide_false, Bool.not_true, Bool.not_false, Bool.and_true, Bool.true_and, Bool.and_false, Bool.false_and, Bool.or_true, Bool.true_or, Bool.or_false, Bool.false_or, if_true, if_false, ite_true, ite_false]) j hj rfl _ hM4 hF4
                  simp only [fineV, b2i_t, b2i_f, hb, hb2, h22, h36, h50, h64, h78, h99, Bool.false_eq_true, decide_true, decide_false, Bool.not_true, Bool.not_false, Bool.and_true, Bool.true_and, Bool.and_false, Bool.false_and, Bool.or_true, Bool.true_or, Bool.or_false, Bool.false_or, if_true, if_false, ite_true, ite_false] at hTT
                  exact hTT
                · skip
                  replace h99 : σ.2.2 51 j = true := h99
                  refine wp_iconst (pc' := 103) (1) dX9_fine_102 rfl rfl ?_
                  refine wp_goto 107 dX9_fine_103 rfl ?_
                  refine wp_iret dX9_fine_107 rfl rfl ?_
                  have hTT := hT (by simp only [mcode, K_fine, hix, hb, hb2, Bool.false_eq_true, decide_true, decide_false, Bool.not_true, Bool.not_false, Bool.and_true, Bool.true_and, Bool.and_false, Bool.false_and, Bool.or_true, Bool.true_or, Bool.or_false, Bool.false_or, if_true, if_false, ite_true, ite_false]) j hj rfl _ hM4 hF4
                  simp only [fineV, b2i_t, b2i_f, hb, hb2, h22, h36, h50, h64, h78, h99, Bool.false_eq_true, decide_true, decide_false, Bool.not_true, Bool.not_false, Bool.and_true, Bool.true_and, Bool.and_false, Bool.false_and, Bool.or_true, Bool.true_or, Bool.or_false, Bool.false_or, if_true, if_false, ite_true, ite_false] at hTT
                  exact hTT
              · skip
                refine wp_load (pc' := 82) (j := 0) dX9_fine_81 rfl rfl rfl ?_
                refine wp_get (pc' := 85) dX9_fine_82 fl_X9_128 hm4 rfl rfl ?_
                refine wp_load (pc' := 86) (j := 1) dX9_fine_85 rfl rfl rfl ?_
                refine wp_zald (pc' := 87) dX9_fine_86 (hA4 50 (by decide)) rfl hjl (by decide) rfl ?_
                refine wp_ifeqB (pc' := 90) 106 dX9_fine_87 rfl rfl (fun h87 => ?_) (fun h87 => ?_)
                · skip
                  replace h87 : σ.2.2 50 j = false := h87
                  refine wp_iconst (pc' := 107) (0) dX9_fine_106 rfl rfl ?_
                  refine wp_iret dX9_fine_107 rfl rfl ?_
                  have hTT := hT (by simp only [mcode, K_fine, hix, hb, hb2, Bool.false_eq_true, decide_true, decide_false, Bool.not_true, Bool.not_false, Bool.and_true, Bool.true_and, Bool.and_false, Bool.false_and, Bool.or_true, Bool.true_or, Bool.or_false, Bool.false_or, if_true, if_false, ite_true, ite_false]) j hj rfl _ hM4 hF4
                  simp only [fineV, b2i_t, b2i_f, hb, hb2, h22, h36, h50, h64, h78, h87, Bool.false_eq_true, decide_true, decide_false, Bool.not_true, Bool.not_false, Bool.and_true, Bool.true_and, Bool.and_false, Bool.false_and, Bool.or_true, Bool.true_or, Bool.or_false, Bool.false_or, if_true, if_false, ite_true, ite_false] at hTT
                  exact hTT
                · skip
                  replace h87 : σ.2.2 50 j = true := h87
                  refine wp_goto 102 dX9_fine_90 rfl ?_
                  refine wp_iconst (pc' := 103) (1) dX9_fine_102 rfl rfl ?_
                  refine wp_goto 107 dX9_fine_103 rfl ?_
                  refine wp_iret dX9_fine_107 rfl rfl ?_
                  have hTT := hT (by simp only [mcode, K_fine, hix, hb, hb2, Bool.false_eq_true, decide_true, decide_false, Bool.not_true, Bool.not_false, Bool.and_true, Bool.true_and, Bool.and_false, Bool.false_and, Bool.or_true, Bool.true_or, Bool.or_false, Bool.false_or, if_true, if_false, ite_true, ite_false]) j hj rfl _ hM4 hF4
                  simp only [fineV, b2i_t, b2i_f, hb, hb2, h22, h36, h50, h64, h78, h87, Bool.false_eq_true, decide_true, decide_false, Bool.not_true, Bool.not_false, Bool.and_true, Bool.true_and, Bool.and_false, Bool.false_and, Bool.or_true, Bool.true_or, Bool.or_false, Bool.false_or, if_true, if_false, ite_true, ite_false] at hTT
                  exact hTT
            · skip
              refine wp_load (pc' := 68) (j := 0) dX9_fine_67 rfl rfl rfl ?_
              refine wp_get (pc' := 71) dX9_fine_68 fl_X9_119 hm4 rfl rfl ?_
              refine wp_load (pc' := 72) (j := 1) dX9_fine_71 rfl rfl rfl ?_
              refine wp_iald (pc' := 73) dX9_fine_72 (hA4 47 (by decide)) rfl hjl (by decide) rfl ?_
              refine wp_goto 107 dX9_fine_73 rfl ?_
              refine wp_iret dX9_fine_107 rfl rfl ?_
              have hTT := hT (by simp only [mcode, K_fine, hix, hb, hb2, Bool.false_eq_true, decide_true, decide_false, Bool.not_true, Bool.not_false, Bool.and_true, Bool.true_and, Bool.and_false, Bool.false_and, Bool.or_true, Bool.true_or, Bool.or_false, Bool.false_or, if_true, if_false, ite_true, ite_false]) j hj rfl _ hM4 hF4
              simp only [fineV, b2i_t, b2i_f, hb, hb2, h22, h36, h50, h64, Bool.false_eq_true, decide_true, decide_false, Bool.not_true, Bool.not_false, Bool.and_true, Bool.true_and, Bool.and_false, Bool.false_and, Bool.or_true, Bool.true_or, Bool.or_false, Bool.false_or, if_true, if_false, ite_true, ite_false] at hTT
              exact hTT
          · skip
            refine wp_load (pc' := 54) (j := 0) dX9_fine_53 rfl rfl rfl ?_
            refine wp_get (pc' := 57) dX9_fine_54 fl_X9_116 hm4 rfl rfl ?_
            refine wp_load (pc' := 58) (j := 1) dX9_fine_57 rfl rfl rfl ?_
            refine wp_iald (pc' := 59) dX9_fine_58 (hA4 46 (by decide)) rfl hjl (by decide) rfl ?_
            refine wp_goto 107 dX9_fine_59 rfl ?_
            refine wp_iret dX9_fine_107 rfl rfl ?_
            have hTT := hT (by simp only [mcode, K_fine, hix, hb, hb2, Bool.false_eq_true, decide_true, decide_false, Bool.not_true, Bool.not_false, Bool.and_true, Bool.true_and, Bool.and_false, Bool.false_and, Bool.or_true, Bool.true_or, Bool.or_false, Bool.false_or, if_true, if_false, ite_true, ite_false]) j hj rfl _ hM4 hF4
            simp only [fineV, b2i_t, b2i_f, hb, hb2, h22, h36, h50, Bool.false_eq_true, decide_true, decide_false, Bool.not_true, Bool.not_false, Bool.and_true, Bool.true_and, Bool.and_false, Bool.false_and, Bool.or_true, Bool.true_or, Bool.or_false, Bool.false_or, if_true, if_false, ite_true, ite_false] at hTT
            exact hTT
        · skip
          refine wp_load (pc' := 40) (j := 0) dX9_fine_39 rfl rfl rfl ?_
          refine wp_get (pc' := 43) dX9_fine_40 fl_X9_104 hm4 rfl rfl ?_
          refine wp_load (pc' := 44) (j := 1) dX9_fine_43 rfl rfl rfl ?_
          refine wp_iald (pc' := 45) dX9_fine_44 (hA4 42 (by decide)) rfl hjl (by decide) rfl ?_
          refine wp_goto 107 dX9_fine_45 rfl ?_
          refine wp_iret dX9_fine_107 rfl rfl ?_
          have hTT := hT (by simp only [mcode, K_fine, hix, hb, hb2, Bool.false_eq_true, decide_true, decide_false, Bool.not_true, Bool.not_false, Bool.and_true, Bool.true_and, Bool.and_false, Bool.false_and, Bool.or_true, Bool.true_or, Bool.or_false, Bool.false_or, if_true, if_false, ite_true, ite_false]) j hj rfl _ hM4 hF4
          simp only [fineV, b2i_t, b2i_f, hb, hb2, h22, h36, Bool.false_eq_true, decide_true, decide_false, Bool.not_true, Bool.not_false, Bool.and_true, Bool.true_and, Bool.and_false, Bool.false_and, Bool.or_true, Bool.true_or, Bool.or_false, Bool.false_or, if_true, if_false, ite_true, ite_false] at hTT
          exact hTT
      · skip
        refine wp_load (pc' := 26) (j := 0) dX9_fine_25 rfl rfl rfl ?_
        refine wp_get (pc' := 29) dX9_fine_26 fl_X9_101 hm4 rfl rfl ?_
        refine wp_load (pc' := 30) (j := 1) dX9_fine_29 rfl rfl rfl ?_
        refine wp_iald (pc' := 31) dX9_fine_30 (hA4 41 (by decide)) rfl hjl (by decide) rfl ?_
        refine wp_goto 107 dX9_fine_31 rfl ?_
        refine wp_iret dX9_fine_107 rfl rfl ?_
        have hTT := hT (by simp only [mcode, K_fine, hix, hb, hb2, Bool.false_eq_true, decide_true, decide_false, Bool.not_true, Bool.not_false, Bool.and_true, Bool.true_and, Bool.and_false, Bool.false_and, Bool.or_true, Bool.true_or, Bool.or_false, Bool.false_or, if_true, if_false, ite_true, ite_false]) j hj rfl _ hM4 hF4
        simp only [fineV, b2i_t, b2i_f, hb, hb2, h22, Bool.false_eq_true, decide_true, decide_false, Bool.not_true, Bool.not_false, Bool.and_true, Bool.true_and, Bool.and_false, Bool.false_and, Bool.or_true, Bool.true_or, Bool.or_false, Bool.false_or, if_true, if_false, ite_true, ite_false] at hTT
        exact hTT

set_option maxRecDepth 20000 in
set_option maxHeartbeats 2000000 in
theorem p_debt {E : XE} {d mc ms : Nat} {G : HP} {P : Ps} {m : Nat} {aM own : Nat → Nat} {σ : MS} (hM : MH m aM own σ G) {nc : Nat} (hc : σ.1 22 = nI nc) (hc30 : nc ≤ 30) {nf : Nat} (hf : σ.1 40 = nI nf) (hf60 : nf ≤ 60) {i : Int32} (hX : ∀ c G', c = K_car1 σ i → c ≠ 0 → MH m aM own (msc σ 56 c) G' → Fr1 own G G' → P (.inl (some (.int 0))) G') (hT : K_car1 σ i = 0 → ∀ j, j < nc → i = nI j → ∀ G', MH m aM own (zz σ) G' → Fr1 own G G' → P (.inl (some (.int (debtF (zz σ) j nf)))) G') : Sp E (d + 3) yX9_debt mc ms [.ref m, .int i] G P := by
  have hF : Fr1 own G G := fr1_rf
  obtain ⟨hm, hA, -⟩ := id hM
  refine sp_intro bd_X9_debt (v1_all rfl) (Nat.le_of_ble_eq_true rfl) ?_
  change WX _ _ _ _ _ _ 0 [some (.ref m), some (.int i)] [] _ 0 0
  refine wp_load (pc' := 1) (j := 0) dX9_debt_0 rfl rfl rfl ?_
  refine wp_load (pc' := 2) (j := 0) dX9_debt_1 rfl rfl rfl ?_
  refine wp_load (pc' := 3) (j := 1) dX9_debt_2 rfl rfl rfl ?_
  refine wp_v1 0 0 dX9_debt_3 ml_X9_219 hm (Nat.le_of_ble_eq_true rfl) (by omega) (by omega) ?_
  refine s_isCar hM _ ?_
  refine kt_v ?_
  rcases hb : isCarB σ i with _ | _
  · skip
    refine wp_iconst (pc' := 7) (1) dX9_debt_6 rfl rfl ?_
    refine wp_iconst (pc' := 8) (1) dX9_debt_7 rfl rfl ?_
    refine wp_v3 0 0 dX9_debt_8 ml_X9_167 hm (Nat.le_of_ble_eq_true rfl) (by omega) (by omega) ?_
    refine s_goes hM hF false true true (fun G1 hM1 hF1 => ?_)
    refine kt_v ?_
    obtain ⟨hm1, hA1, -⟩ := id hM1
    refine wp_ifT 22 dX9_debt_11 rfl (cmpT rfl) ?_
    refine wp_iconst (pc' := 23) (0) dX9_debt_22 rfl rfl ?_
    refine wp_iret dX9_debt_23 rfl rfl ?_
    exact hX _ _ (by simp only [mcode, K_car1, hb, Bool.false_eq_true, decide_true, decide_false, Bool.not_true, Bool.not_false, Bool.and_true, Bool.true_and, Bool.and_false, Bool.false_and, Bool.or_true, Bool.true_or, Bool.or_false, Bool.false_or, if_true, if_false, ite_true, ite_false]) (by decide) hM1 hF1
  · skip
    obtain ⟨j, hj, rfl⟩ := clt_nI (n := nc) (by rw [← hc]; exact hb) (by omega)
    have hjl : j < 30 := by omega
    have hix : ix (nI j) = j := ix_nI (by omega)
    refine wp_iconst (pc' := 7) (1) dX9_debt_6 rfl rfl ?_
    refine wp_iconst (pc' := 8) (1) dX9_debt_7 rfl rfl ?_
    refine wp_v3 0 0 dX9_debt_8 ml_X9_167 hm (Nat.le_of_ble_eq_true rfl) (by omega) (by omega) ?_
    refine s_goes hM hF true true true (fun G2 hM2 hF2 => ?_)
    refine kt_v ?_
    replace hM2 : MH m aM own (zz σ) G2 := hM2
    obtain ⟨hm2, hA2, -⟩ := id hM2
    refine wp_ifF (pc' := 14) 22 dX9_debt_11 rfl rfl (cmpF rfl) ?_
    refine wp_load (pc' := 15) (j := 0) dX9_debt_14 rfl rfl rfl ?_
    refine wp_load (pc' := 16) (j := 1) dX9_debt_15 rfl rfl rfl ?_
    refine wp_v1 0 0 dX9_debt_16 ml_X9_267 hm2 (Nat.le_of_ble_eq_true rfl) (by omega) (by omega) ?_
    refine s_debtOf hM2 hf hf60 _ ?_
    refine kt_v ?_
    refine wp_goto 23 dX9_debt_19 rfl ?_
    refine wp_iret dX9_debt_23 rfl rfl ?_
    exact hT (by simp only [mcode, K_car1, hb, Bool.false_eq_true, decide_true, decide_false, Bool.not_true, Bool.not_false, Bool.and_true, Bool.true_and, Bool.and_false, Bool.false_and, Bool.or_true, Bool.true_or, Bool.or_false, Bool.false_or, if_true, if_false, ite_true, ite_false]) j hj rfl _ hM2 hF2

set_option maxRecDepth 20000 in
set_option maxHeartbeats 2000000 in
theorem p_tow {E : XE} {d mc ms : Nat} {G : HP} {P : Ps} {m : Nat} {aM own : Nat → Nat} {σ : MS} (hM : MH m aM own σ G) {nc : Nat} (hc : σ.1 22 = nI nc) (hc30 : nc ≤ 30) {nf : Nat} (hf : σ.1 40 = nI nf) (hf60 : nf ≤ 60) {i : Int32} (hX : ∀ c G', c = K_tow σ nf i → c ≠ 0 → MH m aM own (msc σ 56 c) G' → Fr1 own G G' → P (.inl (some (.int 0))) G') (hT : K_tow σ nf i = 0 → ∀ j, j < nc → i = nI j → ∀ G', MH m aM own (mar (zz σ) 25 j (-1)) G' → Fr1 own G G' → P (.inl (some (.int (debtF (mar (zz σ) 25 j (-1)) j nf)))) G') : Sp E (d + 3) yX9_tow mc ms [.ref m, .int i] G P := by
  have hF : Fr1 own G G := fr1_rf
  obtain ⟨hm, hA, -⟩ := id hM
  refine sp_intro bd_X9_tow (v1_all rfl) (Nat.le_of_ble_eq_true rfl) ?_
  change WX _ _ _ _ _ _ 0 [some (.ref m), some (.int i), none] [] _ 0 0
  refine wp_load (pc' := 1) (j := 0) dX9_tow_0 rfl rfl rfl ?_
  refine wp_load (pc' := 2) (j := 1) dX9_tow_1 rfl rfl rfl ?_
  refine wp_v1 0 0 dX9_tow_2 ml_X9_219 hm (Nat.le_of_ble_eq_true rfl) (by omega) (by omega) ?_
  refine s_isCar hM _ ?_
  refine kt_v ?_
  rcases hb : isCarB σ i with _ | _
  · skip
    refine wp_store (pc' := 6) (j := 2) (ls' := [_, _, _]) dX9_tow_5 rfl (Nat.le_of_ble_eq_true rfl) rfl rfl ?_
    refine wp_load (pc' := 7) (j := 0) dX9_tow_6 rfl rfl rfl ?_
    refine wp_load (pc' := 8) (j := 2) dX9_tow_7 rfl rfl rfl ?_
    refine wp_load (pc' := 9) (j := 2) dX9_tow_8 rfl rfl rfl ?_
    refine wp_ifT 45 dX9_tow_9 rfl (cmpT rfl) ?_
    refine wp_iconst (pc' := 46) (0) dX9_tow_45 rfl rfl ?_
    refine wp_iconst (pc' := 47) (1) dX9_tow_46 rfl rfl ?_
    refine wp_v3 0 0 dX9_tow_47 ml_X9_167 hm (Nat.le_of_ble_eq_true rfl) (by omega) (by omega) ?_
    refine s_goes hM hF false false true (fun G1 hM1 hF1 => ?_)
    refine kt_v ?_
    obtain ⟨hm1, hA1, -⟩ := id hM1
    refine wp_ifF (pc' := 53) 55 dX9_tow_50 rfl rfl (cmpF rfl) ?_
    refine wp_iconst (pc' := 54) (0) dX9_tow_53 rfl rfl ?_
    refine wp_iret dX9_tow_54 rfl rfl ?_
    exact hX _ _ (by simp only [mcode, K_tow, hb, Bool.false_eq_true, decide_true, decide_false, Bool.not_true, Bool.not_false, Bool.and_true, Bool.true_and, Bool.and_false, Bool.false_and, Bool.or_true, Bool.true_or, Bool.or_false, Bool.false_or, if_true, if_false, ite_true, ite_false]) (by decide) hM1 hF1
  · skip
    obtain ⟨j, hj, rfl⟩ := clt_nI (n := nc) (by rw [← hc]; exact hb) (by omega)
    have hjl : j < 30 := by omega
    have hix : ix (nI j) = j := ix_nI (by omega)
    refine wp_store (pc' := 6) (j := 2) (ls' := [_, _, _]) dX9_tow_5 rfl (Nat.le_of_ble_eq_true rfl) rfl rfl ?_
    refine wp_load (pc' := 7) (j := 0) dX9_tow_6 rfl rfl rfl ?_
    refine wp_load (pc' := 8) (j := 2) dX9_tow_7 rfl rfl rfl ?_
    refine wp_load (pc' := 9) (j := 2) dX9_tow_8 rfl rfl rfl ?_
    refine wp_ifF (pc' := 12) 45 dX9_tow_9 rfl rfl (cmpF rfl) ?_
    refine wp_load (pc' := 13) (j := 0) dX9_tow_12 rfl rfl rfl ?_
    refine wp_get (pc' := 16) dX9_tow_13 fl_X9_62 hm rfl rfl ?_
    refine wp_load (pc' := 17) (j := 2) dX9_tow_16 rfl rfl rfl ?_
    refine wp_ifF (pc' := 20) 24 dX9_tow_17 rfl rfl (cmpF rfl) ?_
    refine wp_load (pc' := 21) (j := 1) dX9_tow_20 rfl rfl rfl ?_
    refine wp_goto 25 dX9_tow_21 rfl ?_
    refine wp_iald (pc' := 26) dX9_tow_25 (hA 25 (by decide)) rfl hjl (by decide) rfl ?_
    refine wp_iconst (pc' := 27) (-1) dX9_tow_26 rfl rfl ?_
    refine wp_icmp_eq (pc' := 30) 45 dX9_tow_27 rfl rfl (fun h27 => ?_) (fun h27 => ?_)
    · skip
      refine wp_iconst (pc' := 46) (0) dX9_tow_45 rfl rfl ?_
      refine wp_iconst (pc' := 47) (1) dX9_tow_46 rfl rfl ?_
      refine wp_v3 0 0 dX9_tow_47 ml_X9_167 hm (Nat.le_of_ble_eq_true rfl) (by omega) (by omega) ?_
      refine s_goes hM hF true false true (fun G2 hM2 hF2 => ?_)
      refine kt_v ?_
      obtain ⟨hm2, hA2, -⟩ := id hM2
      refine wp_ifF (pc' := 53) 55 dX9_tow_50 rfl rfl (cmpF rfl) ?_
      refine wp_iconst (pc' := 54) (0) dX9_tow_53 rfl rfl ?_
      refine wp_iret dX9_tow_54 rfl rfl ?_
      exact hX _ _ (by simp only [mcode, K_tow, hix, hb, h27, Bool.false_eq_true, decide_true, decide_false, Bool.not_true, Bool.not_false, Bool.and_true, Bool.true_and, Bool.and_false, Bool.false_and, Bool.or_true, Bool.true_or, Bool.or_false, Bool.false_or, if_true, if_false, ite_true, ite_false]) (by decide) hM2 hF2
    · skip
      refine wp_load (pc' := 31) (j := 0) dX9_tow_30 rfl rfl rfl ?_
      refine wp_load (pc' := 32) (j := 1) dX9_tow_31 rfl rfl rfl ?_
      refine wp_v1 0 0 dX9_tow_32 ml_X9_267 hm (Nat.le_of_ble_eq_true rfl) (by omega) (by omega) ?_
      refine s_debtOf hM hf hf60 _ ?_
      refine kt_v ?_
      refine wp_sipush (pc' := 38) (200) dX9_tow_35 rfl rfl ?_
      refine wp_icmp_lt (pc' := 41) 45 dX9_tow_38 rfl rfl (fun h38 => ?_) (fun h38 => ?_)
      · skip
        refine wp_iconst (pc' := 46) (0) dX9_tow_45 rfl rfl ?_
        refine wp_iconst (pc' := 47) (1) dX9_tow_46 rfl rfl ?_
        refine wp_v3 0 0 dX9_tow_47 ml_X9_167 hm (Nat.le_of_ble_eq_true rfl) (by omega) (by omega) ?_
        refine s_goes hM hF true false true (fun G3 hM3 hF3 => ?_)
        refine kt_v ?_
        obtain ⟨hm3, hA3, -⟩ := id hM3
        refine wp_ifF (pc' := 53) 55 dX9_tow_50 rfl rfl (cmpF rfl) ?_
        refine wp_iconst (pc' := 54) (0) dX9_tow_53 rfl rfl ?_
        refine wp_iret dX9_tow_54 rfl rfl ?_
        exact hX _ _ (by simp only [mcode, K_tow, hix, hb, h27, h38, Bool.false_eq_true, decide_true, decide_false, Bool.not_true, Bool.not_false, Bool.and_true, Bool.true_and, Bool.and_false, Bool.false_and, Bool.or_true, Bool.true_or, Bool.or_false, Bool.false_or, if_true, if_false, ite_true, ite_false]) (by decide) hM3 hF3
      · skip
        refine wp_iconst (pc' := 42) (1) dX9_tow_41 rfl rfl ?_
        refine wp_goto 46 dX9_tow_42 rfl ?_
        refine wp_iconst (pc' := 47) (1) dX9_tow_46 rfl rfl ?_
        refine wp_v3 0 0 dX9_tow_47 ml_X9_167 hm (Nat.le_of_ble_eq_true rfl) (by omega) (by omega) ?_
        refine s_goes hM hF true true true (fun G4 hM4 hF4 => ?_)
        refine kt_v ?_
        replace hM4 : MH m aM own (zz σ) G4 := hM4
        obtain ⟨hm4, hA4, -⟩ := id hM4
        refine wp_ifT 55 dX9_tow_50 rfl (cmpT rfl) ?_
        refine wp_load (pc' := 56) (j := 0) dX9_tow_55 rfl rfl rfl ?_
        refine wp_get (pc' := 59) dX9_tow_56 fl_X9_62 hm4 rfl rfl ?_
        refine wp_load (pc' := 60) (j := 1) dX9_tow_59 rfl rfl rfl ?_
        refine wp_iconst (pc' := 61) (-1) dX9_tow_60 rfl rfl ?_
        refine wp_mia (pc' := 62) hM4 hF4 25 (by decide) (by decide) dX9_tow_61 rfl hjl (by decide) rfl (fun G5 hM5 hF5 => ?_)
        obtain ⟨hm5, hA5, -⟩ := id hM5
        refine wp_load (pc' := 63) (j := 0) dX9_tow_62 rfl rfl rfl ?_
        refine wp_load (pc' := 64) (j := 1) dX9_tow_63 rfl rfl rfl ?_
        refine wp_v1 0 0 dX9_tow_64 ml_X9_267 hm5 (Nat.le_of_ble_eq_true rfl) (by omega) (by omega) ?_
        refine s_debtOf hM5 hf hf60 _ ?_
        refine kt_v ?_
        refine wp_iret dX9_tow_67 rfl rfl ?_
        exact hT (by simp only [mcode, K_tow, hix, hb, h27, h38, Bool.false_eq_true, decide_true, decide_false, Bool.not_true, Bool.not_false, Bool.and_true, Bool.true_and, Bool.and_false, Bool.false_and, Bool.or_true, Bool.true_or, Bool.or_false, Bool.false_or, if_true, if_false, ite_true, ite_false]) j hj rfl _ hM5 hF5

set_option maxRecDepth 20000 in
set_option maxHeartbeats 2000000 in
theorem p_streetIs {E : XE} {d mc ms : Nat} {G : HP} {P : Ps} {m : Nat} {aM own : Nat → Nat} {σ : MS} (hM : MH m aM own σ G) {nc : Nat} (hc : σ.1 22 = nI nc) (hc30 : nc ≤ 30) {s w : Int32} (hX : ∀ c G', c = K_streetIs s w → c ≠ 0 → MH m aM own (msc σ 56 c) G' → Fr1 own G G' → P (.inl (some (.int 0))) G') (hT : K_streetIs s w = 0 → ∀ b, b < 4 → s = nI b → ∀ G', MH m aM own (zz σ) G' → Fr1 own G G' → P (.inl (some (.int (strV (zz σ) b nc w)))) G') : Sp E (d + 3) yX9_streetIs mc ms [.ref m, .int s, .int w] G P := by
  have hF : Fr1 own G G := fr1_rf
  obtain ⟨hm, hA, -⟩ := id hM
  refine sp_intro bd_X9_streetIs (v1_all rfl) (Nat.le_of_ble_eq_true rfl) ?_
  change WX _ _ _ _ _ _ 0 [some (.ref m), some (.int s), some (.int w)] [] _ 0 0
  refine wp_load (pc' := 1) (j := 0) dX9_streetIs_0 rfl rfl rfl ?_
  refine wp_load (pc' := 2) (j := 1) dX9_streetIs_1 rfl rfl rfl ?_
  refine wp_s1 0 0 dX9_streetIs_2 ml_X9_160 (Nat.le_of_ble_eq_true rfl) (by omega) (by omega) ?_
  refine s_isStreet _ ?_
  refine kt_v ?_
  rcases hb : isStreetB s with _ | _
  · skip
    refine wp_load (pc' := 6) (j := 2) dX9_streetIs_5 rfl rfl rfl ?_
    refine wp_iconst (pc' := 7) (0) dX9_streetIs_6 rfl rfl ?_
    refine wp_iconst (pc' := 8) (4) dX9_streetIs_7 rfl rfl ?_
    refine wp_s3 0 0 dX9_streetIs_8 ml_X9_153 (Nat.le_of_ble_eq_true rfl) (by omega) (by omega) ?_
    refine s_in _ _ _ ?_
    refine kt_v ?_
    rcases hb2 : inB w 0 4 with _ | _
    · skip
      refine wp_iconst (pc' := 12) (1) dX9_streetIs_11 rfl rfl ?_
      refine wp_v3 0 0 dX9_streetIs_12 ml_X9_167 hm (Nat.le_of_ble_eq_true rfl) (by omega) (by omega) ?_
      refine s_goes hM hF false false true (fun G1 hM1 hF1 => ?_)
      refine kt_v ?_
      obtain ⟨hm1, hA1, -⟩ := id hM1
      refine wp_ifF (pc' := 18) 20 dX9_streetIs_15 rfl rfl (cmpF rfl) ?_
      refine wp_iconst (pc' := 19) (0) dX9_streetIs_18 rfl rfl ?_
      refine wp_iret dX9_streetIs_19 rfl rfl ?_
      exact hX _ _ (by simp only [mcode, K_streetIs, hb, hb2, Bool.false_eq_true, decide_true, decide_false, Bool.not_true, Bool.not_false, Bool.and_true, Bool.true_and, Bool.and_false, Bool.false_and, Bool.or_true, Bool.true_or, Bool.or_false, Bool.false_or, if_true, if_false, ite_true, ite_false]) (by decide) hM1 hF1
    · skip
      refine wp_iconst (pc' := 12) (1) dX9_streetIs_11 rfl rfl ?_
      refine wp_v3 0 0 dX9_streetIs_12 ml_X9_167 hm (Nat.le_of_ble_eq_true rfl) (by omega) (by omega) ?_
      refine s_goes hM hF false true true (fun G2 hM2 hF2 => ?_)
      refine kt_v ?_
      obtain ⟨hm2, hA2, -⟩ := id hM2
      refine wp_ifF (pc' := 18) 20 dX9_streetIs_15 rfl rfl (cmpF rfl) ?_
      refine wp_iconst (pc' := 19) (0) dX9_streetIs_18 rfl rfl ?_
      refine wp_iret dX9_streetIs_19 rfl rfl ?_
      exact hX _ _ (by simp only [mcode, K_streetIs, hb, hb2, Bool.false_eq_true, decide_true, decide_false, Bool.not_true, Bool.not_false, Bool.and_true, Bool.true_and, Bool.and_false, Bool.false_and, Bool.or_true, Bool.true_or, Bool.or_false, Bool.false_or, if_true, if_false, ite_true, ite_false]) (by decide) hM2 hF2
  · skip
    refine wp_load (pc' := 6) (j := 2) dX9_streetIs_5 rfl rfl rfl ?_
    refine wp_iconst (pc' := 7) (0) dX9_streetIs_6 rfl rfl ?_
    refine wp_iconst (pc' := 8) (4) dX9_streetIs_7 rfl rfl ?_
    refine wp_s3 0 0 dX9_streetIs_8 ml_X9_153 (Nat.le_of_ble_eq_true rfl) (by omega) (by omega) ?_
    refine s_in _ _ _ ?_
    refine kt_v ?_
    rcases hb2 : inB w 0 4 with _ | _
    · skip
      refine wp_iconst (pc' := 12) (1) dX9_streetIs_11 rfl rfl ?_
      refine wp_v3 0 0 dX9_streetIs_12 ml_X9_167 hm (Nat.le_of_ble_eq_true rfl) (by omega) (by omega) ?_
      refine s_goes hM hF true false true (fun G3 hM3 hF3 => ?_)
      refine kt_v ?_
      obtain ⟨hm3, hA3, -⟩ := id hM3
      refine wp_ifF (pc' := 18) 20 dX9_streetIs_15 rfl rfl (cmpF rfl) ?_
      refine wp_iconst (pc' := 19) (0) dX9_streetIs_18 rfl rfl ?_
      refine wp_iret dX9_streetIs_19 rfl rfl ?_
      exact hX _ _ (by simp only [mcode, K_streetIs, hb, hb2, Bool.false_eq_true, decide_true, decide_false, Bool.not_true, Bool.not_false, Bool.and_true, Bool.true_and, Bool.and_false, Bool.false_and, Bool.or_true, Bool.true_or, Bool.or_false, Bool.false_or, if_true, if_false, ite_true, ite_false]) (by decide) hM3 hF3
    · skip
      refine wp_iconst (pc' := 12) (1) dX9_streetIs_11 rfl rfl ?_
      refine wp_v3 0 0 dX9_streetIs_12 ml_X9_167 hm (Nat.le_of_ble_eq_true rfl) (by omega) (by omega) ?_
      refine s_goes hM hF true true true (fun G4 hM4 hF4 => ?_)
      refine kt_v ?_
      replace hM4 : MH m aM own (zz σ) G4 := hM4
      obtain ⟨hm4, hA4, -⟩ := id hM4
      refine wp_ifT 20 dX9_streetIs_15 rfl (cmpT rfl) ?_
      obtain ⟨b, hb4, rfl⟩ := st_nI hb
      refine wp_load (pc' := 21) (j := 2) dX9_streetIs_20 rfl rfl rfl ?_
      refine wp_if_ne (pc' := 24) 33 dX9_streetIs_21 rfl rfl (fun h21 => ?_) (fun h21 => ?_)
      · skip
        refine wp_load (pc' := 34) (j := 2) dX9_streetIs_33 rfl rfl rfl ?_
        refine wp_iconst (pc' := 35) (1) dX9_streetIs_34 rfl rfl ?_
        refine wp_icmp_ne (pc' := 38) 46 dX9_streetIs_35 rfl rfl (fun h35 => ?_) (fun h35 => ?_)
        · skip
          refine wp_load (pc' := 47) (j := 2) dX9_streetIs_46 rfl rfl rfl ?_
          refine wp_iconst (pc' := 48) (2) dX9_streetIs_47 rfl rfl ?_
          refine wp_icmp_ne (pc' := 51) 60 dX9_streetIs_48 rfl rfl (fun h48 => ?_) (fun h48 => ?_)
          · skip
            refine wp_load (pc' := 61) (j := 2) dX9_streetIs_60 rfl rfl rfl ?_
            refine wp_iconst (pc' := 62) (3) dX9_streetIs_61 rfl rfl ?_
            refine wp_icmp_ne (pc' := 65) 74 dX9_streetIs_62 rfl rfl (fun h62 => ?_) (fun h62 => ?_)
            · skip
              refine wp_load (pc' := 75) (j := 0) dX9_streetIs_74 rfl rfl rfl ?_
              refine wp_get (pc' := 78) dX9_streetIs_75 fl_X9_143 hm4 rfl rfl ?_
              refine wp_load (pc' := 79) (j := 1) dX9_streetIs_78 rfl rfl rfl ?_
              refine wp_iald (pc' := 80) dX9_streetIs_79 (hA4 55 (by decide)) rfl (show b < 4 from hb4) (by decide) rfl ?_
              refine wp_iret dX9_streetIs_80 rfl rfl ?_
              have hTT := hT (by simp only [mcode, K_streetIs, hb, hb2, Bool.false_eq_true, decide_true, decide_false, Bool.not_true, Bool.not_false, Bool.and_true, Bool.true_and, Bool.and_false, Bool.false_and, Bool.or_true, Bool.true_or, Bool.or_false, Bool.false_or, if_true, if_false, ite_true, ite_false]) b hb4 rfl _ hM4 hF4
              simp only [strV, hb, hb2, h21, h35, h48, h62, Bool.false_eq_true, decide_true, decide_false, Bool.not_true, Bool.not_false, Bool.and_true, Bool.true_and, Bool.and_false, Bool.false_and, Bool.or_true, Bool.true_or, Bool.or_false, Bool.false_or, if_true, if_false, ite_true, ite_false] at hTT
              exact hTT
            · skip
              refine wp_load (pc' := 66) (j := 0) dX9_streetIs_65 rfl rfl rfl ?_
              refine wp_get (pc' := 69) dX9_streetIs_66 fl_X9_140 hm4 rfl rfl ?_
              refine wp_load (pc' := 70) (j := 1) dX9_streetIs_69 rfl rfl rfl ?_
              refine wp_iald (pc' := 71) dX9_streetIs_70 (hA4 54 (by decide)) rfl (show b < 4 from hb4) (by decide) rfl ?_
              refine wp_goto 80 dX9_streetIs_71 rfl ?_
              refine wp_iret dX9_streetIs_80 rfl rfl ?_
              have hTT := hT (by simp only [mcode, K_streetIs, hb, hb2, Bool.false_eq_true, decide_true, decide_false, Bool.not_true, Bool.not_false, Bool.and_true, Bool.true_and, Bool.and_false, Bool.false_and, Bool.or_true, Bool.true_or, Bool.or_false, Bool.false_or, if_true, if_false, ite_true, ite_false]) b hb4 rfl _ hM4 hF4
              simp only [strV, hb, hb2, h21, h35, h48, h62, Bool.false_eq_true, decide_true, decide_false, Bool.not_true, Bool.not_false, Bool.and_true, Bool.true_and, Bool.and_false, Bool.false_and, Bool.or_true, Bool.true_or, Bool.or_false, Bool.false_or, if_true, if_false, ite_true, ite_false] at hTT
              exact hTT
          · skip
            refine wp_load (pc' := 52) (j := 0) dX9_streetIs_51 rfl rfl rfl ?_
            refine wp_get (pc' := 55) dX9_streetIs_52 fl_X9_137 hm4 rfl rfl ?_
            refine wp_load (pc' := 56) (j := 1) dX9_streetIs_55 rfl rfl rfl ?_
            refine wp_iald (pc' := 57) dX9_streetIs_56 (hA4 53 (by decide)) rfl (show b < 4 from hb4) (by decide) rfl ?_
            refine wp_goto 80 dX9_streetIs_57 rfl ?_
            refine wp_iret dX9_streetIs_80 rfl rfl ?_
            have hTT := hT (by simp only [mcode, K_streetIs, hb, hb2, Bool.false_eq_true, decide_true, decide_false, Bool.not_true, Bool.not_false, Bool.and_true, Bool.true_and, Bool.and_false, Bool.false_and, Bool.or_true, Bool.true_or, Bool.or_false, Bool.false_or, if_true, if_false, ite_true, ite_false]) b hb4 rfl _ hM4 hF4
            simp only [strV, hb, hb2, h21, h35, h48, Bool.false_eq_true, decide_true, decide_false, Bool.not_true, Bool.not_false, Bool.and_true, Bool.true_and, Bool.and_false, Bool.false_and, Bool.or_true, Bool.true_or, Bool.or_false, Bool.false_or, if_true, if_false, ite_true, ite_false] at hTT
            exact hTT
        · skip
          refine wp_load (pc' := 39) (j := 0) dX9_streetIs_38 rfl rfl rfl ?_
          refine wp_load (pc' := 40) (j := 1) dX9_streetIs_39 rfl rfl rfl ?_
          refine wp_v1 0 0 dX9_streetIs_40 ml_X9_270 hm4 (Nat.le_of_ble_eq_true rfl) (by omega) (by omega) ?_
          refine s_takenIn hM4 hc hc30 _ ?_
          refine kt_v ?_
          refine wp_goto 80 dX9_streetIs_43 rfl ?_
          refine wp_iret dX9_streetIs_80 rfl rfl ?_
          have hTT := hT (by simp only [mcode, K_streetIs, hb, hb2, Bool.false_eq_true, decide_true, decide_false, Bool.not_true, Bool.not_false, Bool.and_true, Bool.true_and, Bool.and_false, Bool.false_and, Bool.or_true, Bool.true_or, Bool.or_false, Bool.false_or, if_true, if_false, ite_true, ite_false]) b hb4 rfl _ hM4 hF4
          simp only [strV, hb, hb2, h21, h35, Bool.false_eq_true, decide_true, decide_false, Bool.not_true, Bool.not_false, Bool.and_true, Bool.true_and, Bool.and_false, Bool.false_and, Bool.or_true, Bool.true_or, Bool.or_false, Bool.false_or, if_true, if_false, ite_true, ite_false] at hTT
          exact hTT
      · skip
        refine wp_load (pc' := 25) (j := 0) dX9_streetIs_24 rfl rfl rfl ?_
        refine wp_get (pc' := 28) dX9_streetIs_25 fl_X9_134 hm4 rfl rfl ?_
        refine wp_load (pc' := 29) (j := 1) dX9_streetIs_28 rfl rfl rfl ?_
        refine wp_iald (pc' := 30) dX9_streetIs_29 (hA4 52 (by decide)) rfl (show b < 4 from hb4) (by decide) rfl ?_
        refine wp_goto 80 dX9_streetIs_30 rfl ?_
        refine wp_iret dX9_streetIs_80 rfl rfl ?_
        have hTT := hT (by simp only [mcode, K_streetIs, hb, hb2, Bool.false_eq_true, decide_true, decide_false, Bool.not_true, Bool.not_false, Bool.and_true, Bool.true_and, Bool.and_false, Bool.false_and, Bool.or_true, Bool.true_or, Bool.or_false, Bool.false_or, if_true, if_false, ite_true, ite_false]) b hb4 rfl _ hM4 hF4
        simp only [strV, hb, hb2, h21, Bool.false_eq_true, decide_true, decide_false, Bool.not_true, Bool.not_false, Bool.and_true, Bool.true_and, Bool.and_false, Bool.false_and, Bool.or_true, Bool.true_or, Bool.or_false, Bool.false_or, if_true, if_false, ite_true, ite_false] at hTT
        exact hTT

