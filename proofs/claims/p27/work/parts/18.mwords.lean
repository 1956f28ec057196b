/-! what the class computes: words alone -/
theorem nI_nm1 {n : Nat} (h : n < 2 ^ 31) : ¬ nI n = -1 := fun e => nI_pos h (by rw [e]; decide)
abbrev ix (x : Int32) : Nat := x.toNatClampNeg
theorem ix_nI {n : Nat} (h : n < 2 ^ 31) : ix (nI n) = n := nI_clamp h
abbrev zz (σ : MS) : MS := msc σ 56 0
def K_block (s mt : Int32) : Int32 := mcode (isStreetB s && isMetreB mt) true true
def K_times (w f t : Int32) : Int32 := mcode (inB w 1 127 && inB f 0 95 && !decide (t ≤ f) && !decide (96 < t)) true true
def K_dates (f t : Int32) : Int32 := mcode (inB f 0 520 && inB t f 520) true true
def K_sign (σ : MS) (st f t u sy : Int32) : Int32 := mcode (isStreetB st && isMetreB f && isMetreB t) (!decide (t < f) && inB u 0 31 && inB sy 0 96) (!decide (30 ≤ σ.1 7))
def K_takeDown (σ : MS) (i : Int32) : Int32 := mcode (inB i 0 (σ.1 7 - 1)) (inB i 0 (σ.1 7 - 1) && !decide (σ.2.1 21 (ix i) ≤ 49999)) true
def K_rule (s mt q : Int32) : Int32 := mcode (isStreetB s && isMetreB mt) (inB q 0 49999) true
def K_car (σ : MS) (l u : Int32) : Int32 := mcode (inB l 3 12 && inB u 0 4) (!decide (30 ≤ σ.1 22)) true
def K_permit (σ : MS) (np : Nat) (i s h f t : Int32) : Int32 := mcode (isCarB σ i && isStreetB s && inB h 0 9) (inB f 0 520 && inB t f 520) (!decide (40 ≤ σ.1 29) && (inB f 0 520 && inB t f 520) && roomF σ np h (ix f) (ix t + 1 - ix f))
def K_hand (σ : MS) (p i : Int32) : Int32 := mcode (inB p 0 (σ.1 29 - 1) && isCarB σ i) true true
def K_countsAs (σ : MS) (i s : Int32) : Int32 := mcode (isCarB σ i && isStreetB s) true true
def K_park (σ : MS) (nc : Nat) (i s mt : Int32) : Int32 := mcode (isCarB σ i && isStreetB s && isMetreB mt) (isCarB σ i && isStreetB s && isMetreB mt && decide (σ.2.1 25 (ix i) = -1) && gapB σ s mt (σ.2.1 23 (ix i)) nc) true
def K_leave (σ : MS) (i : Int32) : Int32 := mcode (isCarB σ i) (isCarB σ i && !decide (σ.2.1 25 (ix i) = -1)) true
def K_gap (s l : Int32) : Int32 := mcode (isStreetB s) (inB l 3 12) true
def K_pay (σ : MS) (i s f q : Int32) : Int32 := mcode (isCarB σ i && isStreetB s) (inB f (if 96 ≤ σ.1 0 then σ.1 0 - 96 else 0) (σ.1 0) && inB q 1 96) (!decide (200 ≤ σ.1 35))
def K_car1 (σ : MS) (i : Int32) : Int32 := mcode (isCarB σ i) true true
def K_look (s : Int32) : Int32 := mcode (isStreetB s) true true
def K_appeal (σ : MS) (i : Int32) : Int32 := mcode (isFineB σ i) (isFineB σ i && !σ.2.2 49 (ix i) && !σ.2.2 51 (ix i)) true
def K_payFine (σ : MS) (i : Int32) : Int32 := mcode (isFineB σ i) (isFineB σ i && !σ.2.2 51 (ix i) && !σ.2.2 50 (ix i)) true
def K_fine (σ : MS) (i w : Int32) : Int32 := mcode (isFineB σ i) (inB w 0 5) true
def K_tow (σ : MS) (nf : Nat) (i : Int32) : Int32 := mcode (isCarB σ i) (isCarB σ i && !decide (σ.2.1 25 (ix i) = -1) && !decide (debtF σ (ix i) nf < 200)) true
def K_streetIs (s w : Int32) : Int32 := mcode (isStreetB s) (inB w 0 4) true
def K_pass (σ : MS) (q : Int32) : Int32 := mcode (inB q 1 96) (!decide (49999 < σ.1 0 + q)) true
def rsF (σ : MS) : MS := msc (msc (msc (msc (msc σ 2 127) 3 0) 4 96) 5 0) 6 520
def sgnF (σ : MS) (n : Nat) (st f t u sy : Int32) (fee tmp : Bool) : MS := msc (rsF (mar (mar (mar (mar (mar (mar (mar (mbr (mbr (mar (mar (mar (mar (mar (zz σ) 8 n st) 9 n f) 10 n t) 11 n u) 12 n sy) 13 n fee) 14 n tmp) 15 n (σ.1 2)) 16 n (σ.1 3)) 17 n (σ.1 4)) 18 n (σ.1 5)) 19 n (σ.1 6)) 20 n (σ.1 0)) 21 n 50000)) 7 (σ.1 7 + 1)
def carF (σ : MS) (n : Nat) (l u : Int32) : MS := msc (mar (mar (mar (zz σ) 23 n l) 24 n u) 25 n (-1)) 22 (σ.1 22 + 1)
def perF (σ : MS) (n : Nat) (i s h f t : Int32) : MS := msc (mar (mar (mar (mar (mar (zz σ) 30 n i) 31 n s) 32 n h) 33 n f) 34 n t) 29 (σ.1 29 + 1)
def parkF (σ : MS) (i : Nat) (s mt : Int32) : MS := mar (mar (mar (mar (zz σ) 25 i s) 26 i mt) 27 i (σ.1 0)) 28 i (σ.2.1 28 i + 1)
def payF (σ : MS) (n : Nat) (i s f q : Int32) (a : Nat) : MS := mar (msc (mar (mar (mar (mar (zz σ) 36 n i) 37 n s) 38 n f) 39 n q) 35 (σ.1 35 + 1)) 53 a (σ.2.1 53 a + q * σ.2.1 52 a)
def judNow (σ : MS) (i : Nat) : Int32 := judNF σ i (ix (σ.2.1 23 i)) (ix (σ.1 7)) (ix (σ.1 29)) (ix (σ.1 35)) (ix (60 * σ.2.1 25 i + σ.2.1 26 i))
def givF (σ : MS) (i : Nat) (w : Int32) : MS := msc (mar (mbr (mar (mar (mar (mar (mar (mar (mar σ 41 (ix (σ.1 40)) (nI i)) 42 (ix (σ.1 40)) (σ.2.1 25 i)) 43 (ix (σ.1 40)) (σ.2.1 26 i)) 44 (ix (σ.1 40)) (σ.2.1 27 i)) 45 (ix (σ.1 40)) (σ.2.1 28 i)) 46 (ix (σ.1 40)) (σ.1 0)) 47 (ix (σ.1 40)) w) 48 (ix (σ.1 40)) (decide (w = 1))) 54 (ix (σ.2.1 25 i)) (σ.2.1 54 (ix (σ.2.1 25 i)) + 1)) 40 (σ.1 40 + 1)
def look1 (σ : MS) (s : Int32) (i : Nat) : MS := if decide (σ.2.1 25 i = s) && !decide (60 ≤ σ.1 40) && !hfF σ i (ix (σ.1 40)) && !decide (judNow σ i = 0) then givF σ i (judNow σ i) else σ
def lookF (σ : MS) (s : Int32) : Nat → MS
  | 0 => σ
  | k + 1 => look1 (lookF σ s k) s k
def begF (σ : MS) (k : Nat) : MS := mar (mar σ 52 k (σ.2.1 52 k + (if !decide (100 * σ.2.1 55 k ≤ 460800) && !decide (20 ≤ σ.2.1 52 k) then 1 else if !decide (230400 ≤ 100 * σ.2.1 55 k) && !decide (σ.2.1 52 k ≤ 0) then -1 else 0))) 55 k 0
def tkF (σ : MS) (nc : Nat) : Nat → MS
  | 0 => σ
  | s + 1 => mar (tkF σ nc s) 55 s ((tkF σ nc s).2.1 55 s + takenF (tkF σ nc s) (nI s) nc)
def bgF (σ : MS) : Nat → MS
  | 0 => σ
  | s + 1 => begF (bgF σ s) s
def quarF (σ : MS) (nc : Nat) : MS := if rem (σ.1 0 + 1) 96 = 0 then bgF (msc (tkF σ nc 4) 0 (σ.1 0 + 1)) 4 else msc (tkF σ nc 4) 0 (σ.1 0 + 1)
def passF (σ : MS) (nc : Nat) : Nat → MS
  | 0 => σ
  | n + 1 => quarF (passF σ nc n) nc
def fineV (σ : MS) (k : Nat) (w : Int32) : Int32 := if w = 0 then σ.2.1 41 k else if w = 1 then σ.2.1 42 k else if w = 2 then σ.2.1 46 k else if w = 3 then σ.2.1 47 k else if w = 4 then b2i (σ.2.2 50 k) else b2i (σ.2.2 51 k)
def strV (σ : MS) (a nc : Nat) (w : Int32) : Int32 := if w = 0 then σ.2.1 52 a else if w = 1 then takenF σ (nI a) nc else if w = 2 then σ.2.1 53 a else if w = 3 then σ.2.1 54 a else σ.2.1 55 a
theorem st_nI {x : Int32} (h : isStreetB x = true) : ∃ j, j < 4 ∧ x = nI j := clt_nI (n := 4) h (by decide)
theorem mt_nI {x : Int32} (h : isMetreB x = true) : ∃ j, j < 60 ∧ x = nI j := clt_nI (n := 60) h (by decide)
theorem day_nI {x : Int32} (h : inB x 0 520 = true) : ∃ j, j < 521 ∧ x = nI j := clt_nI (n := 521) h (by decide)
theorem mul60 {a b : Nat} : (60 : Int32) * nI a + nI b = nI (60 * a + b) := by rw [show (60 : Int32) = nI 60 from rfl, pk_mul, nI_add]
theorem mbr_at {σ : MS} {k i : Nat} {x : Bool} : (mbr σ k i x).2.2 k i = x := by simp only [mbr, va_up, if_true]
theorem mar_at {σ : MS} {k i : Nat} {x : Int32} : (mar σ k i x).2.1 k i = x := by simp only [mar, va_up, if_true]
def CarOK (σ : MS) (i : Nat) : Prop := ∃ L o, σ.2.1 23 i = nI L ∧ L ≤ 60 ∧ 60 * σ.2.1 25 i + σ.2.1 26 i = nI o ∧ o + L ≤ 240
theorem judNow_eq {σ : MS} {i L n np ny o : Nat} (hs : σ.1 7 = nI n) (hs30 : n ≤ 30) (hp : σ.1 29 = nI np) (hp40 : np ≤ 40) (hy : σ.1 35 = nI ny) (hy200 : ny ≤ 200) (hL : σ.2.1 23 i = nI L) (hL12 : L ≤ 60) (ho : 60 * σ.2.1 25 i + σ.2.1 26 i = nI o) (ho240 : o + L ≤ 240) : judNow σ i = judNF σ i L n np ny o := by
  unfold judNow
  rw [hs, hp, hy, hL, ho, ix_nI (by omega), ix_nI (by omega), ix_nI (by omega), ix_nI (by omega), ix_nI (by omega)]
def FineOK (σ : MS) (j : Nat) : Prop := ∃ i L, i < 30 ∧ σ.2.1 41 j = nI i ∧ σ.2.1 23 i = nI L ∧ L ≤ 60
def judFine (σ : MS) (j : Nat) : Int32 := judF σ (ix (σ.2.1 41 j)) (ix (σ.2.1 23 (ix (σ.2.1 41 j)))) (ix (σ.1 7)) (ix (σ.1 29)) (ix (σ.1 35)) (σ.2.1 42 j) (σ.2.1 43 j) (σ.2.1 44 j) (σ.2.1 46 j)
theorem judFine_eq {σ : MS} {j i L n np ny : Nat} (hs : σ.1 7 = nI n) (hs30 : n ≤ 30) (hp : σ.1 29 = nI np) (hp40 : np ≤ 40) (hy : σ.1 35 = nI ny) (hy200 : ny ≤ 200) (hi : i < 30) (hc : σ.2.1 41 j = nI i) (hL : σ.2.1 23 i = nI L) (hL12 : L ≤ 60) : judFine σ j = judF σ i L n np ny (σ.2.1 42 j) (σ.2.1 43 j) (σ.2.1 44 j) (σ.2.1 46 j) := by
  unfold judFine
  rw [hs, hp, hy, hc, ix_nI (n := i) (by omega), hL, ix_nI (by omega), ix_nI (by omega), ix_nI (by omega), ix_nI (by omega)]
theorem dec_ab (a b : Int32) : a - b + (-1) = a - (b + 1) := by
  rw [Int32.sub_eq_add_neg (a := a) (b := b), Int32.sub_eq_add_neg (a := a) (b := b + 1), Int32.neg_add, Int32.sub_eq_add_neg (a := -b) (b := 1), Int32.add_assoc]
theorem dec59 (k : Nat) : nI 59 - nI k + (-1) = nI 59 - nI (k + 1) := (dec_ab (nI 59) (nI k)).trans (by rw [← nI_succ k])
def LI (τ : MS) (n nc np ny : Nat) : Prop := τ.1 7 = nI n ∧ n ≤ 30 ∧ τ.1 22 = nI nc ∧ nc ≤ 30 ∧ τ.1 29 = nI np ∧ np ≤ 40 ∧ τ.1 35 = nI ny ∧ ny ≤ 200 ∧ (∃ nf, nf ≤ 60 ∧ τ.1 40 = nI nf) ∧ ∀ i, i < nc → ¬ τ.2.1 25 i = -1 → CarOK τ i ∧ ∃ a, a < 4 ∧ τ.2.1 25 i = nI a
theorem li_giv {τ : MS} {n nc np ny nf i : Nat} {w : Int32} (h : LI τ n nc np ny) (hf : τ.1 40 = nI nf) (hf60 : nf < 60) : LI (givF τ i w) n nc np ny := by
  obtain ⟨h1, h2, h3, h4, h5, h6, h7, h8, -, h10⟩ := h
  refine ⟨h1, h2, h3, h4, h5, h6, h7, h8, ⟨nf + 1, by omega, ?_⟩, h10⟩
  show τ.1 40 + 1 = nI (nf + 1)
  rw [hf, nI_1]
theorem li_look1 {τ : MS} {n nc np ny i : Nat} {s : Int32} (h : LI τ n nc np ny) : LI (look1 τ s i) n nc np ny := by
  unfold look1
  split
  · next hc =>
    obtain ⟨nf, hf60, hf⟩ := h.2.2.2.2.2.2.2.2.1
    refine li_giv h hf ?_
    simp only [Bool.and_eq_true, Bool.not_eq_true', decide_eq_false_iff_not] at hc
    rcases Nat.lt_or_ge nf 60 with q | q
    · exact q
    · exact absurd (show (60 : Int32) ≤ τ.1 40 from by rw [hf]; exact nI_le q (by omega)) hc.1.1.2
  · exact h
theorem li_look {τ : MS} {n nc np ny : Nat} {s : Int32} (h : LI τ n nc np ny) : ∀ k, LI (lookF τ s k) n nc np ny
  | 0 => h
  | k + 1 => li_look1 (li_look h k)
theorem tk_1 {σ : MS} {nc : Nat} : ∀ k, (tkF σ nc k).1 = σ.1
  | 0 => rfl
  | k + 1 => tk_1 (σ := σ) (nc := nc) k
theorem bg_1 {σ : MS} : ∀ k, (bgF σ k).1 = σ.1
  | 0 => rfl
  | k + 1 => bg_1 (σ := σ) k
theorem quar_1 {σ : MS} {nc : Nat} (j : Nat) (h : j ≠ 0) : (quarF σ nc).1 j = σ.1 j := by
  unfold quarF
  split
  · rw [bg_1]
    show va_up (tkF σ nc 4).1 0 _ j = _
    rw [tk_1, va_up, if_neg h]
  · show va_up (tkF σ nc 4).1 0 _ j = _
    rw [tk_1, va_up, if_neg h]
theorem pass_1 {σ : MS} {nc : Nat} (j : Nat) (h : j ≠ 0) : ∀ k, (passF σ nc k).1 j = σ.1 j
  | 0 => rfl
  | k + 1 => (quar_1 j h).trans (pass_1 j h k)
def s0M : MS := (fun _ => 0, fun _ _ => 0, fun _ _ => false)
def prF (σ : MS) : Nat → MS
  | 0 => σ
  | k + 1 => mar (prF σ k) 52 k 4
def sIM : MS := prF (rsF s0M) 4
