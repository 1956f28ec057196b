/-! the reference: its state as numbers -/
abbrev MS : Type := (Nat → Int32) × (Nat → Nat → Int32) × (Nat → Nat → Bool)
def mlen (k : Nat) : Nat := match k with
  | 1 => 240
  | 8 => 30
  | 9 => 30
  | 10 => 30
  | 11 => 30
  | 12 => 30
  | 13 => 30
  | 14 => 30
  | 15 => 30
  | 16 => 30
  | 17 => 30
  | 18 => 30
  | 19 => 30
  | 20 => 30
  | 21 => 30
  | 23 => 30
  | 24 => 30
  | 25 => 30
  | 26 => 30
  | 27 => 30
  | 28 => 30
  | 30 => 40
  | 31 => 40
  | 32 => 40
  | 33 => 40
  | 34 => 40
  | 36 => 200
  | 37 => 200
  | 38 => 200
  | 39 => 200
  | 41 => 60
  | 42 => 60
  | 43 => 60
  | 44 => 60
  | 45 => 60
  | 46 => 60
  | 47 => 60
  | 48 => 60
  | 49 => 60
  | 50 => 60
  | 51 => 60
  | 52 => 4
  | 53 => 4
  | 54 => 4
  | 55 => 4
  | _ => 0
def mbool (k : Nat) : Bool := match k with
  | 1 => true
  | 13 => true
  | 14 => true
  | 48 => true
  | 49 => true
  | 50 => true
  | 51 => true
  | _ => false
def marr (k : Nat) : Bool := decide (0 < mlen k)
def mcell (σ : MS) (k : Nat) : HE := match mbool k with
  | true => hZ (mlen k) (fun i => b2i (σ.2.2 k i))
  | false => hI (mlen k) (σ.2.1 k)
def mF (aM : Nat → Nat) (sc : Nat → Int32) : List Value := [.int (sc 0), .ref (aM 1), .int (sc 2), .int (sc 3), .int (sc 4), .int (sc 5), .int (sc 6), .int (sc 7), .ref (aM 8), .ref (aM 9), .ref (aM 10), .ref (aM 11), .ref (aM 12), .ref (aM 13), .ref (aM 14), .ref (aM 15), .ref (aM 16), .ref (aM 17), .ref (aM 18), .ref (aM 19), .ref (aM 20), .ref (aM 21), .int (sc 22), .ref (aM 23), .ref (aM 24), .ref (aM 25), .ref (aM 26), .ref (aM 27), .ref (aM 28), .int (sc 29), .ref (aM 30), .ref (aM 31), .ref (aM 32), .ref (aM 33), .ref (aM 34), .int (sc 35), .ref (aM 36), .ref (aM 37), .ref (aM 38), .ref (aM 39), .int (sc 40), .ref (aM 41), .ref (aM 42), .ref (aM 43), .ref (aM 44), .ref (aM 45), .ref (aM 46), .ref (aM 47), .ref (aM 48), .ref (aM 49), .ref (aM 50), .ref (aM 51), .ref (aM 52), .ref (aM 53), .ref (aM 54), .ref (aM 55), .int (sc 56)]
def MH (m : Nat) (aM own : Nat → Nat) (σ : MS) (G : HP) : Prop := G m = some (hO 10 (mF aM σ.1)) ∧ (∀ k, marr k = true → G (aM k) = some (mcell σ k)) ∧ (own m = 1 ∧ ∀ k, marr k = true → own (aM k) = 1) ∧ ∀ i k, marr i = true → marr k = true → aM i = aM k → i = k
/-- a new scalar, a new place of an array of ints, of booleans -/
def msc (σ : MS) (k : Nat) (x : Int32) : MS := (va_up σ.1 k x, σ.2)
def mar (σ : MS) (k i : Nat) (x : Int32) : MS := (σ.1, va_up σ.2.1 k (va_up (σ.2.1 k) i x), σ.2.2)
def mbr (σ : MS) (k i : Nat) (x : Bool) : MS := (σ.1, σ.2.1, va_up σ.2.2 k (va_up (σ.2.2 k) i x))
theorem mcell_no {σ : MS} {k : Nat} {c : Nat} {fs : List Value} : mcell σ k ≠ hO c fs := by
  unfold mcell
  split <;> exact fun h => nomatch h
theorem MH.ne {m : Nat} {aM own : Nat → Nat} {σ : MS} {G : HP} (h : MH m aM own σ G) {k : Nat} (hk : marr k = true) : aM k ≠ m := fun e => by
  have := h.2.1 k hk
  rw [e, h.1] at this
  exact mcell_no (Option.some.inj this).symm
theorem mh_sc {m : Nat} {aM own : Nat → Nat} {σ : MS} {G : HP} (h : MH m aM own σ G) (k : Nat) (x : Int32) {fs : List Value} (hf : fs = mF aM (msc σ k x).1) : MH m aM own (msc σ k x) (hu G m (hO 10 fs)) := by
  subst hf
  exact ⟨hu_s, fun i hi => (hu_n (h.ne hi)).trans (h.2.1 i hi), h.2.2⟩
theorem mcell_mar {σ : MS} {k q i : Nat} {x : Int32} (h : q ≠ k) : mcell (mar σ k i x) q = mcell σ q := by
  unfold mcell
  split
  · rfl
  · show hI _ (va_up σ.2.1 k (va_up (σ.2.1 k) i x) q) = _
    rw [va_up, if_neg h]
theorem mcell_mbr {σ : MS} {k q i : Nat} {x : Bool} (h : q ≠ k) : mcell (mbr σ k i x) q = mcell σ q := by
  unfold mcell
  split
  · show hZ _ (fun j => b2i (va_up σ.2.2 k (va_up (σ.2.2 k) i x) q j)) = _
    rw [va_up, if_neg h]
  · rfl
theorem mh_a {m : Nat} {aM own : Nat → Nat} {σ σ' : MS} {G : HP} (h : MH m aM own σ G) {k : Nat} (hk : marr k = true) (h1 : σ'.1 = σ.1) (h2 : ∀ q, q ≠ k → mcell σ' q = mcell σ q) : MH m aM own σ' (hu G (aM k) (mcell σ' k)) := by
  refine ⟨(hu_n (h.ne hk).symm).trans (by rw [h1]; exact h.1), fun q hq => ?_, h.2.2⟩
  by_cases e : q = k
  · subst e
    rw [hu_s]
  · rw [hu_n (fun z => e (h.2.2.2 q k hq hk z)), h.2.1 q hq, h2 q e]
/-- what a method of the reference leaves as it was -/
def Fr1 (own : Nat → Nat) (G G' : HP) : Prop := ∀ a, own a ≠ 1 → G' a = G a
theorem fr1_rf {own : Nat → Nat} {G : HP} : Fr1 own G G := fun _ _ => rfl
theorem fr1_m {m : Nat} {aM own : Nat → Nat} {σ : MS} {G G0 : HP} (h : MH m aM own σ G) (hf : Fr1 own G0 G) {e : HE} : Fr1 own G0 (hu G m e) := fun a ha => (hu_n (fun z => ha (by rw [z]; exact h.2.2.1.1))).trans (hf a ha)
theorem fr1_a {m : Nat} {aM own : Nat → Nat} {σ : MS} {G G0 : HP} (h : MH m aM own σ G) (hf : Fr1 own G0 G) {k : Nat} (hk : marr k = true) {e : HE} : Fr1 own G0 (hu G (aM k) e) := fun a ha => (hu_n (fun z => ha (by rw [z]; exact h.2.2.1.2 k hk))).trans (hf a ha)
def inB (v lo hi : Int32) : Bool := !decide (v < lo) && !decide (hi < v)
section MW
variable {E : XE} {d : Nat} {M : ME} {mc ms : Nat} {P : Ps} {pc pc' : Nat} {ls ls' : List (Option Value)} {st : List Value} {G G0 : HP} {k n : Nat} {m : Nat} {aM own : Nat → Nat} {σ : MS}
/-- the reference writes a number -/
theorem wp_mput (hM : MH m aM own σ G) (hF : Fr1 own G0 G) {i kf : Nat} {de : String} {x : Int32} (hd : decode M.2.1 pc = .ok (.putfield i, 3)) (hf : FL M.1.cls i 10 kf .int false de) (hs : (mF aM σ.1).set kf (.int x) = mF aM (msc σ kf x).1) (hl : kf < 57) (hq : pc + 3 = pc') (h : ∀ G', MH m aM own (msc σ kf x) G' → Fr1 own G0 G' → WX E d M mc ms P pc' ls st G' k n) : WX E d M mc ms P pc ls (.int x :: .ref m :: st) G k n :=
  wp_put hd hf hM.1 (show kf < (mF aM σ.1).length from hl) rfl rfl rfl hq (h _ (mh_sc hM kf x hs) (fr1_m hM hF))
theorem wp_mia (hM : MH m aM own σ G) (hF : Fr1 own G0 G) (kf : Nat) (hk : marr kf = true) (hb : mbool kf = false) {j : Nat} {i x : Int32} (hd : decode M.2.1 pc = .ok (.iastore, 1)) (hi : i = nI j) (hj : j < mlen kf) (hN : mlen kf < 2 ^ 31) (hq : pc + 1 = pc') (h : ∀ G', MH m aM own (mar σ kf j x) G' → Fr1 own G0 G' → WX E d M mc ms P pc' ls st G' k n) : WX E d M mc ms P pc ls (.int x :: .int i :: .ref (aM kf) :: st) G k n := by
  have e1 : mcell σ kf = hI (mlen kf) (σ.2.1 kf) := by unfold mcell; rw [hb]
  have e2 : mcell (mar σ kf j x) kf = hI (mlen kf) (va_up (σ.2.1 kf) j x) := by
    unfold mcell; rw [hb]
    show hI _ (va_up σ.2.1 kf (va_up (σ.2.1 kf) j x) kf) = _
    rw [va_up, if_pos rfl]
  refine wp_iast hd ((hM.2.1 kf hk).trans (by rw [e1])) hi hj hN hq (h _ ?_ (fr1_a hM hF hk))
  rw [← e2]
  exact mh_a hM hk rfl (fun q hq => mcell_mar hq)
theorem wp_mza (hM : MH m aM own σ G) (hF : Fr1 own G0 G) (kf : Nat) (hk : marr kf = true) (hb : mbool kf = true) {j : Nat} {i : Int32} {x : Bool} (hd : decode M.2.1 pc = .ok (.bastore, 1)) (hi : i = nI j) (hj : j < mlen kf) (hN : mlen kf < 2 ^ 31) (hq : pc + 1 = pc') (h : ∀ G', MH m aM own (mbr σ kf j x) G' → Fr1 own G0 G' → WX E d M mc ms P pc' ls st G' k n) : WX E d M mc ms P pc ls (.int (b2i x) :: .int i :: .ref (aM kf) :: st) G k n := by
  have e1 : mcell σ kf = hZ (mlen kf) (fun i => b2i (σ.2.2 kf i)) := by unfold mcell; rw [hb]
  have e2 : mcell (mbr σ kf j x) kf = hZ (mlen kf) (va_up (fun i => b2i (σ.2.2 kf i)) j (b2i x)) := by
    unfold mcell; rw [hb]
    show hZ _ (fun i => b2i (va_up σ.2.2 kf (va_up (σ.2.2 kf) j x) kf i)) = _
    congr 1
    funext q
    rw [va_up, if_pos rfl]
    unfold va_up
    split <;> rfl
  refine wp_zast hd ((hM.2.1 kf hk).trans (by rw [e1])) hi hj hN vnar_b2i hq (h _ ?_ (fr1_a hM hF hk))
  rw [← e2]
  exact mh_a hM hk rfl (fun q hq => mcell_mbr hq)
theorem cgeT {x : Int32} {k n : Nat} (hx : x = nI n) (h : n ≤ k) (hk : k < 2 ^ 31) : cmpP .ge (nI k) x := by subst hx; exact nI_le h hk
theorem cgeF {x : Int32} {k n : Nat} (hx : x = nI n) (h : k < n) (hk : n < 2 ^ 31) : ¬ cmpP .ge (nI k) x := by subst hx; exact nI_ge h hk
theorem clt_nI {x : Int32} {n : Nat} (h : inB x 0 (nI n - 1) = true) (hn : n < 2 ^ 31) : ∃ j, j < n ∧ x = nI j := by
  unfold inB at h
  simp only [Bool.and_eq_true, Bool.not_eq_true', decide_eq_false_iff_not] at h
  cases n with
  | zero =>
    exfalso
    have h1 : nI 0 - 1 = (-1 : Int32) := by decide
    rw [h1] at h
    have h2 : (0 : Int) ≤ x.toInt := by have := h.1; rw [Int32.lt_iff_toInt_lt, Int32.toInt_zero] at this; omega
    have h3 : x.toInt ≤ -1 := by have := h.2; rw [Int32.lt_iff_toInt_lt, show ((-1 : Int32).toInt) = -1 from by decide] at this; omega
    omega
  | succ k =>
    rw [nI_pred] at h
    obtain ⟨j, hj, e⟩ := nI_of (x := x) h.1
    refine ⟨j, ?_, e⟩
    subst e
    have := h.2
    rw [nI_ltI (by omega) hj] at this
    omega
end MW
/-! what it computes -/
def rem (x y : Int32) : Int32 := x - x / y * y
def hasB (w k : Int32) : Bool := decide (w >>> (k &&& 31) &&& 1 = 1)
def mcode (a b c : Bool) : Int32 := if a then if b then if c then 0 else 3 else 2 else 1
def isStreetB (k : Int32) : Bool := inB k 0 3
def isMetreB (k : Int32) : Bool := inB k 0 59
def isCarB (σ : MS) (k : Int32) : Bool := inB k 0 (σ.1 22 - 1)
def isFineB (σ : MS) (k : Int32) : Bool := inB k 0 (σ.1 40 - 1)
def holdsB (σ : MS) (k : Nat) (s mt q : Int32) : Bool := decide (σ.2.1 8 k = s) && inB mt (σ.2.1 9 k) (σ.2.1 10 k) && !decide (q < σ.2.1 20 k) && !decide (σ.2.1 21 k ≤ q) && (hasB (σ.2.1 15 k) (rem (q / 96) 7) && !decide (rem q 96 < σ.2.1 16 k) && !decide (σ.2.1 17 k ≤ rem q 96) && inB (q / 96) (σ.2.1 18 k) (σ.2.1 19 k)) && (!σ.2.2 14 k || !decide (q / 96 ≤ σ.2.1 20 k / 96 + 2))
def aheadB (σ : MS) (k n : Nat) : Bool := if b2i (σ.2.2 14 k) = b2i (σ.2.2 14 n) then !decide (σ.2.1 10 n - σ.2.1 9 n < σ.2.1 10 k - σ.2.1 9 k) else σ.2.2 14 k
def roI (r : Option Nat) : Int32 := match r with
  | none => -1
  | some j => nI j
def ruleO (σ : MS) (s mt q : Int32) : Nat → Option Nat
  | 0 => none
  | k + 1 => if holdsB σ k s mt q && (match ruleO σ s mt q k with | none => true | some f => aheadB σ k f) then some k else ruleO σ s mt q k
theorem ruleO_or {σ : MS} {s mt q : Int32} {n : Nat} : ruleO σ s mt q (n + 1) = some n ∨ ruleO σ s mt q (n + 1) = ruleO σ s mt q n := by
  rw [ruleO]
  exact (Decidable.em _).elim (fun h => Or.inl (if_pos h)) (fun h => Or.inr (if_neg h))
theorem ruleO_lt {σ : MS} {s mt q : Int32} : ∀ {n f : Nat}, ruleO σ s mt q n = some f → f < n
  | 0, f, h => by cases h
  | n + 1, f, h => by
    rcases ruleO_or (σ := σ) (s := s) (mt := mt) (q := q) (n := n) with e | e
    · rw [e] at h; cases h; omega
    · rw [e] at h
      have := ruleO_lt h
      omega
def ofHomeF (σ : MS) (home day : Int32) : Nat → Int32
  | 0 => 0
  | k + 1 => ofHomeF σ home day k + (if decide (σ.2.1 32 k = home) && inB day (σ.2.1 33 k) (σ.2.1 34 k) then 1 else 0)
def roomF (σ : MS) (n : Nat) (home : Int32) (a : Nat) : Nat → Bool
  | 0 => true
  | j + 1 => roomF σ n home a j && !decide (2 ≤ ofHomeF σ home (nI (a + j)) n)
def userF (σ : MS) (i : Nat) (s day : Int32) : Nat → Bool
  | 0 => !decide (σ.2.1 24 i = 0)
  | k + 1 => userF σ i s day k || (decide (σ.2.1 30 k = nI i) && decide (σ.2.1 31 k = s) && inB day (σ.2.1 33 k) (σ.2.1 34 k))
def userOnF (σ : MS) (i : Nat) (s day : Int32) (n : Nat) : Int32 := if userF σ i s day n then σ.2.1 24 i else 4
def awayB (σ : MS) (k : Nat) (s mt many : Int32) : Bool := !decide (σ.2.1 25 k = s) || decide (mt + many < σ.2.1 26 k) || !decide (mt ≤ σ.2.1 26 k + σ.2.1 23 k)
def gapB (σ : MS) (s mt many : Int32) : Nat → Bool
  | 0 => !decide (60 < mt + many)
  | k + 1 => gapB σ s mt many k && awayB σ k s mt many
def gapF (σ : MS) (s many : Int32) (n : Nat) : Nat → Int32
  | 0 => -1
  | j + 1 => if gapB σ s (nI (59 - j)) many n then nI (59 - j) else gapF σ s many n j
def covF (σ : MS) (i : Nat) (s q : Int32) : Nat → Bool
  | 0 => false
  | k + 1 => covF σ i s q k || (decide (σ.2.1 36 k = nI i) && decide (σ.2.1 37 k = s) && !decide (q < σ.2.1 38 k) && !decide (σ.2.1 38 k + σ.2.1 39 k ≤ q))
def blkF (σ : MS) (o : Nat) : Nat → Bool
  | 0 => false
  | k + 1 => blkF σ o k || σ.2.2 1 (o + k)
def forbF (σ : MS) (n : Nat) (s mt q as : Int32) : Nat → Bool
  | 0 => false
  | k + 1 => forbF σ n s mt q as k || (match ruleO σ s (mt + nI k) q n with | none => false | some f => !hasB (σ.2.1 11 f) as)
theorem forbF_mono {σ : MS} {n : Nat} {s mt q as : Int32} {k : Nat} (h : forbF σ n s mt q as k = true) : ∀ j, forbF σ n s mt q as (k + j) = true
  | 0 => h
  | j + 1 => by
    show (forbF σ n s mt q as (k + j) || _) = true
    rw [forbF_mono h j, Bool.true_or]
theorem roomF_mono {σ : MS} {n : Nat} {home : Int32} {a k : Nat} (h : roomF σ n home a k = false) : ∀ j, roomF σ n home a (k + j) = false
  | 0 => h
  | j + 1 => by
    show (roomF σ n home a (k + j) && _) = false
    rw [roomF_mono h j, Bool.false_and]
/-- the judgement but for blocked metres; n signs, np permits, ny payments, the car's length L -/
def judF (σ : MS) (i L n np ny : Nat) (s mt fr q : Int32) : Int32 :=
  if forbF σ n s mt q (userOnF σ i s (q / 96) np) L then 2 else match ruleO σ s mt q n with
    | none => 0
    | some f => if !decide (σ.2.1 12 f ≤ 0) && !decide (q - fr ≤ σ.2.1 12 f + 1) then 3 else if σ.2.2 13 f && !decide (q - fr ≤ 1) && !covF σ i s q ny then 4 else 0
def judNF (σ : MS) (i L n np ny o : Nat) : Int32 := if blkF σ o L then 1 else judF σ i L n np ny (σ.2.1 25 i) (σ.2.1 26 i) (σ.2.1 27 i) (σ.1 0)
def hfF (σ : MS) (i : Nat) : Nat → Bool
  | 0 => false
  | k + 1 => hfF σ i k || (decide (σ.2.1 41 k = nI i) && decide (σ.2.1 45 k = σ.2.1 28 i) && decide (σ.2.1 46 k / 96 = σ.1 0 / 96))
def amoF (σ : MS) (k : Nat) : Int32 := if σ.2.1 47 k = 1 then 100 else if σ.2.1 47 k = 2 then 60 else if σ.2.1 47 k = 3 then 30 else 40
def debtF (σ : MS) (i : Nat) : Nat → Int32
  | 0 => 0
  | k + 1 => debtF σ i k + (if decide (σ.2.1 41 k = nI i) && !σ.2.2 51 k && !σ.2.2 50 k then amoF σ k else 0)
def takenF (σ : MS) (s : Int32) : Nat → Int32
  | 0 => 0
  | k + 1 => takenF σ s k + (if σ.2.1 25 k = s then σ.2.1 23 k else 0)

