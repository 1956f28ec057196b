/-! what a turn leaves -/
def S_block (σ : MS) (s mt : Int32) (is : Bool) : MS := if K_block s mt = 0 then mbr (zz σ) 1 (60 * ix s + ix mt) is else msc σ 56 (K_block s mt)
def S_times (σ : MS) (w f t : Int32) : MS := if K_times w f t = 0 then msc (msc (msc (zz σ) 2 w) 3 f) 4 t else msc σ 56 (K_times w f t)
def S_dates (σ : MS) (f t : Int32) : MS := if K_dates f t = 0 then msc (msc (zz σ) 5 f) 6 t else msc σ 56 (K_dates f t)
def S_sign (σ : MS) (st f t u sy : Int32) (fee tmp : Bool) : MS := if K_sign σ st f t u sy = 0 then sgnF σ (ix (σ.1 7)) st f t u sy fee tmp else msc σ 56 (K_sign σ st f t u sy)
def S_takeDown (σ : MS) (i : Int32) : MS := if K_takeDown σ i = 0 then mar (zz σ) 21 (ix i) (σ.1 0) else msc σ 56 (K_takeDown σ i)
def S_rule (σ : MS) (s mt q : Int32) : MS := if K_rule s mt q = 0 then zz σ else msc σ 56 (K_rule s mt q)
def S_ruleAnew (σ : MS) (s mt q : Int32) : MS := if K_rule s mt q = 0 then zz σ else msc σ 56 (K_rule s mt q)
def S_car (σ : MS) (l u : Int32) : MS := if K_car σ l u = 0 then carF σ (ix (σ.1 22)) l u else msc σ 56 (K_car σ l u)
def S_permit (σ : MS) (i s h f t : Int32) : MS := if K_permit σ (ix (σ.1 29)) i s h f t = 0 then perF σ (ix (σ.1 29)) i s h f t else msc σ 56 (K_permit σ (ix (σ.1 29)) i s h f t)
def S_hand (σ : MS) (p i : Int32) : MS := if K_hand σ p i = 0 then mar (zz σ) 30 (ix p) i else msc σ 56 (K_hand σ p i)
def S_countsAs (σ : MS) (i s : Int32) : MS := if K_countsAs σ i s = 0 then zz σ else msc σ 56 (K_countsAs σ i s)
def S_park (σ : MS) (i s mt : Int32) : MS := if K_park σ (ix (σ.1 22)) i s mt = 0 then parkF σ (ix i) s mt else msc σ 56 (K_park σ (ix (σ.1 22)) i s mt)
def S_leave (σ : MS) (i : Int32) : MS := if K_leave σ i = 0 then mar (zz σ) 25 (ix i) (-1) else msc σ 56 (K_leave σ i)
def S_gap (σ : MS) (s l : Int32) : MS := if K_gap s l = 0 then zz σ else msc σ 56 (K_gap s l)
def S_pay (σ : MS) (i s f q : Int32) : MS := if K_pay σ i s f q = 0 then payF σ (ix (σ.1 35)) i s f q (ix s) else msc σ 56 (K_pay σ i s f q)
def S_judge (σ : MS) (i : Int32) : MS := if K_car1 σ i = 0 then zz σ else msc σ 56 (K_car1 σ i)
def S_look (σ : MS) (s : Int32) : MS := if K_look s = 0 then lookF (zz σ) s (ix (σ.1 22)) else msc σ 56 (K_look s)
def S_appeal (σ : MS) (i : Int32) : MS := if K_appeal σ i = 0 then mbr (mbr (zz σ) 49 (ix i) true) 50 (ix i) (!σ.2.2 48 (ix i) && decide (judFine (mbr (zz σ) 49 (ix i) true) (ix i) = 0)) else msc σ 56 (K_appeal σ i)
def S_payFine (σ : MS) (i : Int32) : MS := if K_payFine σ i = 0 then mbr (zz σ) 51 (ix i) true else msc σ 56 (K_payFine σ i)
def S_fine (σ : MS) (i w : Int32) : MS := if K_fine σ i w = 0 then zz σ else msc σ 56 (K_fine σ i w)
def S_debt (σ : MS) (i : Int32) : MS := if K_car1 σ i = 0 then zz σ else msc σ 56 (K_car1 σ i)
def S_tow (σ : MS) (i : Int32) : MS := if K_tow σ (ix (σ.1 40)) i = 0 then mar (zz σ) 25 (ix i) (-1) else msc σ 56 (K_tow σ (ix (σ.1 40)) i)
def S_streetIs (σ : MS) (s w : Int32) : MS := if K_streetIs s w = 0 then zz σ else msc σ 56 (K_streetIs s w)
def S_pass (σ : MS) (q : Int32) : MS := if K_pass σ q = 0 then passF (zz σ) (ix (σ.1 22)) (ix q) else msc σ 56 (K_pass σ q)
theorem th_block {σ : MS} {s mt : Int32} {is : Bool} : (S_block σ s mt is).1 56 = K_block s mt := by
  unfold S_block
  split
  · next h =>
    rw [h]
    exact rfl
  · exact msc_s
theorem th_times {σ : MS} {w f t : Int32} : (S_times σ w f t).1 56 = K_times w f t := by
  unfold S_times
  split
  · next h =>
    rw [h]
    exact rfl
  · exact msc_s
theorem th_dates {σ : MS} {f t : Int32} : (S_dates σ f t).1 56 = K_dates f t := by
  unfold S_dates
  split
  · next h =>
    rw [h]
    exact rfl
  · exact msc_s
theorem th_sign {σ : MS} {st f t u sy : Int32} {fee tmp : Bool} : (S_sign σ st f t u sy fee tmp).1 56 = K_sign σ st f t u sy := by
  unfold S_sign
  split
  · next h =>
    rw [h]
    exact rfl
  · exact msc_s
theorem th_takeDown {σ : MS} {i : Int32} : (S_takeDown σ i).1 56 = K_takeDown σ i := by
  unfold S_takeDown
  split
  · next h =>
    rw [h]
    exact rfl
  · exact msc_s
theorem th_rule {σ : MS} {s mt q : Int32} : (S_rule σ s mt q).1 56 = K_rule s mt q := by
  unfold S_rule
  split
  · next h =>
    rw [h]
    exact rfl
  · exact msc_s
theorem th_ruleAnew {σ : MS} {s mt q : Int32} : (S_ruleAnew σ s mt q).1 56 = K_rule s mt q := by
  unfold S_ruleAnew
  split
  · next h =>
    rw [h]
    exact rfl
  · exact msc_s
theorem th_car {σ : MS} {l u : Int32} : (S_car σ l u).1 56 = K_car σ l u := by
  unfold S_car
  split
  · next h =>
    rw [h]
    exact rfl
  · exact msc_s
theorem th_permit {σ : MS} {i s h f t : Int32} : (S_permit σ i s h f t).1 56 = K_permit σ (ix (σ.1 29)) i s h f t := by
  unfold S_permit
  split
  · next h =>
    rw [h]
    exact rfl
  · exact msc_s
theorem th_hand {σ : MS} {p i : Int32} : (S_hand σ p i).1 56 = K_hand σ p i := by
  unfold S_hand
  split
  · next h =>
    rw [h]
    exact rfl
  · exact msc_s
theorem th_countsAs {σ : MS} {i s : Int32} : (S_countsAs σ i s).1 56 = K_countsAs σ i s := by
  unfold S_countsAs
  split
  · next h =>
    rw [h]
    exact rfl
  · exact msc_s
theorem th_park {σ : MS} {i s mt : Int32} : (S_park σ i s mt).1 56 = K_park σ (ix (σ.1 22)) i s mt := by
  unfold S_park
  split
  · next h =>
    rw [h]
    exact rfl
  · exact msc_s
theorem th_leave {σ : MS} {i : Int32} : (S_leave σ i).1 56 = K_leave σ i := by
  unfold S_leave
  split
  · next h =>
    rw [h]
    exact rfl
  · exact msc_s
theorem th_gap {σ : MS} {s l : Int32} : (S_gap σ s l).1 56 = K_gap s l := by
  unfold S_gap
  split
  · next h =>
    rw [h]
    exact rfl
  · exact msc_s
theorem th_pay {σ : MS} {i s f q : Int32} : (S_pay σ i s f q).1 56 = K_pay σ i s f q := by
  unfold S_pay
  split
  · next h =>
    rw [h]
    exact rfl
  · exact msc_s
theorem th_judge {σ : MS} {i : Int32} : (S_judge σ i).1 56 = K_car1 σ i := by
  unfold S_judge
  split
  · next h =>
    rw [h]
    exact rfl
  · exact msc_s
theorem th_look {σ : MS} {s : Int32} : (S_look σ s).1 56 = K_look s := by
  unfold S_look
  split
  · next h =>
    rw [h]
    exact look_56 _
  · exact msc_s
theorem th_appeal {σ : MS} {i : Int32} : (S_appeal σ i).1 56 = K_appeal σ i := by
  unfold S_appeal
  split
  · next h =>
    rw [h]
    exact rfl
  · exact msc_s
theorem th_payFine {σ : MS} {i : Int32} : (S_payFine σ i).1 56 = K_payFine σ i := by
  unfold S_payFine
  split
  · next h =>
    rw [h]
    exact rfl
  · exact msc_s
theorem th_fine {σ : MS} {i w : Int32} : (S_fine σ i w).1 56 = K_fine σ i w := by
  unfold S_fine
  split
  · next h =>
    rw [h]
    exact rfl
  · exact msc_s
theorem th_debt {σ : MS} {i : Int32} : (S_debt σ i).1 56 = K_car1 σ i := by
  unfold S_debt
  split
  · next h =>
    rw [h]
    exact rfl
  · exact msc_s
theorem th_tow {σ : MS} {i : Int32} : (S_tow σ i).1 56 = K_tow σ (ix (σ.1 40)) i := by
  unfold S_tow
  split
  · next h =>
    rw [h]
    exact rfl
  · exact msc_s
theorem th_streetIs {σ : MS} {s w : Int32} : (S_streetIs σ s w).1 56 = K_streetIs s w := by
  unfold S_streetIs
  split
  · next h =>
    rw [h]
    exact rfl
  · exact msc_s
theorem th_pass {σ : MS} {q : Int32} : (S_pass σ q).1 56 = K_pass σ q := by
  unfold S_pass
  split
  · next h =>
    rw [h]
    exact pass_56 _
  · exact msc_s
