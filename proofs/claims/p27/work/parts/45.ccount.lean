/-! a look: the street's fines and all fines grow alike -/
theorem msc_s {σ : MS} {k : Nat} {x : Int32} : (msc σ k x).1 k = x := by
  show va_up σ.1 k x k = x
  rw [up_s]
theorem giv_40 {σ : MS} {i : Nat} {w : Int32} : (givF σ i w).1 40 = σ.1 40 + 1 := by
  unfold givF
  exact msc_s
theorem giv_54 {σ : MS} {i a : Nat} {w : Int32} (h : σ.2.1 25 i = nI a) (ha : a < 4) : (givF σ i w).2.1 54 a = σ.2.1 54 a + 1 := by
  rw [giv_G (n := ix (σ.1 40)) (a := a) rfl (by rw [h, ix_nI (by omega)])]
  show va_up (σ.2.1 54) a (σ.2.1 54 a + 1) a = _
  rw [up_s]
theorem look_cnt {σ : MS} {a : Nat} (ha : a < 4) : ∀ n, ∃ c : Nat, (lookF σ (nI a) n).1 40 = σ.1 40 + nI c ∧ (lookF σ (nI a) n).2.1 54 a = σ.2.1 54 a + nI c
  | 0 => ⟨0, by rw [nI_0, Int32.add_zero]; rfl, by rw [nI_0, Int32.add_zero]; rfl⟩
  | n + 1 => by
    obtain ⟨c, h1, h2⟩ := look_cnt (σ := σ) ha n
    show ∃ c : Nat, (look1 (lookF σ (nI a) n) (nI a) n).1 40 = _ ∧ (look1 (lookF σ (nI a) n) (nI a) n).2.1 54 a = _
    unfold look1
    split
    · next hc =>
      rw [Bool.and_eq_true, Bool.and_eq_true, Bool.and_eq_true, decide_eq_true_eq] at hc
      refine ⟨c + 1, ?_, ?_⟩
      · rw [giv_40, h1, ← nI_1, Int32.add_assoc]
      · rw [giv_54 hc.1.1.1 ha, h2, ← nI_1, Int32.add_assoc]
    · exact ⟨c, h1, h2⟩
theorem look_eq {σ : MS} {a n : Nat} (ha : a < 4) : (lookF σ (nI a) n).2.1 54 a - σ.2.1 54 a = (lookF σ (nI a) n).1 40 - σ.1 40 := by
  obtain ⟨c, h1, h2⟩ := look_cnt (σ := σ) ha n
  rw [h1, h2, Int32.add_comm, Int32.add_sub_cancel, Int32.add_comm, Int32.add_sub_cancel]
