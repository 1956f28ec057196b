/-! what the reference's methods ask of the numbers, from the bounds -/
section
variable {σ : MS} {N : Nat → Nat} {T : Nat}
theorem car_ok (hI : PI σ N T) {i : Nat} (hi : i < N 2) (hs : ¬ σ.2.1 25 i = -1) : CarOK σ i := by
  obtain ⟨-, -, p4, -⟩ := hI
  obtain ⟨⟨L, hL3, hL12, el⟩, h⟩ := p4 i hi
  obtain ⟨a, m, ha, ea, em, hm⟩ := h hs
  rw [el, ix_nI (by omega)] at hm
  exact ⟨L, 60 * a + m, el, by omega, by rw [ea, em, mul60], by omega⟩
theorem fine_ok (hN : cN σ N) (hI : PI σ N T) {j : Nat} (hj : j < N 5) : FineOK σ j := by
  obtain ⟨n0, n1, n2, -⟩ := hN
  obtain ⟨-, -, p4, -, p6, -⟩ := hI
  obtain ⟨c, a, m, p, hc, e41, -⟩ := p6 j hj
  obtain ⟨⟨L, hL3, hL12, el⟩, -⟩ := p4 c hc
  exact ⟨c, L, by omega, e41, el, by omega⟩
theorem li_of (hN : cN σ N) (hI : PI σ N T) : LI σ (N 1) (N 2) (N 3) (N 4) := by
  obtain ⟨n0, n1, n2, n3, n4, n5, e7, e22, e29, e35, e40⟩ := id hN
  refine ⟨e7, n1, e22, n2, e29, n3, e35, n4, ⟨N 5, n5, e40⟩, fun i hi hs => ⟨car_ok hI hi hs, ?_⟩⟩
  obtain ⟨-, -, p4, -⟩ := hI
  obtain ⟨a, m, ha, ea, -⟩ := (p4 i hi).2 hs
  exact ⟨a, ha, ea⟩
end
