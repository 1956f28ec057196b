theorem jd_as {x : Int32} : x + 1 - x = 1 := by
  apply Int32.toBitVec_inj.mp
  rw [Int32.toBitVec_sub, Int32.toBitVec_add, BitVec.add_comm, BitVec.add_sub_cancel]
theorem fl_Jxc12de_7 : FL RJxc12de 7 0 0 .int false "java/util/AbstractList" := ⟨(RJx4a65c, TJx4a65c, 3), tyJx4a65c, "java/util/AbstractList", cl_0, by decide, ⟨List.mem_of_getElem? (i := 73) (by decide +kernel), by decide +kernel⟩, Or.inl rfl, rfl, rfl, rfl⟩
theorem gs_Jx4a65c_39 : tW (.fieldLink RJx4a65c 39 "java/util/ArrayList" "DEFAULTCAPACITY_EMPTY_ELEMENTDATA" "[Ljava/lang/Object;") := ⟨List.mem_of_getElem? (i := 69) (by decide +kernel), by decide +kernel⟩
/-! the library's lists -/
def AL (E : XE) (G : HP) (la ar n : Nat) (el : Nat → Nat) : Prop := (∃ mo, G la = some (hO 0 [.int mo, .ref ar, .int (nI n)])) ∧ ((ar = E.1 ∧ n = 0) ∨ (0 < n ∧ ∃ cap f, G ar = some (hR cap f) ∧ n ≤ cap ∧ 10 ≤ cap ∧ cap ≤ 10 + n + n / 2 ∧ ∀ j, j < n → f j = some (el j)))
theorem jd_sh : ∀ n, n < 400 → (nI n) >>> ((1 : Int32) &&& 31) = nI (n / 2) := by decide +kernel
/-- every element is an object of the class -/
def Els (G : HP) (ci n : Nat) (el : Nat → Nat) : Prop := ∀ j, j < n → ∃ fs, G (el j) = some (hO ci fs)
set_option maxRecDepth 20000 in
set_option maxHeartbeats 2000000 in
theorem k_ac0 {E : XE} {d mc ms : Nat} {P : Ps} {G : HP} {a : Nat} (hP : P (.inl none) G) : Sp E (d + 1) yJxa1e45_init_da8c8 mc ms [.ref a] G P := by
  refine sp_intro bd_Jxa1e45_init_da8c8 (v1_all rfl) (Nat.le_of_ble_eq_true rfl) ?_
  change WX _ _ _ _ _ _ 0 [some (.ref a)] [] _ 0 0
  refine wp_load (pc' := 1) (j := 0) dJxa1e45_init_da8c8_0 rfl rfl rfl ?_
  refine wp_obj (pc' := 4) dJxa1e45_init_da8c8_1 ol_Jxa1e45_1 (Nat.le_of_ble_eq_true rfl) rfl ?_
  refine wp_vret dJxa1e45_init_da8c8_4 rfl ?_
  exact hP

set_option maxRecDepth 20000 in
set_option maxHeartbeats 2000000 in
theorem k_al0 {E : XE} {d mc ms : Nat} {P : Ps} {G : HP} {a : Nat} (ha : G a = some (hO 0 [.int 0, .null, .int 0])) (hP : P (.inl none) (hu G a (hO 0 [.int 0, .null, .int 0]))) : Sp E (d + 2) yJxc12de_init_da8c8 mc ms [.ref a] G P := by
  refine sp_intro bd_Jxc12de_init_da8c8 (v1_all rfl) (Nat.le_of_ble_eq_true rfl) ?_
  change WX _ _ _ _ _ _ 0 [some (.ref a)] [] _ 0 0
  refine wp_load (pc' := 1) (j := 0) dJxc12de_init_da8c8_0 rfl rfl rfl ?_
  refine wp_i0 0 0 dJxc12de_init_da8c8_1 ml_Jxc12de_1 (Nat.le_of_ble_eq_true rfl) (by omega) (by omega) ?_
  refine k_ac0 ?_
  refine kt_u ?_
  refine wp_load (pc' := 5) (j := 0) dJxc12de_init_da8c8_4 rfl rfl rfl ?_
  refine wp_iconst (pc' := 6) (0) dJxc12de_init_da8c8_5 rfl rfl ?_
  refine wp_put (pc' := 9) (fs' := [_, _, _]) dJxc12de_init_da8c8_6 fl_Jxc12de_7 ha (Nat.le_of_ble_eq_true rfl) rfl rfl rfl rfl ?_
  refine wp_vret dJxc12de_init_da8c8_9 rfl ?_
  exact hP

set_option maxRecDepth 20000 in
set_option maxHeartbeats 2000000 in
theorem k_init {E : XE} {d mc ms : Nat} {P : Ps} {G : HP} {a : Nat} (ha : G a = some (hO 0 [.int 0, .null, .int 0])) (hP : ∀ G', AL E G' a E.1 0 (fun _ => 0) → (∀ q, q ≠ a → G' q = G q) → P (.inl none) G') : Sp E (d + 3) yJx4a65c_init_da8c8 mc ms [.ref a] G P := by
  refine sp_intro bd_Jx4a65c_init_da8c8 (v1_all rfl) (Nat.le_of_ble_eq_true rfl) ?_
  change WX _ _ _ _ _ _ 0 [some (.ref a)] [] _ 0 0
  refine wp_load (pc' := 1) (j := 0) dJx4a65c_init_da8c8_0 rfl rfl rfl ?_
  refine wp_i0 0 0 dJx4a65c_init_da8c8_1 ml_Jx4a65c_1 (Nat.le_of_ble_eq_true rfl) (by omega) (by omega) ?_
  refine k_al0 ha ?_
  refine kt_u ?_
  refine wp_load (pc' := 5) (j := 0) dJx4a65c_init_da8c8_4 rfl rfl rfl ?_
  refine wp_gets (pc' := 8) dJx4a65c_init_da8c8_5 gs_Jx4a65c_39 rfl ?_
  refine wp_put (pc' := 11) (fs' := [_, _, _]) dJx4a65c_init_da8c8_8 fl_Jx4a65c_9 hu_s (Nat.le_of_ble_eq_true rfl) rfl rfl rfl rfl ?_
  refine wp_vret dJx4a65c_init_da8c8_11 rfl ?_
  exact hP _ ⟨⟨_, hu_s⟩, Or.inl ⟨rfl, rfl⟩⟩ (fun q hq => by rw [hu_n hq, hu_n hq])

set_option maxRecDepth 20000 in
set_option maxHeartbeats 2000000 in
theorem k_size {E : XE} {d mc ms : Nat} {P : Ps} {G : HP} {la ar n : Nat} {el : Nat → Nat} (hL : AL E G la ar n el) (hP : P (.inl (some (.int (nI n)))) G) : Sp E (d + 1) yJx4a65c_size_8abf5 mc ms [.ref la] G P := by
  obtain ⟨⟨mo, hl⟩, hb⟩ := id hL
  refine sp_intro bd_Jx4a65c_size_8abf5 (v1_all rfl) (Nat.le_of_ble_eq_true rfl) ?_
  change WX _ _ _ _ _ _ 0 [some (.ref la)] [] _ 0 0
  refine wp_load (pc' := 1) (j := 0) dJx4a65c_size_8abf5_0 rfl rfl rfl ?_
  refine wp_get (pc' := 4) dJx4a65c_size_8abf5_1 fl_Jx4a65c_48 hl rfl rfl ?_
  refine wp_iret dJx4a65c_size_8abf5_4 rfl rfl ?_
  exact hP

set_option maxRecDepth 20000 in
set_option maxHeartbeats 2000000 in
theorem k_chk {E : XE} {d mc ms : Nat} {P : Ps} {G : HP} {i n : Nat} (hi : i < n) (hn : n < 2 ^ 31) (hP : P (.inl (some (.int (nI i)))) G) : Sp E (d + 1) yJ3_checkIndex_8e157 mc ms [.int (nI i), .int (nI n), .null] G P := by
  refine sp_intro bd_J3_checkIndex_8e157 (v1_all rfl) (Nat.le_of_ble_eq_true rfl) ?_
  change WX _ _ _ _ _ _ 0 [some (.int (nI i)), some (.int (nI n)), some (.null)] [] _ 0 0
  refine wp_load (pc' := 1) (j := 0) dJ3_checkIndex_8e157_0 rfl rfl rfl ?_
  refine wp_ifF (pc' := 4) 9 dJ3_checkIndex_8e157_1 rfl rfl (fun z => nI_pos (by omega) z) ?_
  refine wp_load (pc' := 5) (j := 0) dJ3_checkIndex_8e157_4 rfl rfl rfl ?_
  refine wp_load (pc' := 6) (j := 1) dJ3_checkIndex_8e157_5 rfl rfl rfl ?_
  refine wp_icmpT 16 dJ3_checkIndex_8e157_6 rfl (nI_lt hi hn) ?_
  refine wp_load (pc' := 17) (j := 0) dJ3_checkIndex_8e157_16 rfl rfl rfl ?_
  refine wp_iret dJ3_checkIndex_8e157_17 rfl rfl ?_
  exact hP

set_option maxRecDepth 20000 in
set_option maxHeartbeats 2000000 in
theorem k_chk2 {E : XE} {d mc ms : Nat} {P : Ps} {G : HP} {i n : Nat} (hi : i < n) (hn : n < 2 ^ 31) (hP : P (.inl (some (.int (nI i)))) G) : Sp E (d + 2) yJ15_checkIndex_7cf53 mc ms [.int (nI i), .int (nI n)] G P := by
  refine sp_intro bd_J15_checkIndex_7cf53 (v1_all rfl) (Nat.le_of_ble_eq_true rfl) ?_
  change WX _ _ _ _ _ _ 0 [some (.int (nI i)), some (.int (nI n))] [] _ 0 0
  refine wp_load (pc' := 1) (j := 0) dJ15_checkIndex_7cf53_0 rfl rfl rfl ?_
  refine wp_load (pc' := 2) (j := 1) dJ15_checkIndex_7cf53_1 rfl rfl rfl ?_
  refine wp_pure (pc' := 3) dJ15_checkIndex_7cf53_2 rfl rfl ?_
  refine wp_s3 0 0 dJ15_checkIndex_7cf53_3 ml_J15_105 (Nat.le_of_ble_eq_true rfl) (by omega) (by omega) ?_
  refine k_chk hi hn ?_
  refine kt_v ?_
  refine wp_iret dJ15_checkIndex_7cf53_6 rfl rfl ?_
  exact hP

set_option maxRecDepth 20000 in
set_option maxHeartbeats 2000000 in
theorem k_eld {E : XE} {d mc ms : Nat} {P : Ps} {G : HP} {la ar n : Nat} {el : Nat → Nat} (hL : AL E G la ar n el) {i : Nat} (hi : i < n) (hn : n ≤ 1000) (hP : P (.inl (some (.ref (el i)))) G) : Sp E (d + 1) yJx4a65c_elementData_915e3 mc ms [.ref la, .int (nI i)] G P := by
  obtain ⟨⟨mo, hl⟩, hb⟩ := id hL
  obtain ⟨-, rfl⟩ | ⟨-, cap, f, hc, h1, h2, h3, h4⟩ := hb
  · exact absurd hi (by omega)
  refine sp_intro bd_Jx4a65c_elementData_915e3 (v1_all rfl) (Nat.le_of_ble_eq_true rfl) ?_
  change WX _ _ _ _ _ _ 0 [some (.ref la), some (.int (nI i))] [] _ 0 0
  refine wp_load (pc' := 1) (j := 0) dJx4a65c_elementData_915e3_0 rfl rfl rfl ?_
  refine wp_get (pc' := 4) dJx4a65c_elementData_915e3_1 fl_Jx4a65c_9 hl rfl rfl ?_
  refine wp_load (pc' := 5) (j := 1) dJx4a65c_elementData_915e3_4 rfl rfl rfl ?_
  refine wp_aald (pc' := 6) dJx4a65c_elementData_915e3_5 hc rfl (by omega) (by omega) rfl ?_
  rw [h4 i hi]
  change WX _ _ _ _ _ _ _ _ [.ref (el i)] _ _ _
  refine wp_aret dJx4a65c_elementData_915e3_6 rfl (Or.inl ⟨_, rfl⟩) (Or.inr ⟨_, rfl⟩) ?_
  exact hP

set_option maxRecDepth 20000 in
set_option maxHeartbeats 2000000 in
theorem k_get {E : XE} {d mc ms : Nat} {P : Ps} {G : HP} {la ar n : Nat} {el : Nat → Nat} (hL : AL E G la ar n el) {i : Nat} (hi : i < n) (hn : n ≤ 1000) (hP : P (.inl (some (.ref (el i)))) G) : Sp E (d + 3) yJx4a65c_get_915e3 mc ms [.ref la, .int (nI i)] G P := by
  obtain ⟨⟨mo, hl⟩, hb⟩ := id hL
  refine sp_intro bd_Jx4a65c_get_915e3 (v1_all rfl) (Nat.le_of_ble_eq_true rfl) ?_
  change WX _ _ _ _ _ _ 0 [some (.ref la), some (.int (nI i))] [] _ 0 0
  refine wp_load (pc' := 1) (j := 1) dJx4a65c_get_915e3_0 rfl rfl rfl ?_
  refine wp_load (pc' := 2) (j := 0) dJx4a65c_get_915e3_1 rfl rfl rfl ?_
  refine wp_get (pc' := 5) dJx4a65c_get_915e3_2 fl_Jx4a65c_48 hl rfl rfl ?_
  refine wp_s2 0 0 dJx4a65c_get_915e3_5 ml_Jx4a65c_118 (Nat.le_of_ble_eq_true rfl) (by omega) (by omega) ?_
  refine k_chk2 hi (by omega) ?_
  refine kt_v ?_
  refine wp_pop (pc' := 9) dJx4a65c_get_915e3_8 rfl rfl ?_
  refine wp_load (pc' := 10) (j := 0) dJx4a65c_get_915e3_9 rfl rfl rfl ?_
  refine wp_load (pc' := 11) (j := 1) dJx4a65c_get_915e3_10 rfl rfl rfl ?_
  refine wp_v1 0 0 dJx4a65c_get_915e3_11 ml_Jx4a65c_123 hl (Nat.le_of_ble_eq_true rfl) (by omega) (by omega) ?_
  refine k_eld hL hi hn ?_
  refine kt_v ?_
  refine wp_aret dJx4a65c_get_915e3_14 rfl (Or.inl ⟨_, rfl⟩) (Or.inr ⟨_, rfl⟩) ?_
  exact hP

set_option maxRecDepth 20000 in
set_option maxHeartbeats 2000000 in
theorem k_newl {E : XE} {d mc ms : Nat} {P : Ps} {G : HP} {n : Nat} (h10 : 10 ≤ n) (hn : n < 400) (hP : P (.inl (some (.int (nI (n + n / 2))))) G) : Sp E (d + 2) yJ8_newLength_cabcc mc ms [.int (nI n), .int 1, .int (nI (n / 2))] G P := by
  have e : (if (1 : Int32) < nI (n / 2) then nI (n / 2) else 1) = nI (n / 2) := if_pos (show nI 1 < nI (n / 2) from nI_lt (by omega) (by omega))
  refine sp_intro bd_J8_newLength_cabcc (v1_all rfl) (Nat.le_of_ble_eq_true rfl) ?_
  change WX _ _ _ _ _ _ 0 [some (.int (nI n)), some (.int 1), some (.int (nI (n / 2))), none] [] _ 0 0
  refine wp_load (pc' := 1) (j := 0) dJ8_newLength_cabcc_0 rfl rfl rfl ?_
  refine wp_load (pc' := 2) (j := 1) dJ8_newLength_cabcc_1 rfl rfl rfl ?_
  refine wp_load (pc' := 3) (j := 2) dJ8_newLength_cabcc_2 rfl rfl rfl ?_
  refine wp_max (pc' := 6) dJ8_newLength_cabcc_3 mxl_J8_194 (by omega) (Nat.le_of_ble_eq_true rfl) rfl ?_
  refine wp_pure (pc' := 7) dJ8_newLength_cabcc_6 rfl rfl ?_
  rw [e, nI_add, Nat.add_comm]
  refine wp_store (pc' := 8) (j := 3) (ls' := [_, _, _, _]) dJ8_newLength_cabcc_7 rfl (Nat.le_of_ble_eq_true rfl) rfl rfl ?_
  refine wp_iconst (pc' := 9) (0) dJ8_newLength_cabcc_8 rfl rfl ?_
  refine wp_load (pc' := 10) (j := 3) dJ8_newLength_cabcc_9 rfl rfl rfl ?_
  refine wp_icmpF (pc' := 13) 21 dJ8_newLength_cabcc_10 rfl rfl (nI_ge (show 0 < n + n / 2 by omega) (by omega)) ?_
  refine wp_load (pc' := 14) (j := 3) dJ8_newLength_cabcc_13 rfl rfl rfl ?_
  refine wp_ldc (pc' := 16) dJ8_newLength_cabcc_14 kw_J8_200 rfl ?_
  refine wp_icmpF (pc' := 19) 21 dJ8_newLength_cabcc_16 rfl rfl (fun z => absurd z (by first | exact nI_nlt (show n + n / 2 ≤ 2147483639 from by omega) (by decide) | exact fun z => absurd z (by decide))) ?_
  refine wp_load (pc' := 20) (j := 3) dJ8_newLength_cabcc_19 rfl rfl rfl ?_
  refine wp_iret dJ8_newLength_cabcc_20 rfl rfl ?_
  exact hP

set_option maxRecDepth 20000 in
set_option maxHeartbeats 2000000 in
theorem k_cp3 {E : XE} {d mc ms : Nat} {P : Ps} {G : HP} {a n N ci : Nat} {f : Nat → Option Nat} {el : Nat → Nat} {q : vw_C} (ha : G a = some (hR n f)) (hf : ∀ j, j < n → f j = some (el j)) (he : Els G ci n el) (hc : vwCl[ci]? = some q) (hw : tW (.castable q.1 "java/lang/Object")) (hnN : n ≤ N) (hN : N < 1000) (hmc : 1 ≤ mc) (hms : N ≤ ms) (hP : ∀ b G', G b = none → (∃ g, G' b = some (hR N g) ∧ ∀ j, j < n → g j = some (el j)) → (∀ q, q ≠ b → G' q = G q) → P (.inl (some (.ref b))) G') : Sp E (d + 2) yJ7_copyOf_6403c mc ms [.ref a, .int (nI N), .ref E.2.1] G P := by
  refine sp_intro bd_J7_copyOf_6403c (v1_all rfl) (Nat.le_of_ble_eq_true rfl) ?_
  change WX _ _ _ _ _ _ 0 [some (.ref a), some (.int (nI N)), some (.ref E.2.1), none] [] _ 0 0
  refine wp_load (pc' := 1) (j := 2) dJ7_copyOf_6403c_0 rfl rfl rfl ?_
  refine wp_ldcM (pc' := 3) dJ7_copyOf_6403c_1 cw_J7_110 rfl ?_
  refine wp_ane (pc' := 6) 13 dJ7_copyOf_6403c_3 rfl rfl (fun h3 => ?_) (fun h3 => ?_)
  · skip
    exact absurd rfl h3
  · skip
    skip
    refine wp_load (pc' := 7) (j := 1) dJ7_copyOf_6403c_6 rfl rfl rfl ?_
    refine wp_newO (pc' := 10) N dJ7_copyOf_6403c_7 cw_J7_2 (nI_pos (by omega)) (nI_clamp (by omega)) (by omega) (by omega) (by omega) rfl (fun b hb => ?_)
    have hba : b ≠ a := fun e => by rw [e, ha] at hb; exact nomatch hb
    refine wp_goto 24 dJ7_copyOf_6403c_10 rfl ?_
    refine wp_store (pc' := 25) (j := 3) (ls' := [_, _, _, _]) dJ7_copyOf_6403c_24 rfl (Nat.le_of_ble_eq_true rfl) rfl rfl ?_
    refine wp_load (pc' := 26) (j := 0) dJ7_copyOf_6403c_25 rfl rfl rfl ?_
    refine wp_iconst (pc' := 27) (0) dJ7_copyOf_6403c_26 rfl rfl ?_
    refine wp_load (pc' := 28) (j := 3) dJ7_copyOf_6403c_27 rfl rfl rfl ?_
    refine wp_iconst (pc' := 29) (0) dJ7_copyOf_6403c_28 rfl rfl ?_
    refine wp_load (pc' := 30) (j := 0) dJ7_copyOf_6403c_29 rfl rfl rfl ?_
    refine wp_alen (pc' := 31) dJ7_copyOf_6403c_30 ((hu_n hba.symm).trans ha) rfl rfl ?_
    refine wp_load (pc' := 32) (j := 1) dJ7_copyOf_6403c_31 rfl rfl rfl ?_
    refine wp_min (pc' := 35) dJ7_copyOf_6403c_32 mxl_J7_304 (by omega) (Nat.le_of_ble_eq_true rfl) rfl ?_
    rw [show (if nI N < nI n then nI N else nI n) = nI n from if_neg (nI_nlt hnN (by omega))]
    refine wp_copy (pc' := 38) (L := n) dJ7_copyOf_6403c_35 acl_J7_150 (by omega) (Nat.le_of_ble_eq_true rfl) hba.symm ((hu_n hba.symm).trans ha) hu_s (by omega) (by omega) hnN (fun j hj y hy => ?_) rfl ?_
    · rw [hf j hj] at hy
      obtain rfl := Option.some.inj hy
      obtain ⟨fs, hfs⟩ := he j hj
      exact ⟨ci, fs, q, (hu_n (fun e => by rw [e] at hfs; rw [hb] at hfs; exact nomatch hfs)).trans hfs, hc, hw⟩
    refine wp_load (pc' := 39) (j := 3) dJ7_copyOf_6403c_38 rfl rfl rfl ?_
    refine wp_aret dJ7_copyOf_6403c_39 rfl (Or.inr ⟨_, rfl⟩) (Or.inr ⟨_, rfl⟩) ?_
    refine hP b _ hb ⟨_, hu_s, fun j hj => ?_⟩ (fun q hq => by rw [hu_n hq, hu_n hq])
    show (if 0 ≤ j ∧ j < 0 + n then f (0 + (j - 0)) else none) = _
    rw [if_pos ⟨by omega, by omega⟩, Nat.zero_add, Nat.sub_zero, hf j hj]

set_option maxRecDepth 20000 in
set_option maxHeartbeats 2000000 in
set_option maxRecDepth 20000 in
set_option maxHeartbeats 2000000 in
theorem k_cp2 {E : XE} {d mc ms : Nat} {P : Ps} {G : HP} {a n N ci : Nat} {f : Nat → Option Nat} {el : Nat → Nat} {q : vw_C} (ha : G a = some (hR n f)) (hf : ∀ j, j < n → f j = some (el j)) (he : Els G ci n el) (hc : vwCl[ci]? = some q) (hw : tW (.castable q.1 "java/lang/Object")) (hnN : n ≤ N) (hN : N < 1000) (hmc : 1 ≤ mc) (hms : N ≤ ms) (hP : ∀ b G', G b = none → (∃ g, G' b = some (hR N g) ∧ ∀ j, j < n → g j = some (el j)) → (∀ q, q ≠ b → G' q = G q) → P (.inl (some (.ref b))) G') : Sp E (d + 3) yJ7_copyOf_1904c mc ms [.ref a, .int (nI N)] G P := by
  refine sp_intro bd_J7_copyOf_1904c (v1_all rfl) (Nat.le_of_ble_eq_true rfl) ?_
  change WX _ _ _ _ _ _ 0 [some (.ref a), some (.int (nI N))] [] _ 0 0
  refine wp_load (pc' := 1) (j := 0) dJ7_copyOf_1904c_0 rfl rfl rfl ?_
  refine wp_load (pc' := 2) (j := 1) dJ7_copyOf_1904c_1 rfl rfl rfl ?_
  refine wp_load (pc' := 3) (j := 0) dJ7_copyOf_1904c_2 rfl rfl rfl ?_
  refine wp_getC (pc' := 6) dJ7_copyOf_1904c_3 gcl_J7_86 (by omega) (Nat.le_of_ble_eq_true rfl) ha rfl ?_
  refine wp_s3 1 N dJ7_copyOf_1904c_6 ml_J7_300 (Nat.le_of_ble_eq_true rfl) (by omega) (by omega) ?_
  refine k_cp3 ha hf he hc hw hnN hN (by omega) (by omega) (fun b G1 hb hg hk => ?_)
  refine kt_v ?_
  refine wp_aret dJ7_copyOf_1904c_9 rfl (Or.inr ⟨_, rfl⟩) (Or.inr ⟨_, rfl⟩) ?_
  exact hP b _ hb hg hk

set_option maxRecDepth 20000 in
set_option maxHeartbeats 2000000 in
theorem k_grow1 {E : XE} {d mc ms : Nat} {P : Ps} {G : HP} {la ar n : Nat} {el : Nat → Nat} (hL : AL E G la ar n el) {ci : Nat} {q : vw_C} (he : Els G ci n el) (hc : vwCl[ci]? = some q) (hw : tW (.castable q.1 "java/lang/Object")) (hn : n ≤ 200) (hfu : ¬ (ar = E.1 ∧ n = 0) → ∀ cap f, G ar = some (hR cap f) → n = cap) (hmc : 1 ≤ mc) (hms : 10 + n + n / 2 ≤ ms) (hP : ∀ b G', G b = none → (∃ mo, G' la = some (hO 0 [.int mo, .ref b, .int (nI n)])) → (∃ cap g, G' b = some (hR cap g) ∧ n + 1 ≤ cap ∧ 10 ≤ cap ∧ cap ≤ 10 + n + n / 2 ∧ ∀ j, j < n → g j = some (el j)) → (∀ q, q ≠ b → q ≠ la → G' q = G q) → P (.inl (some (.ref b))) G') : Sp E (d + 4) yJx4a65c_grow_92f84 mc ms [.ref la, .int (nI (n + 1))] G P := by
  obtain ⟨⟨mo, hl⟩, hb⟩ := id hL
  by_cases q0 : ar = E.1 ∧ n = 0
  · skip
    obtain ⟨q1, q2⟩ := q0
    rw [q1] at hl
    refine sp_intro bd_Jx4a65c_grow_92f84 (v1_all rfl) (Nat.le_of_ble_eq_true rfl) ?_
    change WX _ _ _ _ _ _ 0 [some (.ref la), some (.int (nI (n + 1))), none, none] [] _ 0 0
    refine wp_load (pc' := 1) (j := 0) dJx4a65c_grow_92f84_0 rfl rfl rfl ?_
    refine wp_get (pc' := 4) dJx4a65c_grow_92f84_1 fl_Jx4a65c_9 hl rfl rfl ?_
    refine wp_alen0 (pc' := 5) dJx4a65c_grow_92f84_4 rfl ?_
    refine wp_store (pc' := 6) (j := 2) (ls' := [_, _, _, _]) dJx4a65c_grow_92f84_5 rfl (Nat.le_of_ble_eq_true rfl) rfl rfl ?_
    refine wp_load (pc' := 7) (j := 2) dJx4a65c_grow_92f84_6 rfl rfl rfl ?_
    refine wp_ifF (pc' := 10) 20 dJx4a65c_grow_92f84_7 rfl rfl (cmpF rfl) ?_
    refine wp_load (pc' := 11) (j := 0) dJx4a65c_grow_92f84_10 rfl rfl rfl ?_
    refine wp_get (pc' := 14) dJx4a65c_grow_92f84_11 fl_Jx4a65c_9 hl rfl rfl ?_
    refine wp_gets (pc' := 17) dJx4a65c_grow_92f84_14 gs_Jx4a65c_39 rfl ?_
    refine wp_aeq (pc' := 20) 45 dJx4a65c_grow_92f84_17 rfl rfl (fun h17 => ?_) (fun h17 => ?_)
    · skip
      skip
      refine wp_load (pc' := 46) (j := 0) dJx4a65c_grow_92f84_45 rfl rfl rfl ?_
      refine wp_bipush (pc' := 48) (10) dJx4a65c_grow_92f84_46 rfl rfl ?_
      refine wp_load (pc' := 49) (j := 1) dJx4a65c_grow_92f84_48 rfl rfl rfl ?_
      refine wp_max (pc' := 52) dJx4a65c_grow_92f84_49 mxl_Jx4a65c_79 (by omega) (Nat.le_of_ble_eq_true rfl) rfl ?_
      rw [show (if (10 : Int32) < nI (n + 1) then nI (n + 1) else 10) = nI 10 from by rw [q2]; decide]
      refine wp_newO (pc' := 55) 10 dJx4a65c_grow_92f84_52 cw_Jx4a65c_7 (by decide) (by decide) (by omega) (by omega) (by omega) rfl (fun b hb => ?_)
      have hba : b ≠ la := fun e => by rw [e, hl] at hb; exact nomatch hb
      refine wp_dupx (pc' := 56) dJx4a65c_grow_92f84_55 rfl rfl rfl ?_
      refine wp_put (pc' := 59) (fs' := [_, _, _]) dJx4a65c_grow_92f84_56 fl_Jx4a65c_9 ((hu_n hba.symm).trans hl) (Nat.le_of_ble_eq_true rfl) rfl rfl rfl rfl ?_
      refine wp_aret dJx4a65c_grow_92f84_59 rfl (Or.inr ⟨_, rfl⟩) (Or.inr ⟨_, rfl⟩) ?_
      exact hP b _ hb ⟨_, hu_s⟩ ⟨10, _, (hu_n hba).trans hu_s, by omega, by omega, by omega, fun j hj => absurd hj (by omega)⟩ (fun q h1 h2 => by rw [hu_n h2, hu_n h1])
    · skip
      exact absurd rfl h17
  · skip
    obtain ⟨-, cap, f, h0, h1, h2, h3, h4⟩ := hb.resolve_left q0
    obtain rfl : n = cap := hfu q0 cap f h0
    refine sp_intro bd_Jx4a65c_grow_92f84 (v1_all rfl) (Nat.le_of_ble_eq_true rfl) ?_
    change WX _ _ _ _ _ _ 0 [some (.ref la), some (.int (nI (n + 1))), none, none] [] _ 0 0
    refine wp_load (pc' := 1) (j := 0) dJx4a65c_grow_92f84_0 rfl rfl rfl ?_
    refine wp_get (pc' := 4) dJx4a65c_grow_92f84_1 fl_Jx4a65c_9 hl rfl rfl ?_
    refine wp_alen (pc' := 5) dJx4a65c_grow_92f84_4 h0 rfl rfl ?_
    refine wp_store (pc' := 6) (j := 2) (ls' := [_, _, _, _]) dJx4a65c_grow_92f84_5 rfl (Nat.le_of_ble_eq_true rfl) rfl rfl ?_
    refine wp_load (pc' := 7) (j := 2) dJx4a65c_grow_92f84_6 rfl rfl rfl ?_
    refine wp_ifT 20 dJx4a65c_grow_92f84_7 rfl (nI_lt (show 0 < n by omega) (by omega)) ?_
    refine wp_load (pc' := 21) (j := 2) dJx4a65c_grow_92f84_20 rfl rfl rfl ?_
    refine wp_load (pc' := 22) (j := 1) dJx4a65c_grow_92f84_21 rfl rfl rfl ?_
    refine wp_load (pc' := 23) (j := 2) dJx4a65c_grow_92f84_22 rfl rfl rfl ?_
    refine wp_pure (pc' := 24) dJx4a65c_grow_92f84_23 rfl rfl ?_
    refine wp_load (pc' := 25) (j := 2) dJx4a65c_grow_92f84_24 rfl rfl rfl ?_
    refine wp_iconst (pc' := 26) (1) dJx4a65c_grow_92f84_25 rfl rfl ?_
    refine wp_pure (pc' := 27) dJx4a65c_grow_92f84_26 rfl rfl ?_
    refine wp_s3 0 0 dJx4a65c_grow_92f84_27 ml_Jx4a65c_73 (Nat.le_of_ble_eq_true rfl) (by omega) (by omega) ?_
    rw [show nI (n + 1) - nI n = 1 from by rw [← nI_1]; exact jd_as, jd_sh n (by omega)]
    refine k_newl h2 (by omega) ?_
    refine kt_v ?_
    refine wp_store (pc' := 31) (j := 3) (ls' := [_, _, _, _]) dJx4a65c_grow_92f84_30 rfl (Nat.le_of_ble_eq_true rfl) rfl rfl ?_
    refine wp_load (pc' := 32) (j := 0) dJx4a65c_grow_92f84_31 rfl rfl rfl ?_
    refine wp_load (pc' := 33) (j := 0) dJx4a65c_grow_92f84_32 rfl rfl rfl ?_
    refine wp_get (pc' := 36) dJx4a65c_grow_92f84_33 fl_Jx4a65c_9 hl rfl rfl ?_
    refine wp_load (pc' := 37) (j := 3) dJx4a65c_grow_92f84_36 rfl rfl rfl ?_
    refine wp_s2 1 (n + n / 2) dJx4a65c_grow_92f84_37 ml_Jx4a65c_66 (Nat.le_of_ble_eq_true rfl) (by omega) (by omega) ?_
    refine k_cp2 h0 h4 he hc hw (by omega) (by omega) (by omega) (by omega) (fun b G1 hb hg hk => ?_)
    have hba : b ≠ la := fun e => by rw [e, hl] at hb; exact nomatch hb
    obtain ⟨g, hg1, hg2⟩ := hg
    refine kt_v ?_
    refine wp_dupx (pc' := 41) dJx4a65c_grow_92f84_40 rfl rfl rfl ?_
    refine wp_put (pc' := 44) (fs' := [_, _, _]) dJx4a65c_grow_92f84_41 fl_Jx4a65c_9 ((hk la hba.symm).trans hl) (Nat.le_of_ble_eq_true rfl) rfl rfl rfl rfl ?_
    refine wp_aret dJx4a65c_grow_92f84_44 rfl (Or.inr ⟨_, rfl⟩) (Or.inr ⟨_, rfl⟩) ?_
    exact hP b _ hb ⟨_, hu_s⟩ ⟨n + n / 2, g, (hu_n hba).trans hg1, by omega, by omega, by omega, hg2⟩ (fun q h1 h2 => by rw [hu_n h2, hk q h1])
set_option maxRecDepth 20000 in
set_option maxHeartbeats 2000000 in
theorem k_grow0 {E : XE} {d mc ms : Nat} {P : Ps} {G : HP} {la ar n : Nat} {el : Nat → Nat} (hL : AL E G la ar n el) {ci : Nat} {q : vw_C} (he : Els G ci n el) (hc : vwCl[ci]? = some q) (hw : tW (.castable q.1 "java/lang/Object")) (hn : n ≤ 200) (hfu : ¬ (ar = E.1 ∧ n = 0) → ∀ cap f, G ar = some (hR cap f) → n = cap) (hmc : 1 ≤ mc) (hms : 10 + n + n / 2 ≤ ms) (hP : ∀ b G', G b = none → (∃ mo, G' la = some (hO 0 [.int mo, .ref b, .int (nI n)])) → (∃ cap g, G' b = some (hR cap g) ∧ n + 1 ≤ cap ∧ 10 ≤ cap ∧ cap ≤ 10 + n + n / 2 ∧ ∀ j, j < n → g j = some (el j)) → (∀ q, q ≠ b → q ≠ la → G' q = G q) → P (.inl (some (.ref b))) G') : Sp E (d + 5) yJx4a65c_grow_d5877 mc ms [.ref la] G P := by
  obtain ⟨⟨mo, hl⟩, hb⟩ := id hL
  refine sp_intro bd_Jx4a65c_grow_d5877 (v1_all rfl) (Nat.le_of_ble_eq_true rfl) ?_
  change WX _ _ _ _ _ _ 0 [some (.ref la)] [] _ 0 0
  refine wp_load (pc' := 1) (j := 0) dJx4a65c_grow_d5877_0 rfl rfl rfl ?_
  refine wp_load (pc' := 2) (j := 0) dJx4a65c_grow_d5877_1 rfl rfl rfl ?_
  refine wp_get (pc' := 5) dJx4a65c_grow_d5877_2 fl_Jx4a65c_48 hl rfl rfl ?_
  refine wp_iconst (pc' := 6) (1) dJx4a65c_grow_d5877_5 rfl rfl ?_
  refine wp_pure (pc' := 7) dJx4a65c_grow_d5877_6 rfl rfl ?_
  refine wp_v1 1 (10 + n + n / 2) dJx4a65c_grow_d5877_7 ml_Jx4a65c_69 hl (Nat.le_of_ble_eq_true rfl) (by omega) (by omega) ?_
  rw [nI_1]
  refine k_grow1 hL he hc hw hn hfu (by omega) (by omega) (fun b G1 hb hg1 hg2 hk => ?_)
  refine kt_v ?_
  refine wp_aret dJx4a65c_grow_d5877_10 rfl (Or.inr ⟨_, rfl⟩) (Or.inr ⟨_, rfl⟩) ?_
  exact hP b _ hb hg1 hg2 hk

theorem jd_up {f : Nat → Option Nat} {el : Nat → Nat} {n b : Nat} (h : ∀ j, j < n → f j = some (el j)) : ∀ j, j < n + 1 → va_up f n (some b) j = some (va_up el n b j) := fun j hj => by
  unfold va_up
  split
  · rfl
  · exact h j (by omega)
theorem hO_hR {c : Nat} {fs : List Value} {n : Nat} {f : Nat → Option Nat} : hO c fs ≠ hR n f := fun h => nomatch h
theorem nI_if {n cap : Nat} (h : n ≤ cap) (hc : cap < 2 ^ 31) : n = cap ∨ cmpP .ne (nI n) (nI cap) := by
  rcases Nat.lt_or_ge n cap with q | q
  · exact Or.inr (fun e => by have := (nI_eq (by omega) hc).1 e; omega)
  · exact Or.inl (by omega)
theorem al3 {E : XE} {G : HP} {la ar n : Nat} {el : Nat → Nat} (hL : AL E G la ar n el) : (ar = E.1 ∧ n = 0) ∨ (∃ f, G ar = some (hR n f) ∧ 10 ≤ n ∧ ∀ j, j < n → f j = some (el j)) ∨ ∃ cap f, G ar = some (hR cap f) ∧ (0 < n ∧ n < cap) ∧ 10 ≤ cap ∧ cap ≤ 10 + n + n / 2 ∧ ∀ j, j < n → f j = some (el j) := by
  obtain ⟨-, h | ⟨hz, cap, f, h0, h1, h2, h3, h4⟩⟩ := hL
  · exact Or.inl h
  · rcases Nat.lt_or_ge n cap with q | q
    · exact Or.inr (Or.inr ⟨cap, f, h0, ⟨hz, q⟩, h2, h3, h4⟩)
    · obtain rfl : n = cap := by omega
      exact Or.inr (Or.inl ⟨f, h0, h2, h4⟩)
theorem hR_n {n m : Nat} {f g : Nat → Option Nat} (h : hR n f = hR m g) : n = m := by
  have h1 := Sum.inr.inj (Sum.inr.inj (Sum.inr.inj (Sum.inr.inj h)))
  exact congrArg Prod.fst h1
set_option maxRecDepth 20000 in
set_option maxHeartbeats 2000000 in
theorem k_add3 {E : XE} {d mc ms : Nat} {P : Ps} {G : HP} {la ar n : Nat} {el : Nat → Nat} (hL : AL E G la ar n el) {ci : Nat} {q : vw_C} (he : Els G ci n el) (hc : vwCl[ci]? = some q) (hw : tW (.castable q.1 "java/lang/Object")) (hn : n ≤ 200) {b : Nat} {fb : List Value} (hb : G b = some (hO ci fb)) (hbl : b ≠ la) (hmc : 1 ≤ mc) (hms : 10 + n + n / 2 ≤ ms) (hP : ∀ ar' G', AL E G' la ar' (n + 1) (va_up el n b) → ((0 < n ∧ ar' = ar) ∨ G ar' = none) → (∀ q, q ≠ la → (0 < n → q ≠ ar) → G q ≠ none → G' q = G q) → P (.inl none) G') : Sp E (d + 6) yJx4a65c_add_72be8 mc ms [.ref la, .ref b, .ref ar, .int (nI n)] G P := by
  obtain ⟨⟨mo, hl⟩, -⟩ := id hL
  rcases al3 hL with q0 | ⟨f, h0, h2, h4⟩ | ⟨cap, f, h0, ⟨hz, h1⟩, h2, h3, h4⟩
  · skip
    obtain ⟨q1, q2⟩ := id q0
    have hfu : ¬ (ar = E.1 ∧ n = 0) → ∀ cap f, G ar = some (hR cap f) → n = cap := fun z => absurd q0 z
    refine sp_intro bd_Jx4a65c_add_72be8 (v1_all rfl) (Nat.le_of_ble_eq_true rfl) ?_
    change WX _ _ _ _ _ _ 0 [some (.ref la), some (.ref b), some (.ref ar), some (.int (nI n))] [] _ 0 0
    refine wp_load (pc' := 1) (j := 3) dJx4a65c_add_72be8_0 rfl rfl rfl ?_
    refine wp_load (pc' := 2) (j := 2) dJx4a65c_add_72be8_1 rfl rfl rfl ?_
    rw [show (Value.ref ar) = .ref E.1 from by rw [q1]]
    refine wp_alen0 (pc' := 3) dJx4a65c_add_72be8_2 rfl ?_
    refine wp_icmpF (pc' := 6) 11 dJx4a65c_add_72be8_3 rfl rfl (by rw [q2]; exact cmpF rfl) ?_
    refine wp_load (pc' := 7) (j := 0) dJx4a65c_add_72be8_6 rfl rfl rfl ?_
    refine wp_v0 1 (10 + n + n / 2) dJx4a65c_add_72be8_7 ml_Jx4a65c_129 hl (Nat.le_of_ble_eq_true rfl) (by omega) (by omega) ?_
    refine k_grow0 hL he hc hw hn hfu (by omega) (by omega) (fun b1 G1 hb1 hg1 hg2 hk => ?_)
    refine kt_v ?_
    obtain ⟨mo1, hl1⟩ := hg1
    obtain ⟨cap1, g, hc1, h11, h12, h13, h14⟩ := hg2
    have hb1l : b1 ≠ la := fun e => by rw [e, hl] at hb1; exact nomatch hb1
    have hb1b : b1 ≠ b := fun e => by rw [e, hb] at hb1; exact nomatch hb1
    refine wp_store (pc' := 11) (j := 2) (ls' := [_, _, _, _]) dJx4a65c_add_72be8_10 rfl (Nat.le_of_ble_eq_true rfl) rfl rfl ?_
    refine wp_load (pc' := 12) (j := 2) dJx4a65c_add_72be8_11 rfl rfl rfl ?_
    refine wp_load (pc' := 13) (j := 3) dJx4a65c_add_72be8_12 rfl rfl rfl ?_
    refine wp_load (pc' := 14) (j := 1) dJx4a65c_add_72be8_13 rfl rfl rfl ?_
    refine wp_aast (pc' := 15) dJx4a65c_add_72be8_14 hc1 rfl (by omega) (by omega) ((hk b hb1b.symm hbl).trans hb) hc hw rfl ?_
    refine wp_load (pc' := 16) (j := 0) dJx4a65c_add_72be8_15 rfl rfl rfl ?_
    refine wp_load (pc' := 17) (j := 3) dJx4a65c_add_72be8_16 rfl rfl rfl ?_
    refine wp_iconst (pc' := 18) (1) dJx4a65c_add_72be8_17 rfl rfl ?_
    refine wp_pure (pc' := 19) dJx4a65c_add_72be8_18 rfl rfl ?_
    refine wp_put (pc' := 22) (fs' := [_, _, _]) dJx4a65c_add_72be8_19 fl_Jx4a65c_48 ((hu_n hb1l.symm).trans hl1) (Nat.le_of_ble_eq_true rfl) rfl rfl rfl rfl ?_
    refine wp_vret dJx4a65c_add_72be8_22 rfl ?_
    exact hP b1 _ ⟨⟨_, by rw [nI_1]; exact hu_s⟩, Or.inr ⟨Nat.succ_pos n, cap1, _, (hu_n hb1l).trans hu_s, by omega, h12, by omega, jd_up h14⟩⟩ (Or.inr hb1) (fun q h1 h2 h3 => by rw [hu_n h1, hu_n (fun e => h3 (by rw [e]; exact hb1)), hk q (fun e => h3 (by rw [e]; exact hb1)) h1])
  · skip
    have hfu : ¬ (ar = E.1 ∧ n = 0) → ∀ cap f, G ar = some (hR cap f) → n = cap := fun _ cap f z => by rw [h0] at z; exact hR_n (Option.some.inj z)
    refine sp_intro bd_Jx4a65c_add_72be8 (v1_all rfl) (Nat.le_of_ble_eq_true rfl) ?_
    change WX _ _ _ _ _ _ 0 [some (.ref la), some (.ref b), some (.ref ar), some (.int (nI n))] [] _ 0 0
    refine wp_load (pc' := 1) (j := 3) dJx4a65c_add_72be8_0 rfl rfl rfl ?_
    refine wp_load (pc' := 2) (j := 2) dJx4a65c_add_72be8_1 rfl rfl rfl ?_
    refine wp_alen (pc' := 3) dJx4a65c_add_72be8_2 h0 rfl rfl ?_
    refine wp_icmpF (pc' := 6) 11 dJx4a65c_add_72be8_3 rfl rfl (fun z => z rfl) ?_
    refine wp_load (pc' := 7) (j := 0) dJx4a65c_add_72be8_6 rfl rfl rfl ?_
    refine wp_v0 1 (10 + n + n / 2) dJx4a65c_add_72be8_7 ml_Jx4a65c_129 hl (Nat.le_of_ble_eq_true rfl) (by omega) (by omega) ?_
    refine k_grow0 hL he hc hw hn hfu (by omega) (by omega) (fun b1 G1 hb1 hg1 hg2 hk => ?_)
    refine kt_v ?_
    obtain ⟨mo1, hl1⟩ := hg1
    obtain ⟨cap1, g, hc1, h11, h12, h13, h14⟩ := hg2
    have hb1l : b1 ≠ la := fun e => by rw [e, hl] at hb1; exact nomatch hb1
    have hb1b : b1 ≠ b := fun e => by rw [e, hb] at hb1; exact nomatch hb1
    refine wp_store (pc' := 11) (j := 2) (ls' := [_, _, _, _]) dJx4a65c_add_72be8_10 rfl (Nat.le_of_ble_eq_true rfl) rfl rfl ?_
    refine wp_load (pc' := 12) (j := 2) dJx4a65c_add_72be8_11 rfl rfl rfl ?_
    refine wp_load (pc' := 13) (j := 3) dJx4a65c_add_72be8_12 rfl rfl rfl ?_
    refine wp_load (pc' := 14) (j := 1) dJx4a65c_add_72be8_13 rfl rfl rfl ?_
    refine wp_aast (pc' := 15) dJx4a65c_add_72be8_14 hc1 rfl (by omega) (by omega) ((hk b hb1b.symm hbl).trans hb) hc hw rfl ?_
    refine wp_load (pc' := 16) (j := 0) dJx4a65c_add_72be8_15 rfl rfl rfl ?_
    refine wp_load (pc' := 17) (j := 3) dJx4a65c_add_72be8_16 rfl rfl rfl ?_
    refine wp_iconst (pc' := 18) (1) dJx4a65c_add_72be8_17 rfl rfl ?_
    refine wp_pure (pc' := 19) dJx4a65c_add_72be8_18 rfl rfl ?_
    refine wp_put (pc' := 22) (fs' := [_, _, _]) dJx4a65c_add_72be8_19 fl_Jx4a65c_48 ((hu_n hb1l.symm).trans hl1) (Nat.le_of_ble_eq_true rfl) rfl rfl rfl rfl ?_
    refine wp_vret dJx4a65c_add_72be8_22 rfl ?_
    exact hP b1 _ ⟨⟨_, by rw [nI_1]; exact hu_s⟩, Or.inr ⟨Nat.succ_pos n, cap1, _, (hu_n hb1l).trans hu_s, by omega, h12, by omega, jd_up h14⟩⟩ (Or.inr hb1) (fun q h1 h2 h3 => by rw [hu_n h1, hu_n (fun e => h3 (by rw [e]; exact hb1)), hk q (fun e => h3 (by rw [e]; exact hb1)) h1])
  · skip
    have hla : la ≠ ar := fun e => by rw [e, h0] at hl; exact hO_hR (Option.some.inj hl).symm
    refine sp_intro bd_Jx4a65c_add_72be8 (v1_all rfl) (Nat.le_of_ble_eq_true rfl) ?_
    change WX _ _ _ _ _ _ 0 [some (.ref la), some (.ref b), some (.ref ar), some (.int (nI n))] [] _ 0 0
    refine wp_load (pc' := 1) (j := 3) dJx4a65c_add_72be8_0 rfl rfl rfl ?_
    refine wp_load (pc' := 2) (j := 2) dJx4a65c_add_72be8_1 rfl rfl rfl ?_
    refine wp_alen (pc' := 3) dJx4a65c_add_72be8_2 h0 rfl rfl ?_
    refine wp_icmpT 11 dJx4a65c_add_72be8_3 rfl (fun e => by have := (nI_eq (show n < 2 ^ 31 by omega) (show cap < 2 ^ 31 by omega)).1 e; omega) ?_
    refine wp_load (pc' := 12) (j := 2) dJx4a65c_add_72be8_11 rfl rfl rfl ?_
    refine wp_load (pc' := 13) (j := 3) dJx4a65c_add_72be8_12 rfl rfl rfl ?_
    refine wp_load (pc' := 14) (j := 1) dJx4a65c_add_72be8_13 rfl rfl rfl ?_
    refine wp_aast (pc' := 15) dJx4a65c_add_72be8_14 h0 rfl (by omega) (by omega) hb hc hw rfl ?_
    refine wp_load (pc' := 16) (j := 0) dJx4a65c_add_72be8_15 rfl rfl rfl ?_
    refine wp_load (pc' := 17) (j := 3) dJx4a65c_add_72be8_16 rfl rfl rfl ?_
    refine wp_iconst (pc' := 18) (1) dJx4a65c_add_72be8_17 rfl rfl ?_
    refine wp_pure (pc' := 19) dJx4a65c_add_72be8_18 rfl rfl ?_
    refine wp_put (pc' := 22) (fs' := [_, _, _]) dJx4a65c_add_72be8_19 fl_Jx4a65c_48 ((hu_n hla).trans hl) (Nat.le_of_ble_eq_true rfl) rfl rfl rfl rfl ?_
    refine wp_vret dJx4a65c_add_72be8_22 rfl ?_
    exact hP ar _ ⟨⟨_, by rw [nI_1]; exact hu_s⟩, Or.inr ⟨Nat.succ_pos n, cap, _, (hu_n hla.symm).trans hu_s, by omega, h2, by omega, jd_up h4⟩⟩ (Or.inl ⟨hz, rfl⟩) (fun q h1 h2 h3 => by rw [hu_n h1, hu_n (h2 hz)])
set_option maxRecDepth 20000 in
set_option maxHeartbeats 2000000 in
theorem k_add {E : XE} {d mc ms : Nat} {P : Ps} {G : HP} {la ar n : Nat} {el : Nat → Nat} (hL : AL E G la ar n el) {ci : Nat} {q : vw_C} (he : Els G ci n el) (hc : vwCl[ci]? = some q) (hw : tW (.castable q.1 "java/lang/Object")) (hn : n ≤ 200) {b : Nat} {fb : List Value} (hb : G b = some (hO ci fb)) (hbl : b ≠ la) (hel : ∀ j, j < n → el j ≠ la) (hmc : 1 ≤ mc) (hms : 10 + n + n / 2 ≤ ms) (hP : ∀ ar' G', AL E G' la ar' (n + 1) (va_up el n b) → ((0 < n ∧ ar' = ar) ∨ G ar' = none) → (∀ q, q ≠ la → (0 < n → q ≠ ar) → G q ≠ none → G' q = G q) → P (.inl (some (.int 1))) G') : Sp E (d + 7) yJx4a65c_add_9ea2d mc ms [.ref la, .ref b] G P := by
  obtain ⟨⟨mo, hl⟩, hL2⟩ := id hL
  refine sp_intro bd_Jx4a65c_add_9ea2d (v1_all rfl) (Nat.le_of_ble_eq_true rfl) ?_
  change WX _ _ _ _ _ _ 0 [some (.ref la), some (.ref b)] [] _ 0 0
  refine wp_load (pc' := 1) (j := 0) dJx4a65c_add_9ea2d_0 rfl rfl rfl ?_
  refine wp_dup (pc' := 2) dJx4a65c_add_9ea2d_1 rfl rfl ?_
  refine wp_get (pc' := 5) dJx4a65c_add_9ea2d_2 fl_Jx4a65c_63 hl rfl rfl ?_
  refine wp_iconst (pc' := 6) (1) dJx4a65c_add_9ea2d_5 rfl rfl ?_
  refine wp_pure (pc' := 7) dJx4a65c_add_9ea2d_6 rfl rfl ?_
  refine wp_put (pc' := 10) (fs' := [_, _, _]) dJx4a65c_add_9ea2d_7 fl_Jx4a65c_63 hl (Nat.le_of_ble_eq_true rfl) rfl rfl rfl rfl ?_
  refine wp_load (pc' := 11) (j := 0) dJx4a65c_add_9ea2d_10 rfl rfl rfl ?_
  refine wp_load (pc' := 12) (j := 1) dJx4a65c_add_9ea2d_11 rfl rfl rfl ?_
  refine wp_load (pc' := 13) (j := 0) dJx4a65c_add_9ea2d_12 rfl rfl rfl ?_
  refine wp_get (pc' := 16) dJx4a65c_add_9ea2d_13 fl_Jx4a65c_9 hu_s rfl rfl ?_
  refine wp_load (pc' := 17) (j := 0) dJx4a65c_add_9ea2d_16 rfl rfl rfl ?_
  refine wp_get (pc' := 20) dJx4a65c_add_9ea2d_17 fl_Jx4a65c_48 hu_s rfl rfl ?_
  refine wp_v3 1 (10 + n + n / 2) dJx4a65c_add_9ea2d_20 ml_Jx4a65c_131 hu_s (Nat.le_of_ble_eq_true rfl) (by omega) (by omega) ?_
  have hk : ∀ q fs, q ≠ la → G q = some (hO ci fs) → hu G la (hO 0 [.int (mo + 1), .ref ar, .int (nI n)]) q = some (hO ci fs) := fun q fs h1 h2 => (hu_n h1).trans h2
  have hk2 : ∀ cap f, G ar = some (hR cap f) → hu G la (hO 0 [.int (mo + 1), .ref ar, .int (nI n)]) ar = some (hR cap f) := fun cap f h => (hu_n (fun e => by rw [e, hl] at h; exact hO_hR (Option.some.inj h))).trans h
  have hL1 : AL E (hu G la (hO 0 [.int (mo + 1), .ref ar, .int (nI n)])) la ar n el := ⟨⟨_, hu_s⟩, hL2.imp id (fun ⟨y, cap, f, z, w⟩ => ⟨y, cap, f, hk2 cap f z, w⟩)⟩
  refine k_add3 hL1 (fun j hj => (he j hj).imp (fun fs h => hk _ fs (hel j hj) h)) hc hw hn (hk b fb hbl hb) hbl (by omega) (by omega) (fun ar1 G1 h1 h2 h3 => ?_)
  refine kt_u ?_
  refine wp_iconst (pc' := 24) (1) dJx4a65c_add_9ea2d_23 rfl rfl ?_
  refine wp_iret dJx4a65c_add_9ea2d_24 rfl rfl ?_
  exact hP ar1 _ h1 (h2.imp id (fun h => (by unfold hu at h; split at h; exact nomatch h; exact h))) (fun q z1 z2 z3 => (h3 q z1 z2 (by rw [hu_n z1]; exact z3)).trans (hu_n z1))

