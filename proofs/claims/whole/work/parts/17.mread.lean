theorem nI_nm1 {n : Nat} (h : n < 2 ^ 31) : ¬ nI n = -1 := fun e => nI_pos h (by rw [e]; decide)
set_option maxRecDepth 20000 in
set_option maxHeartbeats 2000000 in
theorem s_holds {E : XE} {d mc ms : Nat} {G : HP} {P : Ps} {m : Nat} {aM own : Nat → Nat} {σ : MS} (hM : MH m aM own σ G) {k : Nat} (hk : k < 30) (s mt q : Int32) (hP : P (.inl (some (.int (b2i (holdsB σ k s mt q))))) G) : Sp E (d + 2) yX9_holds mc ms [.ref m, .int (nI k), .int s, .int mt, .int q] G P := by
  obtain ⟨hm, hA, -⟩ := id hM
  refine sp_intro bd_X9_holds (v1_all rfl) (Nat.le_of_ble_eq_true rfl) ?_
  change WX _ _ _ _ _ _ 0 [some (.ref m), some (.int (nI k)), some (.int s), some (.int mt), some (.int q), none, none] [] _ 0 0
  refine wp_load (pc' := 2) (j := 4) dX9_holds_0 rfl rfl rfl ?_
  refine wp_bipush (pc' := 4) (96) dX9_holds_2 rfl rfl ?_
  refine wp_div (pc' := 5) dX9_holds_4 (by decide) rfl ?_
  refine wp_store (pc' := 7) (j := 5) (ls' := [_, _, _, _, _, _, _]) dX9_holds_5 rfl (Nat.le_of_ble_eq_true rfl) rfl rfl ?_
  refine wp_load (pc' := 8) (j := 0) dX9_holds_7 rfl rfl rfl ?_
  refine wp_get (pc' := 11) dX9_holds_8 fl_X9_13 hm rfl rfl ?_
  refine wp_load (pc' := 12) (j := 1) dX9_holds_11 rfl rfl rfl ?_
  refine wp_iald (pc' := 13) dX9_holds_12 (hA 8 (by decide)) rfl hk (by decide) rfl ?_
  refine wp_load (pc' := 14) (j := 2) dX9_holds_13 rfl rfl rfl ?_
  refine wp_icmp_ne (pc' := 17) 62 dX9_holds_14 rfl rfl (fun h14 => ?_) (fun h14 => ?_)
  · skip
    refine wp_iconst (pc' := 63) (0) dX9_holds_62 rfl rfl ?_
    refine wp_store (pc' := 65) (j := 6) (ls' := [_, _, _, _, _, _, _]) dX9_holds_63 rfl (Nat.le_of_ble_eq_true rfl) rfl rfl ?_
    refine wp_load (pc' := 67) (j := 6) dX9_holds_65 rfl rfl rfl ?_
    refine wp_ifT 139 dX9_holds_67 rfl (cmpT rfl) ?_
    refine wp_iconst (pc' := 140) (0) dX9_holds_139 rfl rfl ?_
    refine wp_store (pc' := 142) (j := 6) (ls' := [_, _, _, _, _, _, _]) dX9_holds_140 rfl (Nat.le_of_ble_eq_true rfl) rfl rfl ?_
    refine wp_load (pc' := 144) (j := 6) dX9_holds_142 rfl rfl rfl ?_
    refine wp_ifT 176 dX9_holds_144 rfl (cmpT rfl) ?_
    refine wp_iconst (pc' := 177) (0) dX9_holds_176 rfl rfl ?_
    refine wp_iret dX9_holds_177 rfl rfl ?_
    simpa only [holdsB, rem, b2i_t, b2i_f, h14, Bool.false_eq_true, decide_true, decide_false, Bool.not_true, Bool.not_false, Bool.and_true, Bool.true_and, Bool.and_false, Bool.false_and, Bool.or_true, Bool.true_or, Bool.or_false, Bool.false_or, if_true, if_false, ite_true, ite_false] using hP
  · skip
    refine wp_load (pc' := 18) (j := 3) dX9_holds_17 rfl rfl rfl ?_
    refine wp_load (pc' := 19) (j := 0) dX9_holds_18 rfl rfl rfl ?_
    refine wp_get (pc' := 22) dX9_holds_19 fl_X9_17 hm rfl rfl ?_
    refine wp_load (pc' := 23) (j := 1) dX9_holds_22 rfl rfl rfl ?_
    refine wp_iald (pc' := 24) dX9_holds_23 (hA 9 (by decide)) rfl hk (by decide) rfl ?_
    refine wp_load (pc' := 25) (j := 0) dX9_holds_24 rfl rfl rfl ?_
    refine wp_get (pc' := 28) dX9_holds_25 fl_X9_20 hm rfl rfl ?_
    refine wp_load (pc' := 29) (j := 1) dX9_holds_28 rfl rfl rfl ?_
    refine wp_iald (pc' := 30) dX9_holds_29 (hA 10 (by decide)) rfl hk (by decide) rfl ?_
    refine wp_s3 0 0 dX9_holds_30 ml_X9_153 (Nat.le_of_ble_eq_true rfl) (by omega) (by omega) ?_
    refine s_in _ _ _ ?_
    refine kt_v ?_
    refine wp_ifeqB (pc' := 36) 62 dX9_holds_33 rfl rfl (fun h33 => ?_) (fun h33 => ?_)
    · skip
      refine wp_iconst (pc' := 63) (0) dX9_holds_62 rfl rfl ?_
      refine wp_store (pc' := 65) (j := 6) (ls' := [_, _, _, _, _, _, _]) dX9_holds_63 rfl (Nat.le_of_ble_eq_true rfl) rfl rfl ?_
      refine wp_load (pc' := 67) (j := 6) dX9_holds_65 rfl rfl rfl ?_
      refine wp_ifT 139 dX9_holds_67 rfl (cmpT rfl) ?_
      refine wp_iconst (pc' := 140) (0) dX9_holds_139 rfl rfl ?_
      refine wp_store (pc' := 142) (j := 6) (ls' := [_, _, _, _, _, _, _]) dX9_holds_140 rfl (Nat.le_of_ble_eq_true rfl) rfl rfl ?_
      refine wp_load (pc' := 144) (j := 6) dX9_holds_142 rfl rfl rfl ?_
      refine wp_ifT 176 dX9_holds_144 rfl (cmpT rfl) ?_
      refine wp_iconst (pc' := 177) (0) dX9_holds_176 rfl rfl ?_
      refine wp_iret dX9_holds_177 rfl rfl ?_
      simpa only [holdsB, rem, b2i_t, b2i_f, h14, h33, Bool.false_eq_true, decide_true, decide_false, Bool.not_true, Bool.not_false, Bool.and_true, Bool.true_and, Bool.and_false, Bool.false_and, Bool.or_true, Bool.true_or, Bool.or_false, Bool.false_or, if_true, if_false, ite_true, ite_false] using hP
    · skip
      refine wp_load (pc' := 37) (j := 0) dX9_holds_36 rfl rfl rfl ?_
      refine wp_get (pc' := 40) dX9_holds_37 fl_X9_50 hm rfl rfl ?_
      refine wp_load (pc' := 41) (j := 1) dX9_holds_40 rfl rfl rfl ?_
      refine wp_iald (pc' := 42) dX9_holds_41 (hA 20 (by decide)) rfl hk (by decide) rfl ?_
      refine wp_load (pc' := 44) (j := 4) dX9_holds_42 rfl rfl rfl ?_
      refine wp_icmp_gt (pc' := 47) 62 dX9_holds_44 rfl rfl (fun h44 => ?_) (fun h44 => ?_)
      · skip
        refine wp_iconst (pc' := 63) (0) dX9_holds_62 rfl rfl ?_
        refine wp_store (pc' := 65) (j := 6) (ls' := [_, _, _, _, _, _, _]) dX9_holds_63 rfl (Nat.le_of_ble_eq_true rfl) rfl rfl ?_
        refine wp_load (pc' := 67) (j := 6) dX9_holds_65 rfl rfl rfl ?_
        refine wp_ifT 139 dX9_holds_67 rfl (cmpT rfl) ?_
        refine wp_iconst (pc' := 140) (0) dX9_holds_139 rfl rfl ?_
        refine wp_store (pc' := 142) (j := 6) (ls' := [_, _, _, _, _, _, _]) dX9_holds_140 rfl (Nat.le_of_ble_eq_true rfl) rfl rfl ?_
        refine wp_load (pc' := 144) (j := 6) dX9_holds_142 rfl rfl rfl ?_
        refine wp_ifT 176 dX9_holds_144 rfl (cmpT rfl) ?_
        refine wp_iconst (pc' := 177) (0) dX9_holds_176 rfl rfl ?_
        refine wp_iret dX9_holds_177 rfl rfl ?_
        simpa only [holdsB, rem, b2i_t, b2i_f, h14, h33, h44, Bool.false_eq_true, decide_true, decide_false, Bool.not_true, Bool.not_false, Bool.and_true, Bool.true_and, Bool.and_false, Bool.false_and, Bool.or_true, Bool.true_or, Bool.or_false, Bool.false_or, if_true, if_false, ite_true, ite_false] using hP
      · skip
        refine wp_load (pc' := 48) (j := 0) dX9_holds_47 rfl rfl rfl ?_
        refine wp_get (pc' := 51) dX9_holds_48 fl_X9_53 hm rfl rfl ?_
        refine wp_load (pc' := 52) (j := 1) dX9_holds_51 rfl rfl rfl ?_
        refine wp_iald (pc' := 53) dX9_holds_52 (hA 21 (by decide)) rfl hk (by decide) rfl ?_
        refine wp_load (pc' := 55) (j := 4) dX9_holds_53 rfl rfl rfl ?_
        refine wp_icmp_le (pc' := 58) 62 dX9_holds_55 rfl rfl (fun h55 => ?_) (fun h55 => ?_)
        · skip
          refine wp_iconst (pc' := 63) (0) dX9_holds_62 rfl rfl ?_
          refine wp_store (pc' := 65) (j := 6) (ls' := [_, _, _, _, _, _, _]) dX9_holds_63 rfl (Nat.le_of_ble_eq_true rfl) rfl rfl ?_
          refine wp_load (pc' := 67) (j := 6) dX9_holds_65 rfl rfl rfl ?_
          refine wp_ifT 139 dX9_holds_67 rfl (cmpT rfl) ?_
          refine wp_iconst (pc' := 140) (0) dX9_holds_139 rfl rfl ?_
          refine wp_store (pc' := 142) (j := 6) (ls' := [_, _, _, _, _, _, _]) dX9_holds_140 rfl (Nat.le_of_ble_eq_true rfl) rfl rfl ?_
          refine wp_load (pc' := 144) (j := 6) dX9_holds_142 rfl rfl rfl ?_
          refine wp_ifT 176 dX9_holds_144 rfl (cmpT rfl) ?_
          refine wp_iconst (pc' := 177) (0) dX9_holds_176 rfl rfl ?_
          refine wp_iret dX9_holds_177 rfl rfl ?_
          simpa only [holdsB, rem, b2i_t, b2i_f, h14, h33, h44, h55, Bool.false_eq_true, decide_true, decide_false, Bool.not_true, Bool.not_false, Bool.and_true, Bool.true_and, Bool.and_false, Bool.false_and, Bool.or_true, Bool.true_or, Bool.or_false, Bool.false_or, if_true, if_false, ite_true, ite_false] using hP
        · skip
          refine wp_iconst (pc' := 59) (1) dX9_holds_58 rfl rfl ?_
          refine wp_goto 63 dX9_holds_59 rfl ?_
          refine wp_store (pc' := 65) (j := 6) (ls' := [_, _, _, _, _, _, _]) dX9_holds_63 rfl (Nat.le_of_ble_eq_true rfl) rfl rfl ?_
          refine wp_load (pc' := 67) (j := 6) dX9_holds_65 rfl rfl rfl ?_
          refine wp_ifF (pc' := 70) 139 dX9_holds_67 rfl rfl (cmpF rfl) ?_
          refine wp_load (pc' := 71) (j := 0) dX9_holds_70 rfl rfl rfl ?_
          refine wp_get (pc' := 74) dX9_holds_71 fl_X9_35 hm rfl rfl ?_
          refine wp_load (pc' := 75) (j := 1) dX9_holds_74 rfl rfl rfl ?_
          refine wp_iald (pc' := 76) dX9_holds_75 (hA 15 (by decide)) rfl hk (by decide) rfl ?_
          refine wp_load (pc' := 78) (j := 5) dX9_holds_76 rfl rfl rfl ?_
          refine wp_bipush (pc' := 80) (7) dX9_holds_78 rfl rfl ?_
          refine wp_rem (pc' := 81) dX9_holds_80 (by decide) rfl ?_
          refine wp_s2 0 0 dX9_holds_81 ml_X9_194 (Nat.le_of_ble_eq_true rfl) (by omega) (by omega) ?_
          refine s_has _ _ ?_
          refine kt_v ?_
          refine wp_ifeqB (pc' := 87) 139 dX9_holds_84 rfl rfl (fun h84 => ?_) (fun h84 => ?_)
          · skip
            refine wp_iconst (pc' := 140) (0) dX9_holds_139 rfl rfl ?_
            refine wp_store (pc' := 142) (j := 6) (ls' := [_, _, _, _, _, _, _]) dX9_holds_140 rfl (Nat.le_of_ble_eq_true rfl) rfl rfl ?_
            refine wp_load (pc' := 144) (j := 6) dX9_holds_142 rfl rfl rfl ?_
            refine wp_ifT 176 dX9_holds_144 rfl (cmpT rfl) ?_
            refine wp_iconst (pc' := 177) (0) dX9_holds_176 rfl rfl ?_
            refine wp_iret dX9_holds_177 rfl rfl ?_
            simpa only [holdsB, rem, b2i_t, b2i_f, h14, h33, h44, h55, h84, Bool.false_eq_true, decide_true, decide_false, Bool.not_true, Bool.not_false, Bool.and_true, Bool.true_and, Bool.and_false, Bool.false_and, Bool.or_true, Bool.true_or, Bool.or_false, Bool.false_or, if_true, if_false, ite_true, ite_false] using hP
          · skip
            refine wp_load (pc' := 89) (j := 4) dX9_holds_87 rfl rfl rfl ?_
            refine wp_bipush (pc' := 91) (96) dX9_holds_89 rfl rfl ?_
            refine wp_rem (pc' := 92) dX9_holds_91 (by decide) rfl ?_
            refine wp_load (pc' := 93) (j := 0) dX9_holds_92 rfl rfl rfl ?_
            refine wp_get (pc' := 96) dX9_holds_93 fl_X9_38 hm rfl rfl ?_
            refine wp_load (pc' := 97) (j := 1) dX9_holds_96 rfl rfl rfl ?_
            refine wp_iald (pc' := 98) dX9_holds_97 (hA 16 (by decide)) rfl hk (by decide) rfl ?_
            refine wp_icmp_lt (pc' := 101) 139 dX9_holds_98 rfl rfl (fun h98 => ?_) (fun h98 => ?_)
            · skip
              refine wp_iconst (pc' := 140) (0) dX9_holds_139 rfl rfl ?_
              refine wp_store (pc' := 142) (j := 6) (ls' := [_, _, _, _, _, _, _]) dX9_holds_140 rfl (Nat.le_of_ble_eq_true rfl) rfl rfl ?_
              refine wp_load (pc' := 144) (j := 6) dX9_holds_142 rfl rfl rfl ?_
              refine wp_ifT 176 dX9_holds_144 rfl (cmpT rfl) ?_
              refine wp_iconst (pc' := 177) (0) dX9_holds_176 rfl rfl ?_
              refine wp_iret dX9_holds_177 rfl rfl ?_
              simpa only [holdsB, rem, b2i_t, b2i_f, h14, h33, h44, h55, h84, h98, Bool.false_eq_true, decide_true, decide_false, Bool.not_true, Bool.not_false, Bool.and_true, Bool.true_and, Bool.and_false, Bool.false_and, Bool.or_true, Bool.true_or, Bool.or_false, Bool.false_or, if_true, if_false, ite_true, ite_false] using hP
            · skip
              refine wp_load (pc' := 103) (j := 4) dX9_holds_101 rfl rfl rfl ?_
              refine wp_bipush (pc' := 105) (96) dX9_holds_103 rfl rfl ?_
              refine wp_rem (pc' := 106) dX9_holds_105 (by decide) rfl ?_
              refine wp_load (pc' := 107) (j := 0) dX9_holds_106 rfl rfl rfl ?_
              refine wp_get (pc' := 110) dX9_holds_107 fl_X9_41 hm rfl rfl ?_
              refine wp_load (pc' := 111) (j := 1) dX9_holds_110 rfl rfl rfl ?_
              refine wp_iald (pc' := 112) dX9_holds_111 (hA 17 (by decide)) rfl hk (by decide) rfl ?_
              refine wp_icmp_ge (pc' := 115) 139 dX9_holds_112 rfl rfl (fun h112 => ?_) (fun h112 => ?_)
              · skip
                refine wp_iconst (pc' := 140) (0) dX9_holds_139 rfl rfl ?_
                refine wp_store (pc' := 142) (j := 6) (ls' := [_, _, _, _, _, _, _]) dX9_holds_140 rfl (Nat.le_of_ble_eq_true rfl) rfl rfl ?_
                refine wp_load (pc' := 144) (j := 6) dX9_holds_142 rfl rfl rfl ?_
                refine wp_ifT 176 dX9_holds_144 rfl (cmpT rfl) ?_
                refine wp_iconst (pc' := 177) (0) dX9_holds_176 rfl rfl ?_
                refine wp_iret dX9_holds_177 rfl rfl ?_
                simpa only [holdsB, rem, b2i_t, b2i_f, h14, h33, h44, h55, h84, h98, h112, Bool.false_eq_true, decide_true, decide_false, Bool.not_true, Bool.not_false, Bool.and_true, Bool.true_and, Bool.and_false, Bool.false_and, Bool.or_true, Bool.true_or, Bool.or_false, Bool.false_or, if_true, if_false, ite_true, ite_false] using hP
              · skip
                refine wp_load (pc' := 117) (j := 5) dX9_holds_115 rfl rfl rfl ?_
                refine wp_load (pc' := 118) (j := 0) dX9_holds_117 rfl rfl rfl ?_
                refine wp_get (pc' := 121) dX9_holds_118 fl_X9_44 hm rfl rfl ?_
                refine wp_load (pc' := 122) (j := 1) dX9_holds_121 rfl rfl rfl ?_
                refine wp_iald (pc' := 123) dX9_holds_122 (hA 18 (by decide)) rfl hk (by decide) rfl ?_
                refine wp_load (pc' := 124) (j := 0) dX9_holds_123 rfl rfl rfl ?_
                refine wp_get (pc' := 127) dX9_holds_124 fl_X9_47 hm rfl rfl ?_
                refine wp_load (pc' := 128) (j := 1) dX9_holds_127 rfl rfl rfl ?_
                refine wp_iald (pc' := 129) dX9_holds_128 (hA 19 (by decide)) rfl hk (by decide) rfl ?_
                refine wp_s3 0 0 dX9_holds_129 ml_X9_153 (Nat.le_of_ble_eq_true rfl) (by omega) (by omega) ?_
                refine s_in _ _ _ ?_
                refine kt_v ?_
                refine wp_ifeqB (pc' := 135) 139 dX9_holds_132 rfl rfl (fun h132 => ?_) (fun h132 => ?_)
                · skip
                  refine wp_iconst (pc' := 140) (0) dX9_holds_139 rfl rfl ?_
                  refine wp_store (pc' := 142) (j := 6) (ls' := [_, _, _, _, _, _, _]) dX9_holds_140 rfl (Nat.le_of_ble_eq_true rfl) rfl rfl ?_
                  refine wp_load (pc' := 144) (j := 6) dX9_holds_142 rfl rfl rfl ?_
                  refine wp_ifT 176 dX9_holds_144 rfl (cmpT rfl) ?_
                  refine wp_iconst (pc' := 177) (0) dX9_holds_176 rfl rfl ?_
                  refine wp_iret dX9_holds_177 rfl rfl ?_
                  simpa only [holdsB, rem, b2i_t, b2i_f, h14, h33, h44, h55, h84, h98, h112, h132, Bool.false_eq_true, decide_true, decide_false, Bool.not_true, Bool.not_false, Bool.and_true, Bool.true_and, Bool.and_false, Bool.false_and, Bool.or_true, Bool.true_or, Bool.or_false, Bool.false_or, if_true, if_false, ite_true, ite_false] using hP
                · skip
                  refine wp_iconst (pc' := 136) (1) dX9_holds_135 rfl rfl ?_
                  refine wp_goto 140 dX9_holds_136 rfl ?_
                  refine wp_store (pc' := 142) (j := 6) (ls' := [_, _, _, _, _, _, _]) dX9_holds_140 rfl (Nat.le_of_ble_eq_true rfl) rfl rfl ?_
                  refine wp_load (pc' := 144) (j := 6) dX9_holds_142 rfl rfl rfl ?_
                  refine wp_ifF (pc' := 147) 176 dX9_holds_144 rfl rfl (cmpF rfl) ?_
                  refine wp_load (pc' := 148) (j := 0) dX9_holds_147 rfl rfl rfl ?_
                  refine wp_get (pc' := 151) dX9_holds_148 fl_X9_32 hm rfl rfl ?_
                  refine wp_load (pc' := 152) (j := 1) dX9_holds_151 rfl rfl rfl ?_
                  refine wp_zald (pc' := 153) dX9_holds_152 (hA 14 (by decide)) rfl hk (by decide) rfl ?_
                  refine wp_ifeqB (pc' := 156) 172 dX9_holds_153 rfl rfl (fun h153 => ?_) (fun h153 => ?_)
                  · skip
                    refine wp_iconst (pc' := 173) (1) dX9_holds_172 rfl rfl ?_
                    refine wp_goto 177 dX9_holds_173 rfl ?_
                    refine wp_iret dX9_holds_177 rfl rfl ?_
                    simpa only [holdsB, rem, b2i_t, b2i_f, h14, h33, h44, h55, h84, h98, h112, h132, h153, Bool.false_eq_true, decide_true, decide_false, Bool.not_true, Bool.not_false, Bool.and_true, Bool.true_and, Bool.and_false, Bool.false_and, Bool.or_true, Bool.true_or, Bool.or_false, Bool.false_or, if_true, if_false, ite_true, ite_false] using hP
                  · skip
                    refine wp_load (pc' := 158) (j := 5) dX9_holds_156 rfl rfl rfl ?_
                    refine wp_load (pc' := 159) (j := 0) dX9_holds_158 rfl rfl rfl ?_
                    refine wp_get (pc' := 162) dX9_holds_159 fl_X9_50 hm rfl rfl ?_
                    refine wp_load (pc' := 163) (j := 1) dX9_holds_162 rfl rfl rfl ?_
                    refine wp_iald (pc' := 164) dX9_holds_163 (hA 20 (by decide)) rfl hk (by decide) rfl ?_
                    refine wp_bipush (pc' := 166) (96) dX9_holds_164 rfl rfl ?_
                    refine wp_div (pc' := 167) dX9_holds_166 (by decide) rfl ?_
                    refine wp_iconst (pc' := 168) (2) dX9_holds_167 rfl rfl ?_
                    refine wp_pure (pc' := 169) dX9_holds_168 rfl rfl ?_
                    refine wp_icmp_le (pc' := 172) 176 dX9_holds_169 rfl rfl (fun h169 => ?_) (fun h169 => ?_)
                    · skip
                      refine wp_iconst (pc' := 177) (0) dX9_holds_176 rfl rfl ?_
                      refine wp_iret dX9_holds_177 rfl rfl ?_
                      simpa only [holdsB, rem, b2i_t, b2i_f, h14, h33, h44, h55, h84, h98, h112, h132, h153, h169, Bool.false_eq_true, decide_true, decide_false, Bool.not_true, Bool.not_false, Bool.and_true, Bool.true_and, Bool.and_false, Bool.false_and, Bool.or_true, Bool.true_or, Bool.or_false, Bool.false_or, if_true, if_false, ite_true, ite_false] using hP
                    · skip
                      refine wp_iconst (pc' := 173) (1) dX9_holds_172 rfl rfl ?_
                      refine wp_goto 177 dX9_holds_173 rfl ?_
                      refine wp_iret dX9_holds_177 rfl rfl ?_
                      simpa only [holdsB, rem, b2i_t, b2i_f, h14, h33, h44, h55, h84, h98, h112, h132, h153, h169, Bool.false_eq_true, decide_true, decide_false, Bool.not_true, Bool.not_false, Bool.and_true, Bool.true_and, Bool.and_false, Bool.false_and, Bool.or_true, Bool.true_or, Bool.or_false, Bool.false_or, if_true, if_false, ite_true, ite_false] using hP

set_option maxRecDepth 20000 in
set_option maxHeartbeats 2000000 in
theorem s_isAhead {E : XE} {d mc ms : Nat} {G : HP} {P : Ps} {m : Nat} {aM own : Nat → Nat} {σ : MS} (hM : MH m aM own σ G) {k f : Nat} (hk : k < 30) (hf : f < 30) {x : Int32} (hx : x = nI f) (hP : P (.inl (some (.int (b2i (aheadB σ k f))))) G) : Sp E (d + 1) yX9_isAhead mc ms [.ref m, .int (nI k), .int x] G P := by
  obtain ⟨hm, hA, -⟩ := id hM
  refine sp_intro bd_X9_isAhead (v1_all rfl) (Nat.le_of_ble_eq_true rfl) ?_
  change WX _ _ _ _ _ _ 0 [some (.ref m), some (.int (nI k)), some (.int x), none, none] [] _ 0 0
  refine wp_load (pc' := 1) (j := 0) dX9_isAhead_0 rfl rfl rfl ?_
  refine wp_get (pc' := 4) dX9_isAhead_1 fl_X9_20 hm rfl rfl ?_
  refine wp_load (pc' := 5) (j := 1) dX9_isAhead_4 rfl rfl rfl ?_
  refine wp_iald (pc' := 6) dX9_isAhead_5 (hA 10 (by decide)) rfl hk (by decide) rfl ?_
  refine wp_load (pc' := 7) (j := 0) dX9_isAhead_6 rfl rfl rfl ?_
  refine wp_get (pc' := 10) dX9_isAhead_7 fl_X9_17 hm rfl rfl ?_
  refine wp_load (pc' := 11) (j := 1) dX9_isAhead_10 rfl rfl rfl ?_
  refine wp_iald (pc' := 12) dX9_isAhead_11 (hA 9 (by decide)) rfl hk (by decide) rfl ?_
  refine wp_pure (pc' := 13) dX9_isAhead_12 rfl rfl ?_
  refine wp_store (pc' := 14) (j := 3) (ls' := [_, _, _, _, _]) dX9_isAhead_13 rfl (Nat.le_of_ble_eq_true rfl) rfl rfl ?_
  refine wp_load (pc' := 15) (j := 0) dX9_isAhead_14 rfl rfl rfl ?_
  refine wp_get (pc' := 18) dX9_isAhead_15 fl_X9_20 hm rfl rfl ?_
  refine wp_load (pc' := 19) (j := 2) dX9_isAhead_18 rfl rfl rfl ?_
  refine wp_iald (pc' := 20) dX9_isAhead_19 (hA 10 (by decide)) hx hf (by decide) rfl ?_
  refine wp_load (pc' := 21) (j := 0) dX9_isAhead_20 rfl rfl rfl ?_
  refine wp_get (pc' := 24) dX9_isAhead_21 fl_X9_17 hm rfl rfl ?_
  refine wp_load (pc' := 25) (j := 2) dX9_isAhead_24 rfl rfl rfl ?_
  refine wp_iald (pc' := 26) dX9_isAhead_25 (hA 9 (by decide)) hx hf (by decide) rfl ?_
  refine wp_pure (pc' := 27) dX9_isAhead_26 rfl rfl ?_
  refine wp_store (pc' := 29) (j := 4) (ls' := [_, _, _, _, _]) dX9_isAhead_27 rfl (Nat.le_of_ble_eq_true rfl) rfl rfl ?_
  refine wp_load (pc' := 30) (j := 0) dX9_isAhead_29 rfl rfl rfl ?_
  refine wp_get (pc' := 33) dX9_isAhead_30 fl_X9_32 hm rfl rfl ?_
  refine wp_load (pc' := 34) (j := 1) dX9_isAhead_33 rfl rfl rfl ?_
  refine wp_zald (pc' := 35) dX9_isAhead_34 (hA 14 (by decide)) rfl hk (by decide) rfl ?_
  refine wp_load (pc' := 36) (j := 0) dX9_isAhead_35 rfl rfl rfl ?_
  refine wp_get (pc' := 39) dX9_isAhead_36 fl_X9_32 hm rfl rfl ?_
  refine wp_load (pc' := 40) (j := 2) dX9_isAhead_39 rfl rfl rfl ?_
  refine wp_zald (pc' := 41) dX9_isAhead_40 (hA 14 (by decide)) hx hf (by decide) rfl ?_
  refine wp_icmp_eq (pc' := 44) 53 dX9_isAhead_41 rfl rfl (fun h41 => ?_) (fun h41 => ?_)
  · skip
    refine wp_load (pc' := 54) (j := 3) dX9_isAhead_53 rfl rfl rfl ?_
    refine wp_load (pc' := 56) (j := 4) dX9_isAhead_54 rfl rfl rfl ?_
    refine wp_icmp_gt (pc' := 59) 63 dX9_isAhead_56 rfl rfl (fun h56 => ?_) (fun h56 => ?_)
    · skip
      refine wp_iconst (pc' := 64) (0) dX9_isAhead_63 rfl rfl ?_
      refine wp_iret dX9_isAhead_64 rfl rfl ?_
      simpa only [aheadB, b2i_t, b2i_f, h41, h56, Bool.false_eq_true, decide_true, decide_false, Bool.not_true, Bool.not_false, Bool.and_true, Bool.true_and, Bool.and_false, Bool.false_and, Bool.or_true, Bool.true_or, Bool.or_false, Bool.false_or, if_true, if_false, ite_true, ite_false] using hP
    · skip
      refine wp_iconst (pc' := 60) (1) dX9_isAhead_59 rfl rfl ?_
      refine wp_goto 64 dX9_isAhead_60 rfl ?_
      refine wp_iret dX9_isAhead_64 rfl rfl ?_
      simpa only [aheadB, b2i_t, b2i_f, h41, h56, Bool.false_eq_true, decide_true, decide_false, Bool.not_true, Bool.not_false, Bool.and_true, Bool.true_and, Bool.and_false, Bool.false_and, Bool.or_true, Bool.true_or, Bool.or_false, Bool.false_or, if_true, if_false, ite_true, ite_false] using hP
  · skip
    refine wp_load (pc' := 45) (j := 0) dX9_isAhead_44 rfl rfl rfl ?_
    refine wp_get (pc' := 48) dX9_isAhead_45 fl_X9_32 hm rfl rfl ?_
    refine wp_load (pc' := 49) (j := 1) dX9_isAhead_48 rfl rfl rfl ?_
    refine wp_zald (pc' := 50) dX9_isAhead_49 (hA 14 (by decide)) rfl hk (by decide) rfl ?_
    refine wp_goto 64 dX9_isAhead_50 rfl ?_
    refine wp_iret dX9_isAhead_64 rfl nar_b2i ?_
    simpa only [aheadB, b2i_t, b2i_f, h41, Bool.false_eq_true, decide_true, decide_false, Bool.not_true, Bool.not_false, Bool.and_true, Bool.true_and, Bool.and_false, Bool.false_and, Bool.or_true, Bool.true_or, Bool.or_false, Bool.false_or, if_true, if_false, ite_true, ite_false] using hP

set_option maxRecDepth 20000 in
set_option maxHeartbeats 2000000 in
theorem l_ruleAt {E : XE} {d0 d mc ms : Nat} {G : HP} {P : Ps} {m : Nat} {aM own : Nat → Nat} {σ : MS}  (hd : d = d0 + 2) (hM : MH m aM own σ G) {n : Nat} (hs : σ.1 7 = nI n) (hs30 : n ≤ 30) {s mt q : Int32} (hP : P (.inl (some (.int (roI (ruleO σ s mt q n))))) G) : ∀ j k, k + j = n → WX E d (yX9_ruleAt, cX9_ruleAt, (some .int), []) mc ms P 6 [some (.ref m), some (.int s), some (.int mt), some (.int q), some (.int (roI (ruleO σ s mt q k))), some (.int (nI k))] [] G 0 0
  | 0, k, hk => by
    subst hd
    obtain ⟨hm, hA, -⟩ := id hM
    refine wp_load (pc' := 8) (j := 5) dX9_ruleAt_6 rfl rfl rfl ?_
    refine wp_load (pc' := 9) (j := 0) dX9_ruleAt_8 rfl rfl rfl ?_
    refine wp_get (pc' := 12) dX9_ruleAt_9 fl_X9_186 hm rfl rfl ?_
    refine wp_icmpT 59 dX9_ruleAt_12 rfl (cgeT hs (by omega) (by omega)) ?_
    refine wp_load (pc' := 61) (j := 4) dX9_ruleAt_59 rfl rfl rfl ?_
    refine wp_iret dX9_ruleAt_61 rfl rfl ?_
    obtain rfl : k = n := by omega
    exact hP
  | j + 1, k, hk => by
    have ih := l_ruleAt (E := E) (d := d) (mc := mc) (ms := ms) hd hM hs hs30 hP j (k + 1) (by omega)
    subst hd
    obtain ⟨hm, hA, -⟩ := id hM
    rcases hr : ruleO σ s mt q k with _ | f
    · skip
      refine wp_load (pc' := 8) (j := 5) dX9_ruleAt_6 rfl rfl rfl ?_
      refine wp_load (pc' := 9) (j := 0) dX9_ruleAt_8 rfl rfl rfl ?_
      refine wp_get (pc' := 12) dX9_ruleAt_9 fl_X9_186 hm rfl rfl ?_
      refine wp_icmpF (pc' := 15) 59 dX9_ruleAt_12 rfl rfl (cgeF hs (by omega) (by omega)) ?_
      refine wp_load (pc' := 16) (j := 0) dX9_ruleAt_15 rfl rfl rfl ?_
      refine wp_load (pc' := 18) (j := 5) dX9_ruleAt_16 rfl rfl rfl ?_
      refine wp_load (pc' := 19) (j := 1) dX9_ruleAt_18 rfl rfl rfl ?_
      refine wp_load (pc' := 20) (j := 2) dX9_ruleAt_19 rfl rfl rfl ?_
      refine wp_load (pc' := 21) (j := 3) dX9_ruleAt_20 rfl rfl rfl ?_
      refine wp_v4 0 0 dX9_ruleAt_21 ml_X9_198 hm (Nat.le_of_ble_eq_true rfl) (by omega) (by omega) ?_
      refine s_holds hM (by omega) _ _ _ ?_
      refine kt_v ?_
      refine wp_ifeqB (pc' := 27) 49 dX9_ruleAt_24 rfl rfl (fun h24 => ?_) (fun h24 => ?_)
      · skip
        refine wp_load (pc' := 51) (j := 4) dX9_ruleAt_49 rfl rfl rfl ?_
        refine wp_store (pc' := 53) (j := 4) (ls' := [_, _, _, _, _, _]) dX9_ruleAt_51 rfl (Nat.le_of_ble_eq_true rfl) rfl rfl ?_
        refine wp_iinc (pc' := 56) (j := 5) (ls' := [_, _, _, _, _, _]) (nI (k + 1)) dX9_ruleAt_53 rfl (nI_1 k) rfl rfl ?_
        refine wp_goto 6 dX9_ruleAt_56 rfl ?_
        simpa only [ruleO, hr, roI, h24, Bool.false_eq_true, decide_true, decide_false, Bool.not_true, Bool.not_false, Bool.and_true, Bool.true_and, Bool.and_false, Bool.false_and, Bool.or_true, Bool.true_or, Bool.or_false, Bool.false_or, if_true, if_false, ite_true, ite_false] using ih
      · skip
        refine wp_load (pc' := 29) (j := 4) dX9_ruleAt_27 rfl rfl rfl ?_
        refine wp_iconst (pc' := 30) (-1) dX9_ruleAt_29 rfl rfl ?_
        refine wp_icmpT 44 dX9_ruleAt_30 rfl (cmpT rfl) ?_
        refine wp_load (pc' := 46) (j := 5) dX9_ruleAt_44 rfl rfl rfl ?_
        refine wp_goto 51 dX9_ruleAt_46 rfl ?_
        refine wp_store (pc' := 53) (j := 4) (ls' := [_, _, _, _, _, _]) dX9_ruleAt_51 rfl (Nat.le_of_ble_eq_true rfl) rfl rfl ?_
        refine wp_iinc (pc' := 56) (j := 5) (ls' := [_, _, _, _, _, _]) (nI (k + 1)) dX9_ruleAt_53 rfl (nI_1 k) rfl rfl ?_
        refine wp_goto 6 dX9_ruleAt_56 rfl ?_
        simpa only [ruleO, hr, roI, h24, Bool.false_eq_true, decide_true, decide_false, Bool.not_true, Bool.not_false, Bool.and_true, Bool.true_and, Bool.and_false, Bool.false_and, Bool.or_true, Bool.true_or, Bool.or_false, Bool.false_or, if_true, if_false, ite_true, ite_false] using ih
    · skip
      have hfk := ruleO_lt hr
      refine wp_load (pc' := 8) (j := 5) dX9_ruleAt_6 rfl rfl rfl ?_
      refine wp_load (pc' := 9) (j := 0) dX9_ruleAt_8 rfl rfl rfl ?_
      refine wp_get (pc' := 12) dX9_ruleAt_9 fl_X9_186 hm rfl rfl ?_
      refine wp_icmpF (pc' := 15) 59 dX9_ruleAt_12 rfl rfl (cgeF hs (by omega) (by omega)) ?_
      refine wp_load (pc' := 16) (j := 0) dX9_ruleAt_15 rfl rfl rfl ?_
      refine wp_load (pc' := 18) (j := 5) dX9_ruleAt_16 rfl rfl rfl ?_
      refine wp_load (pc' := 19) (j := 1) dX9_ruleAt_18 rfl rfl rfl ?_
      refine wp_load (pc' := 20) (j := 2) dX9_ruleAt_19 rfl rfl rfl ?_
      refine wp_load (pc' := 21) (j := 3) dX9_ruleAt_20 rfl rfl rfl ?_
      refine wp_v4 0 0 dX9_ruleAt_21 ml_X9_198 hm (Nat.le_of_ble_eq_true rfl) (by omega) (by omega) ?_
      refine s_holds hM (by omega) _ _ _ ?_
      refine kt_v ?_
      refine wp_ifeqB (pc' := 27) 49 dX9_ruleAt_24 rfl rfl (fun h24 => ?_) (fun h24 => ?_)
      · skip
        refine wp_load (pc' := 51) (j := 4) dX9_ruleAt_49 rfl rfl rfl ?_
        refine wp_store (pc' := 53) (j := 4) (ls' := [_, _, _, _, _, _]) dX9_ruleAt_51 rfl (Nat.le_of_ble_eq_true rfl) rfl rfl ?_
        refine wp_iinc (pc' := 56) (j := 5) (ls' := [_, _, _, _, _, _]) (nI (k + 1)) dX9_ruleAt_53 rfl (nI_1 k) rfl rfl ?_
        refine wp_goto 6 dX9_ruleAt_56 rfl ?_
        simpa only [ruleO, hr, roI, h24, Bool.false_eq_true, decide_true, decide_false, Bool.not_true, Bool.not_false, Bool.and_true, Bool.true_and, Bool.and_false, Bool.false_and, Bool.or_true, Bool.true_or, Bool.or_false, Bool.false_or, if_true, if_false, ite_true, ite_false] using ih
      · skip
        refine wp_load (pc' := 29) (j := 4) dX9_ruleAt_27 rfl rfl rfl ?_
        refine wp_iconst (pc' := 30) (-1) dX9_ruleAt_29 rfl rfl ?_
        refine wp_icmpF (pc' := 33) 44 dX9_ruleAt_30 rfl rfl (nI_nm1 (by omega)) ?_
        refine wp_load (pc' := 34) (j := 0) dX9_ruleAt_33 rfl rfl rfl ?_
        refine wp_load (pc' := 36) (j := 5) dX9_ruleAt_34 rfl rfl rfl ?_
        refine wp_load (pc' := 38) (j := 4) dX9_ruleAt_36 rfl rfl rfl ?_
        refine wp_v2 0 0 dX9_ruleAt_38 ml_X9_202 hm (Nat.le_of_ble_eq_true rfl) (by omega) (by omega) ?_
        refine s_isAhead hM (by omega) (by omega) rfl ?_
        refine kt_v ?_
        refine wp_ifeqB (pc' := 44) 49 dX9_ruleAt_41 rfl rfl (fun h41 => ?_) (fun h41 => ?_)
        · skip
          refine wp_load (pc' := 51) (j := 4) dX9_ruleAt_49 rfl rfl rfl ?_
          refine wp_store (pc' := 53) (j := 4) (ls' := [_, _, _, _, _, _]) dX9_ruleAt_51 rfl (Nat.le_of_ble_eq_true rfl) rfl rfl ?_
          refine wp_iinc (pc' := 56) (j := 5) (ls' := [_, _, _, _, _, _]) (nI (k + 1)) dX9_ruleAt_53 rfl (nI_1 k) rfl rfl ?_
          refine wp_goto 6 dX9_ruleAt_56 rfl ?_
          simpa only [ruleO, hr, roI, h24, h41, Bool.false_eq_true, decide_true, decide_false, Bool.not_true, Bool.not_false, Bool.and_true, Bool.true_and, Bool.and_false, Bool.false_and, Bool.or_true, Bool.true_or, Bool.or_false, Bool.false_or, if_true, if_false, ite_true, ite_false] using ih
        · skip
          refine wp_load (pc' := 46) (j := 5) dX9_ruleAt_44 rfl rfl rfl ?_
          refine wp_goto 51 dX9_ruleAt_46 rfl ?_
          refine wp_store (pc' := 53) (j := 4) (ls' := [_, _, _, _, _, _]) dX9_ruleAt_51 rfl (Nat.le_of_ble_eq_true rfl) rfl rfl ?_
          refine wp_iinc (pc' := 56) (j := 5) (ls' := [_, _, _, _, _, _]) (nI (k + 1)) dX9_ruleAt_53 rfl (nI_1 k) rfl rfl ?_
          refine wp_goto 6 dX9_ruleAt_56 rfl ?_
          simpa only [ruleO, hr, roI, h24, h41, Bool.false_eq_true, decide_true, decide_false, Bool.not_true, Bool.not_false, Bool.and_true, Bool.true_and, Bool.and_false, Bool.false_and, Bool.or_true, Bool.true_or, Bool.or_false, Bool.false_or, if_true, if_false, ite_true, ite_false] using ih

set_option maxRecDepth 20000 in
set_option maxHeartbeats 2000000 in
theorem s_ruleAt {E : XE} {d mc ms : Nat} {G : HP} {P : Ps} {m : Nat} {aM own : Nat → Nat} {σ : MS} (hM : MH m aM own σ G) {n : Nat} (hs : σ.1 7 = nI n) (hs30 : n ≤ 30) (s mt q : Int32) (hP : P (.inl (some (.int (roI (ruleO σ s mt q n))))) G) : Sp E (d + 3) yX9_ruleAt mc ms [.ref m, .int s, .int mt, .int q] G P := by
  obtain ⟨hm, hA, -⟩ := id hM
  refine sp_intro bd_X9_ruleAt (v1_all rfl) (Nat.le_of_ble_eq_true rfl) ?_
  change WX _ _ _ _ _ _ 0 [some (.ref m), some (.int s), some (.int mt), some (.int q), none, none] [] _ 0 0
  refine wp_iconst (pc' := 1) (-1) dX9_ruleAt_0 rfl rfl ?_
  refine wp_store (pc' := 3) (j := 4) (ls' := [_, _, _, _, _, _]) dX9_ruleAt_1 rfl (Nat.le_of_ble_eq_true rfl) rfl rfl ?_
  refine wp_iconst (pc' := 4) (0) dX9_ruleAt_3 rfl rfl ?_
  refine wp_store (pc' := 6) (j := 5) (ls' := [_, _, _, _, _, _]) dX9_ruleAt_4 rfl (Nat.le_of_ble_eq_true rfl) rfl rfl ?_
  exact l_ruleAt rfl hM hs hs30 hP n 0 (by omega)

set_option maxRecDepth 20000 in
set_option maxHeartbeats 2000000 in
theorem l_ofHome {E : XE} {d0 d mc ms : Nat} {G : HP} {P : Ps} (hd : d = d0 + 1) {m : Nat} {aM own : Nat → Nat} {σ : MS} (hM : MH m aM own σ G) {np : Nat} (hp : σ.1 29 = nI np) (hp40 : np ≤ 40) {h day : Int32} (hP : P (.inl (some (.int (ofHomeF σ h day np)))) G) : ∀ j k, k + j = np → WX E d (yX9_ofHome, cX9_ofHome, (some .int), []) mc ms P 5 [some (.ref m), some (.int h), some (.int day), some (.int (ofHomeF σ h day k)), some (.int (nI k))] [] G 0 0
  | 0, k, hk => by
    subst hd
    obtain ⟨hm, hA, -⟩ := id hM
    refine wp_load (pc' := 7) (j := 4) dX9_ofHome_5 rfl rfl rfl ?_
    refine wp_load (pc' := 8) (j := 0) dX9_ofHome_7 rfl rfl rfl ?_
    refine wp_get (pc' := 11) dX9_ofHome_8 fl_X9_212 hm rfl rfl ?_
    refine wp_icmpT 60 dX9_ofHome_11 rfl (cgeT hp (by omega) (by omega)) ?_
    refine wp_load (pc' := 61) (j := 3) dX9_ofHome_60 rfl rfl rfl ?_
    refine wp_iret dX9_ofHome_61 rfl rfl ?_
    obtain rfl : k = np := by omega
    exact hP
  | j + 1, k, hk => by
    have ih := l_ofHome (E := E) (d := d) (mc := mc) (ms := ms) hd hM hp hp40 hP j (k + 1) (by omega)
    subst hd
    obtain ⟨hm, hA, -⟩ := id hM
    refine wp_load (pc' := 7) (j := 4) dX9_ofHome_5 rfl rfl rfl ?_
    refine wp_load (pc' := 8) (j := 0) dX9_ofHome_7 rfl rfl rfl ?_
    refine wp_get (pc' := 11) dX9_ofHome_8 fl_X9_212 hm rfl rfl ?_
    refine wp_icmpF (pc' := 14) 60 dX9_ofHome_11 rfl rfl (cgeF hp (by omega) (by omega)) ?_
    refine wp_load (pc' := 15) (j := 3) dX9_ofHome_14 rfl rfl rfl ?_
    refine wp_load (pc' := 16) (j := 0) dX9_ofHome_15 rfl rfl rfl ?_
    refine wp_get (pc' := 19) dX9_ofHome_16 fl_X9_80 hm rfl rfl ?_
    refine wp_load (pc' := 21) (j := 4) dX9_ofHome_19 rfl rfl rfl ?_
    refine wp_iald (pc' := 22) dX9_ofHome_21 (hA 32 (by decide)) rfl (show k < 40 from by omega) (by decide) rfl ?_
    refine wp_load (pc' := 23) (j := 1) dX9_ofHome_22 rfl rfl rfl ?_
    refine wp_icmp_ne (pc' := 26) 51 dX9_ofHome_23 rfl rfl (fun h23 => ?_) (fun h23 => ?_)
    · skip
      refine wp_iconst (pc' := 52) (0) dX9_ofHome_51 rfl rfl ?_
      refine wp_pure (pc' := 53) dX9_ofHome_52 rfl rfl ?_
      refine wp_store (pc' := 54) (j := 3) (ls' := [_, _, _, _, _]) dX9_ofHome_53 rfl (Nat.le_of_ble_eq_true rfl) rfl rfl ?_
      refine wp_iinc (pc' := 57) (j := 4) (ls' := [_, _, _, _, _]) (nI (k + 1)) dX9_ofHome_54 rfl (nI_1 k) rfl rfl ?_
      refine wp_goto 5 dX9_ofHome_57 rfl ?_
      simpa only [ofHomeF, h23, Bool.false_eq_true, decide_true, decide_false, Bool.not_true, Bool.not_false, Bool.and_true, Bool.true_and, Bool.and_false, Bool.false_and, Bool.or_true, Bool.true_or, Bool.or_false, Bool.false_or, if_true, if_false, ite_true, ite_false] using ih
    · skip
      refine wp_load (pc' := 27) (j := 2) dX9_ofHome_26 rfl rfl rfl ?_
      refine wp_load (pc' := 28) (j := 0) dX9_ofHome_27 rfl rfl rfl ?_
      refine wp_get (pc' := 31) dX9_ofHome_28 fl_X9_83 hm rfl rfl ?_
      refine wp_load (pc' := 33) (j := 4) dX9_ofHome_31 rfl rfl rfl ?_
      refine wp_iald (pc' := 34) dX9_ofHome_33 (hA 33 (by decide)) rfl (show k < 40 from by omega) (by decide) rfl ?_
      refine wp_load (pc' := 35) (j := 0) dX9_ofHome_34 rfl rfl rfl ?_
      refine wp_get (pc' := 38) dX9_ofHome_35 fl_X9_86 hm rfl rfl ?_
      refine wp_load (pc' := 40) (j := 4) dX9_ofHome_38 rfl rfl rfl ?_
      refine wp_iald (pc' := 41) dX9_ofHome_40 (hA 34 (by decide)) rfl (show k < 40 from by omega) (by decide) rfl ?_
      refine wp_s3 0 0 dX9_ofHome_41 ml_X9_153 (Nat.le_of_ble_eq_true rfl) (by omega) (by omega) ?_
      refine s_in _ _ _ ?_
      refine kt_v ?_
      refine wp_ifeqB (pc' := 47) 51 dX9_ofHome_44 rfl rfl (fun h44 => ?_) (fun h44 => ?_)
      · skip
        refine wp_iconst (pc' := 52) (0) dX9_ofHome_51 rfl rfl ?_
        refine wp_pure (pc' := 53) dX9_ofHome_52 rfl rfl ?_
        refine wp_store (pc' := 54) (j := 3) (ls' := [_, _, _, _, _]) dX9_ofHome_53 rfl (Nat.le_of_ble_eq_true rfl) rfl rfl ?_
        refine wp_iinc (pc' := 57) (j := 4) (ls' := [_, _, _, _, _]) (nI (k + 1)) dX9_ofHome_54 rfl (nI_1 k) rfl rfl ?_
        refine wp_goto 5 dX9_ofHome_57 rfl ?_
        simpa only [ofHomeF, h23, h44, Bool.false_eq_true, decide_true, decide_false, Bool.not_true, Bool.not_false, Bool.and_true, Bool.true_and, Bool.and_false, Bool.false_and, Bool.or_true, Bool.true_or, Bool.or_false, Bool.false_or, if_true, if_false, ite_true, ite_false] using ih
      · skip
        refine wp_iconst (pc' := 48) (1) dX9_ofHome_47 rfl rfl ?_
        refine wp_goto 52 dX9_ofHome_48 rfl ?_
        refine wp_pure (pc' := 53) dX9_ofHome_52 rfl rfl ?_
        refine wp_store (pc' := 54) (j := 3) (ls' := [_, _, _, _, _]) dX9_ofHome_53 rfl (Nat.le_of_ble_eq_true rfl) rfl rfl ?_
        refine wp_iinc (pc' := 57) (j := 4) (ls' := [_, _, _, _, _]) (nI (k + 1)) dX9_ofHome_54 rfl (nI_1 k) rfl rfl ?_
        refine wp_goto 5 dX9_ofHome_57 rfl ?_
        simpa only [ofHomeF, h23, h44, Bool.false_eq_true, decide_true, decide_false, Bool.not_true, Bool.not_false, Bool.and_true, Bool.true_and, Bool.and_false, Bool.false_and, Bool.or_true, Bool.true_or, Bool.or_false, Bool.false_or, if_true, if_false, ite_true, ite_false] using ih

set_option maxRecDepth 20000 in
set_option maxHeartbeats 2000000 in
theorem s_ofHome {E : XE} {d mc ms : Nat} {G : HP} {P : Ps} {m : Nat} {aM own : Nat → Nat} {σ : MS} (hM : MH m aM own σ G) {np : Nat} (hp : σ.1 29 = nI np) (hp40 : np ≤ 40) (h day : Int32) (hP : P (.inl (some (.int (ofHomeF σ h day np)))) G) : Sp E (d + 2) yX9_ofHome mc ms [.ref m, .int h, .int day] G P := by
  obtain ⟨hm, hA, -⟩ := id hM
  refine sp_intro bd_X9_ofHome (v1_all rfl) (Nat.le_of_ble_eq_true rfl) ?_
  change WX _ _ _ _ _ _ 0 [some (.ref m), some (.int h), some (.int day), none, none] [] _ 0 0
  refine wp_iconst (pc' := 1) (0) dX9_ofHome_0 rfl rfl ?_
  refine wp_store (pc' := 2) (j := 3) (ls' := [_, _, _, _, _]) dX9_ofHome_1 rfl (Nat.le_of_ble_eq_true rfl) rfl rfl ?_
  refine wp_iconst (pc' := 3) (0) dX9_ofHome_2 rfl rfl ?_
  refine wp_store (pc' := 5) (j := 4) (ls' := [_, _, _, _, _]) dX9_ofHome_3 rfl (Nat.le_of_ble_eq_true rfl) rfl rfl ?_
  exact l_ofHome rfl hM hp hp40 hP np 0 (by omega)

set_option maxRecDepth 20000 in
set_option maxHeartbeats 2000000 in
theorem l_hasRoom {E : XE} {d0 d mc ms : Nat} {G : HP} {P : Ps} (hd : d = d0 + 2) {m : Nat} {aM own : Nat → Nat} {σ : MS} (hM : MH m aM own σ G) {np : Nat} (hp : σ.1 29 = nI np) (hp40 : np ≤ 40) {h : Int32} {a b : Nat} (hab : a ≤ b) (hb : b ≤ 520) (hP : P (.inl (some (.int (b2i (roomF σ np h a (b + 1 - a)))))) G) : ∀ j k, a + k + j = b + 1 → WX E d (yX9_hasRoom, cX9_hasRoom, (some .boolean), []) mc ms P 6 [some (.ref m), some (.int h), some (.int (nI a)), some (.int (nI b)), some (.int (b2i (roomF σ np h a k))), some (.int (nI (a + k)))] [] G 0 0
  | 0, k, hk => by
    subst hd
    obtain ⟨hm, hA, -⟩ := id hM
    refine wp_load (pc' := 8) (j := 5) dX9_hasRoom_6 rfl rfl rfl ?_
    refine wp_load (pc' := 9) (j := 3) dX9_hasRoom_8 rfl rfl rfl ?_
    refine wp_icmpT 41 dX9_hasRoom_9 rfl (show nI b < nI (a + k) from nI_lt (by omega) (by omega)) ?_
    refine wp_load (pc' := 43) (j := 4) dX9_hasRoom_41 rfl rfl rfl ?_
    refine wp_iret dX9_hasRoom_43 rfl nar_b2i ?_
    obtain rfl : k = b + 1 - a := by omega
    exact hP
  | j + 1, k, hk => by
    have ih := l_hasRoom (E := E) (d := d) (mc := mc) (ms := ms) hd hM hp hp40 hab hb hP j (k + 1) (by omega)
    subst hd
    obtain ⟨hm, hA, -⟩ := id hM
    refine wp_load (pc' := 8) (j := 5) dX9_hasRoom_6 rfl rfl rfl ?_
    refine wp_load (pc' := 9) (j := 3) dX9_hasRoom_8 rfl rfl rfl ?_
    refine wp_icmpF (pc' := 12) 41 dX9_hasRoom_9 rfl rfl (show ¬ nI b < nI (a + k) from nI_nlt (by omega) (by omega)) ?_
    refine wp_load (pc' := 14) (j := 4) dX9_hasRoom_12 rfl rfl rfl ?_
    refine wp_ifeqB (pc' := 17) 41 dX9_hasRoom_14 rfl rfl (fun h14 => ?_) (fun h14 => ?_)
    · skip
      exact (by
        obtain ⟨q, hq⟩ : ∃ q, b + 1 - a = k + q := ⟨b + 1 - a - k, by omega⟩
        rw [hq, roomF_mono h14 q] at hP
        exact wp_load (pc' := 43) (j := 4) dX9_hasRoom_41 rfl rfl rfl (wp_iret dX9_hasRoom_43 rfl nar_b2i (by rw [h14]; exact hP)))
    · skip
      skip
      refine wp_load (pc' := 18) (j := 0) dX9_hasRoom_17 rfl rfl rfl ?_
      refine wp_load (pc' := 19) (j := 1) dX9_hasRoom_18 rfl rfl rfl ?_
      refine wp_load (pc' := 21) (j := 5) dX9_hasRoom_19 rfl rfl rfl ?_
      refine wp_v2 0 0 dX9_hasRoom_21 ml_X9_215 hm (Nat.le_of_ble_eq_true rfl) (by omega) (by omega) ?_
      refine s_ofHome hM hp hp40 _ _ ?_
      refine kt_v ?_
      refine wp_iconst (pc' := 25) (2) dX9_hasRoom_24 rfl rfl ?_
      refine wp_icmp_ge (pc' := 28) 32 dX9_hasRoom_25 rfl rfl (fun h25 => ?_) (fun h25 => ?_)
      · skip
        refine wp_iconst (pc' := 33) (0) dX9_hasRoom_32 rfl rfl ?_
        refine wp_store (pc' := 35) (j := 4) (ls' := [_, _, _, _, _, _]) dX9_hasRoom_33 rfl (Nat.le_of_ble_eq_true rfl) rfl rfl ?_
        refine wp_iinc (pc' := 38) (j := 5) (ls' := [_, _, _, _, _, _]) (nI (a + (k + 1))) dX9_hasRoom_35 rfl (nI_1 (a + k)) rfl rfl ?_
        refine wp_goto 6 dX9_hasRoom_38 rfl ?_
        simpa only [roomF, b2i_t, b2i_f, h14, h25, Bool.false_eq_true, decide_true, decide_false, Bool.not_true, Bool.not_false, Bool.and_true, Bool.true_and, Bool.and_false, Bool.false_and, Bool.or_true, Bool.true_or, Bool.or_false, Bool.false_or, if_true, if_false, ite_true, ite_false] using ih
      · skip
        refine wp_iconst (pc' := 29) (1) dX9_hasRoom_28 rfl rfl ?_
        refine wp_goto 33 dX9_hasRoom_29 rfl ?_
        refine wp_store (pc' := 35) (j := 4) (ls' := [_, _, _, _, _, _]) dX9_hasRoom_33 rfl (Nat.le_of_ble_eq_true rfl) rfl rfl ?_
        refine wp_iinc (pc' := 38) (j := 5) (ls' := [_, _, _, _, _, _]) (nI (a + (k + 1))) dX9_hasRoom_35 rfl (nI_1 (a + k)) rfl rfl ?_
        refine wp_goto 6 dX9_hasRoom_38 rfl ?_
        simpa only [roomF, b2i_t, b2i_f, h14, h25, Bool.false_eq_true, decide_true, decide_false, Bool.not_true, Bool.not_false, Bool.and_true, Bool.true_and, Bool.and_false, Bool.false_and, Bool.or_true, Bool.true_or, Bool.or_false, Bool.false_or, if_true, if_false, ite_true, ite_false] using ih

set_option maxRecDepth 20000 in
set_option maxHeartbeats 2000000 in
theorem s_hasRoom {E : XE} {d mc ms : Nat} {G : HP} {P : Ps} {m : Nat} {aM own : Nat → Nat} {σ : MS} (hM : MH m aM own σ G) {np : Nat} (hp : σ.1 29 = nI np) (hp40 : np ≤ 40) (h : Int32) {a b : Nat} (hab : a ≤ b) (hb : b ≤ 520) (hP : P (.inl (some (.int (b2i (roomF σ np h a (b + 1 - a)))))) G) : Sp E (d + 3) yX9_hasRoom mc ms [.ref m, .int h, .int (nI a), .int (nI b)] G P := by
  obtain ⟨hm, hA, -⟩ := id hM
  refine sp_intro bd_X9_hasRoom (v1_all rfl) (Nat.le_of_ble_eq_true rfl) ?_
  change WX _ _ _ _ _ _ 0 [some (.ref m), some (.int h), some (.int (nI a)), some (.int (nI b)), none, none] [] _ 0 0
  refine wp_iconst (pc' := 1) (1) dX9_hasRoom_0 rfl rfl ?_
  refine wp_store (pc' := 3) (j := 4) (ls' := [_, _, _, _, _, _]) dX9_hasRoom_1 rfl (Nat.le_of_ble_eq_true rfl) rfl rfl ?_
  refine wp_load (pc' := 4) (j := 2) dX9_hasRoom_3 rfl rfl rfl ?_
  refine wp_store (pc' := 6) (j := 5) (ls' := [_, _, _, _, _, _]) dX9_hasRoom_4 rfl (Nat.le_of_ble_eq_true rfl) rfl rfl ?_
  exact l_hasRoom rfl hM hp hp40 hab hb hP (b + 1 - a) 0 (by omega)

set_option maxRecDepth 20000 in
set_option maxHeartbeats 2000000 in
theorem l_userOn {E : XE} {d0 d mc ms : Nat} {G : HP} {P : Ps} (hd : d = d0 + 1) {m : Nat} {aM own : Nat → Nat} {σ : MS} (hM : MH m aM own σ G) {np : Nat} (hp : σ.1 29 = nI np) (hp40 : np ≤ 40) {i : Nat} (hi : i < 30) {s day : Int32} (hP : P (.inl (some (.int (userOnF σ i s day np)))) G) : ∀ j k, k + j = np → WX E d (yX9_userOn, cX9_userOn, (some .int), []) mc ms P 19 [some (.ref m), some (.int (nI i)), some (.int s), some (.int day), some (.int (b2i (userF σ i s day k))), some (.int (nI k))] [] G 0 0
  | 0, k, hk => by
    subst hd
    obtain ⟨hm, hA, -⟩ := id hM
    refine wp_load (pc' := 21) (j := 5) dX9_userOn_19 rfl rfl rfl ?_
    refine wp_load (pc' := 22) (j := 0) dX9_userOn_21 rfl rfl rfl ?_
    refine wp_get (pc' := 25) dX9_userOn_22 fl_X9_212 hm rfl rfl ?_
    refine wp_icmpT 89 dX9_userOn_25 rfl (cgeT hp (by omega) (by omega)) ?_
    refine wp_load (pc' := 91) (j := 4) dX9_userOn_89 rfl rfl rfl ?_
    refine wp_ifeqB (pc' := 94) 103 dX9_userOn_91 rfl rfl (fun h91 => ?_) (fun h91 => ?_)
    · skip
      refine wp_iconst (pc' := 104) (4) dX9_userOn_103 rfl rfl ?_
      refine wp_iret dX9_userOn_104 rfl rfl ?_
      obtain rfl : k = np := by omega
      simpa only [userOnF, h91, Bool.false_eq_true, decide_true, decide_false, Bool.not_true, Bool.not_false, Bool.and_true, Bool.true_and, Bool.and_false, Bool.false_and, Bool.or_true, Bool.true_or, Bool.or_false, Bool.false_or, if_true, if_false, ite_true, ite_false] using hP
    · skip
      refine wp_load (pc' := 95) (j := 0) dX9_userOn_94 rfl rfl rfl ?_
      refine wp_get (pc' := 98) dX9_userOn_95 fl_X9_59 hm rfl rfl ?_
      refine wp_load (pc' := 99) (j := 1) dX9_userOn_98 rfl rfl rfl ?_
      refine wp_iald (pc' := 100) dX9_userOn_99 (hA 24 (by decide)) rfl hi (by decide) rfl ?_
      refine wp_goto 104 dX9_userOn_100 rfl ?_
      refine wp_iret dX9_userOn_104 rfl rfl ?_
      obtain rfl : k = np := by omega
      simpa only [userOnF, h91, Bool.false_eq_true, decide_true, decide_false, Bool.not_true, Bool.not_false, Bool.and_true, Bool.true_and, Bool.and_false, Bool.false_and, Bool.or_true, Bool.true_or, Bool.or_false, Bool.false_or, if_true, if_false, ite_true, ite_false] using hP
  | j + 1, k, hk => by
    have ih := l_userOn (E := E) (d := d) (mc := mc) (ms := ms) hd hM hp hp40 hi hP j (k + 1) (by omega)
    subst hd
    obtain ⟨hm, hA, -⟩ := id hM
    refine wp_load (pc' := 21) (j := 5) dX9_userOn_19 rfl rfl rfl ?_
    refine wp_load (pc' := 22) (j := 0) dX9_userOn_21 rfl rfl rfl ?_
    refine wp_get (pc' := 25) dX9_userOn_22 fl_X9_212 hm rfl rfl ?_
    refine wp_icmpF (pc' := 28) 89 dX9_userOn_25 rfl rfl (cgeF hp (by omega) (by omega)) ?_
    refine wp_load (pc' := 30) (j := 4) dX9_userOn_28 rfl rfl rfl ?_
    refine wp_ifneB (pc' := 33) 76 dX9_userOn_30 rfl rfl (fun h30 => ?_) (fun h30 => ?_)
    · skip
      refine wp_iconst (pc' := 77) (1) dX9_userOn_76 rfl rfl ?_
      refine wp_goto 81 dX9_userOn_77 rfl ?_
      refine wp_store (pc' := 83) (j := 4) (ls' := [_, _, _, _, _, _]) dX9_userOn_81 rfl (Nat.le_of_ble_eq_true rfl) rfl rfl ?_
      refine wp_iinc (pc' := 86) (j := 5) (ls' := [_, _, _, _, _, _]) (nI (k + 1)) dX9_userOn_83 rfl (nI_1 k) rfl rfl ?_
      refine wp_goto 19 dX9_userOn_86 rfl ?_
      simpa only [userF, b2i_t, b2i_f, h30, Bool.false_eq_true, decide_true, decide_false, Bool.not_true, Bool.not_false, Bool.and_true, Bool.true_and, Bool.and_false, Bool.false_and, Bool.or_true, Bool.true_or, Bool.or_false, Bool.false_or, if_true, if_false, ite_true, ite_false] using ih
    · skip
      refine wp_load (pc' := 34) (j := 0) dX9_userOn_33 rfl rfl rfl ?_
      refine wp_get (pc' := 37) dX9_userOn_34 fl_X9_74 hm rfl rfl ?_
      refine wp_load (pc' := 39) (j := 5) dX9_userOn_37 rfl rfl rfl ?_
      refine wp_iald (pc' := 40) dX9_userOn_39 (hA 30 (by decide)) rfl (show k < 40 from by omega) (by decide) rfl ?_
      refine wp_load (pc' := 41) (j := 1) dX9_userOn_40 rfl rfl rfl ?_
      refine wp_icmp_ne (pc' := 44) 80 dX9_userOn_41 rfl rfl (fun h41 => ?_) (fun h41 => ?_)
      · skip
        refine wp_iconst (pc' := 81) (0) dX9_userOn_80 rfl rfl ?_
        refine wp_store (pc' := 83) (j := 4) (ls' := [_, _, _, _, _, _]) dX9_userOn_81 rfl (Nat.le_of_ble_eq_true rfl) rfl rfl ?_
        refine wp_iinc (pc' := 86) (j := 5) (ls' := [_, _, _, _, _, _]) (nI (k + 1)) dX9_userOn_83 rfl (nI_1 k) rfl rfl ?_
        refine wp_goto 19 dX9_userOn_86 rfl ?_
        simpa only [userF, b2i_t, b2i_f, h30, h41, Bool.false_eq_true, decide_true, decide_false, Bool.not_true, Bool.not_false, Bool.and_true, Bool.true_and, Bool.and_false, Bool.false_and, Bool.or_true, Bool.true_or, Bool.or_false, Bool.false_or, if_true, if_false, ite_true, ite_false] using ih
      · skip
        refine wp_load (pc' := 45) (j := 0) dX9_userOn_44 rfl rfl rfl ?_
        refine wp_get (pc' := 48) dX9_userOn_45 fl_X9_77 hm rfl rfl ?_
        refine wp_load (pc' := 50) (j := 5) dX9_userOn_48 rfl rfl rfl ?_
        refine wp_iald (pc' := 51) dX9_userOn_50 (hA 31 (by decide)) rfl (show k < 40 from by omega) (by decide) rfl ?_
        refine wp_load (pc' := 52) (j := 2) dX9_userOn_51 rfl rfl rfl ?_
        refine wp_icmp_ne (pc' := 55) 80 dX9_userOn_52 rfl rfl (fun h52 => ?_) (fun h52 => ?_)
        · skip
          refine wp_iconst (pc' := 81) (0) dX9_userOn_80 rfl rfl ?_
          refine wp_store (pc' := 83) (j := 4) (ls' := [_, _, _, _, _, _]) dX9_userOn_81 rfl (Nat.le_of_ble_eq_true rfl) rfl rfl ?_
          refine wp_iinc (pc' := 86) (j := 5) (ls' := [_, _, _, _, _, _]) (nI (k + 1)) dX9_userOn_83 rfl (nI_1 k) rfl rfl ?_
          refine wp_goto 19 dX9_userOn_86 rfl ?_
          simpa only [userF, b2i_t, b2i_f, h30, h41, h52, Bool.false_eq_true, decide_true, decide_false, Bool.not_true, Bool.not_false, Bool.and_true, Bool.true_and, Bool.and_false, Bool.false_and, Bool.or_true, Bool.true_or, Bool.or_false, Bool.false_or, if_true, if_false, ite_true, ite_false] using ih
        · skip
          refine wp_load (pc' := 56) (j := 3) dX9_userOn_55 rfl rfl rfl ?_
          refine wp_load (pc' := 57) (j := 0) dX9_userOn_56 rfl rfl rfl ?_
          refine wp_get (pc' := 60) dX9_userOn_57 fl_X9_83 hm rfl rfl ?_
          refine wp_load (pc' := 62) (j := 5) dX9_userOn_60 rfl rfl rfl ?_
          refine wp_iald (pc' := 63) dX9_userOn_62 (hA 33 (by decide)) rfl (show k < 40 from by omega) (by decide) rfl ?_
          refine wp_load (pc' := 64) (j := 0) dX9_userOn_63 rfl rfl rfl ?_
          refine wp_get (pc' := 67) dX9_userOn_64 fl_X9_86 hm rfl rfl ?_
          refine wp_load (pc' := 69) (j := 5) dX9_userOn_67 rfl rfl rfl ?_
          refine wp_iald (pc' := 70) dX9_userOn_69 (hA 34 (by decide)) rfl (show k < 40 from by omega) (by decide) rfl ?_
          refine wp_s3 0 0 dX9_userOn_70 ml_X9_153 (Nat.le_of_ble_eq_true rfl) (by omega) (by omega) ?_
          refine s_in _ _ _ ?_
          refine kt_v ?_
          refine wp_ifeqB (pc' := 76) 80 dX9_userOn_73 rfl rfl (fun h73 => ?_) (fun h73 => ?_)
          · skip
            refine wp_iconst (pc' := 81) (0) dX9_userOn_80 rfl rfl ?_
            refine wp_store (pc' := 83) (j := 4) (ls' := [_, _, _, _, _, _]) dX9_userOn_81 rfl (Nat.le_of_ble_eq_true rfl) rfl rfl ?_
            refine wp_iinc (pc' := 86) (j := 5) (ls' := [_, _, _, _, _, _]) (nI (k + 1)) dX9_userOn_83 rfl (nI_1 k) rfl rfl ?_
            refine wp_goto 19 dX9_userOn_86 rfl ?_
            simpa only [userF, b2i_t, b2i_f, h30, h41, h52, h73, Bool.false_eq_true, decide_true, decide_false, Bool.not_true, Bool.not_false, Bool.and_true, Bool.true_and, Bool.and_false, Bool.false_and, Bool.or_true, Bool.true_or, Bool.or_false, Bool.false_or, if_true, if_false, ite_true, ite_false] using ih
          · skip
            refine wp_iconst (pc' := 77) (1) dX9_userOn_76 rfl rfl ?_
            refine wp_goto 81 dX9_userOn_77 rfl ?_
            refine wp_store (pc' := 83) (j := 4) (ls' := [_, _, _, _, _, _]) dX9_userOn_81 rfl (Nat.le_of_ble_eq_true rfl) rfl rfl ?_
            refine wp_iinc (pc' := 86) (j := 5) (ls' := [_, _, _, _, _, _]) (nI (k + 1)) dX9_userOn_83 rfl (nI_1 k) rfl rfl ?_
            refine wp_goto 19 dX9_userOn_86 rfl ?_
            simpa only [userF, b2i_t, b2i_f, h30, h41, h52, h73, Bool.false_eq_true, decide_true, decide_false, Bool.not_true, Bool.not_false, Bool.and_true, Bool.true_and, Bool.and_false, Bool.false_and, Bool.or_true, Bool.true_or, Bool.or_false, Bool.false_or, if_true, if_false, ite_true, ite_false] using ih

set_option maxRecDepth 20000 in
set_option maxHeartbeats 2000000 in
theorem s_userOn {E : XE} {d mc ms : Nat} {G : HP} {P : Ps} {m : Nat} {aM own : Nat → Nat} {σ : MS} (hM : MH m aM own σ G) {np : Nat} (hp : σ.1 29 = nI np) (hp40 : np ≤ 40) {i : Nat} (hi : i < 30) (s day : Int32) (hP : P (.inl (some (.int (userOnF σ i s day np)))) G) : Sp E (d + 2) yX9_userOn mc ms [.ref m, .int (nI i), .int s, .int day] G P := by
  obtain ⟨hm, hA, -⟩ := id hM
  refine sp_intro bd_X9_userOn (v1_all rfl) (Nat.le_of_ble_eq_true rfl) ?_
  change WX _ _ _ _ _ _ 0 [some (.ref m), some (.int (nI i)), some (.int s), some (.int day), none, none] [] _ 0 0
  refine wp_load (pc' := 1) (j := 0) dX9_userOn_0 rfl rfl rfl ?_
  refine wp_get (pc' := 4) dX9_userOn_1 fl_X9_59 hm rfl rfl ?_
  refine wp_load (pc' := 5) (j := 1) dX9_userOn_4 rfl rfl rfl ?_
  refine wp_iald (pc' := 6) dX9_userOn_5 (hA 24 (by decide)) rfl hi (by decide) rfl ?_
  refine wp_if_eq (pc' := 9) 13 dX9_userOn_6 rfl rfl (fun h6 => ?_) (fun h6 => ?_)
  · skip
    refine wp_iconst (pc' := 14) (0) dX9_userOn_13 rfl rfl ?_
    refine wp_store (pc' := 16) (j := 4) (ls' := [_, _, _, _, _, _]) dX9_userOn_14 rfl (Nat.le_of_ble_eq_true rfl) rfl rfl ?_
    refine wp_iconst (pc' := 17) (0) dX9_userOn_16 rfl rfl ?_
    refine wp_store (pc' := 19) (j := 5) (ls' := [_, _, _, _, _, _]) dX9_userOn_17 rfl (Nat.le_of_ble_eq_true rfl) rfl rfl ?_
    have hl := l_userOn (E := E) (d := d + 1) (mc := mc) (ms := ms) rfl hM hp hp40 hi hP np 0 (by omega)
    simpa only [userF, b2i_t, b2i_f, nI_0, h6, Bool.false_eq_true, decide_true, decide_false, Bool.not_true, Bool.not_false, Bool.and_true, Bool.true_and, Bool.and_false, Bool.false_and, Bool.or_true, Bool.true_or, Bool.or_false, Bool.false_or, if_true, if_false, ite_true, ite_false] using hl
  · skip
    refine wp_iconst (pc' := 10) (1) dX9_userOn_9 rfl rfl ?_
    refine wp_goto 14 dX9_userOn_10 rfl ?_
    refine wp_store (pc' := 16) (j := 4) (ls' := [_, _, _, _, _, _]) dX9_userOn_14 rfl (Nat.le_of_ble_eq_true rfl) rfl rfl ?_
    refine wp_iconst (pc' := 17) (0) dX9_userOn_16 rfl rfl ?_
    refine wp_store (pc' := 19) (j := 5) (ls' := [_, _, _, _, _, _]) dX9_userOn_17 rfl (Nat.le_of_ble_eq_true rfl) rfl rfl ?_
    have hl := l_userOn (E := E) (d := d + 1) (mc := mc) (ms := ms) rfl hM hp hp40 hi hP np 0 (by omega)
    simpa only [userF, b2i_t, b2i_f, nI_0, h6, Bool.false_eq_true, decide_true, decide_false, Bool.not_true, Bool.not_false, Bool.and_true, Bool.true_and, Bool.and_false, Bool.false_and, Bool.or_true, Bool.true_or, Bool.or_false, Bool.false_or, if_true, if_false, ite_true, ite_false] using hl

set_option maxRecDepth 20000 in
set_option maxHeartbeats 2000000 in
theorem l_isGap {E : XE} {d mc ms : Nat} {G : HP} {P : Ps} {m : Nat} {aM own : Nat → Nat} {σ : MS} (hM : MH m aM own σ G) {nc : Nat} (hc : σ.1 22 = nI nc) (hc30 : nc ≤ 30) {s mt mn : Int32} (hP : P (.inl (some (.int (b2i (gapB σ s mt mn nc))))) G) : ∀ j k, k + j = nc → ∀ z6 : Option Value, WX E d (yX9_isGap, cX9_isGap, (some .boolean), []) mc ms P 18 [some (.ref m), some (.int s), some (.int mt), some (.int mn), some (.int (b2i (gapB σ s mt mn k))), some (.int (nI k)), z6] [] G 0 0
  | 0, k, hk, z6 => by
    obtain ⟨hm, hA, -⟩ := id hM
    refine wp_load (pc' := 20) (j := 5) dX9_isGap_18 rfl rfl rfl ?_
    refine wp_load (pc' := 21) (j := 0) dX9_isGap_20 rfl rfl rfl ?_
    refine wp_get (pc' := 24) dX9_isGap_21 fl_X9_157 hm rfl rfl ?_
    refine wp_icmpT 100 dX9_isGap_24 rfl (cgeT hc (by omega) (by omega)) ?_
    refine wp_load (pc' := 102) (j := 4) dX9_isGap_100 rfl rfl rfl ?_
    refine wp_iret dX9_isGap_102 rfl nar_b2i ?_
    obtain rfl : k = nc := by omega
    exact hP
  | j + 1, k, hk, z6 => by
    have ih := l_isGap (E := E) (d := d) (mc := mc) (ms := ms) hM hc hc30 hP j (k + 1) (by omega)
    obtain ⟨hm, hA, -⟩ := id hM
    refine wp_load (pc' := 20) (j := 5) dX9_isGap_18 rfl rfl rfl ?_
    refine wp_load (pc' := 21) (j := 0) dX9_isGap_20 rfl rfl rfl ?_
    refine wp_get (pc' := 24) dX9_isGap_21 fl_X9_157 hm rfl rfl ?_
    refine wp_icmpF (pc' := 27) 100 dX9_isGap_24 rfl rfl (cgeF hc (by omega) (by omega)) ?_
    refine wp_load (pc' := 28) (j := 0) dX9_isGap_27 rfl rfl rfl ?_
    refine wp_get (pc' := 31) dX9_isGap_28 fl_X9_62 hm rfl rfl ?_
    refine wp_load (pc' := 33) (j := 5) dX9_isGap_31 rfl rfl rfl ?_
    refine wp_iald (pc' := 34) dX9_isGap_33 (hA 25 (by decide)) rfl (show k < 30 from by omega) (by decide) rfl ?_
    refine wp_load (pc' := 35) (j := 1) dX9_isGap_34 rfl rfl rfl ?_
    refine wp_icmp_ne (pc' := 38) 70 dX9_isGap_35 rfl rfl (fun h35 => ?_) (fun h35 => ?_)
    · skip
      refine wp_iconst (pc' := 71) (1) dX9_isGap_70 rfl rfl ?_
      refine wp_goto 75 dX9_isGap_71 rfl ?_
      refine wp_store (pc' := 77) (j := 6) (ls' := [_, _, _, _, _, _, _]) dX9_isGap_75 rfl (Nat.le_of_ble_eq_true rfl) rfl rfl ?_
      refine wp_load (pc' := 79) (j := 4) dX9_isGap_77 rfl rfl rfl ?_
      refine wp_ifeqB (pc' := 82) 91 dX9_isGap_79 rfl rfl (fun h79 => ?_) (fun h79 => ?_)
      · skip
        refine wp_iconst (pc' := 92) (0) dX9_isGap_91 rfl rfl ?_
        refine wp_store (pc' := 94) (j := 4) (ls' := [_, _, _, _, _, _, _]) dX9_isGap_92 rfl (Nat.le_of_ble_eq_true rfl) rfl rfl ?_
        refine wp_iinc (pc' := 97) (j := 5) (ls' := [_, _, _, _, _, _, _]) (nI (k + 1)) dX9_isGap_94 rfl (nI_1 k) rfl rfl ?_
        refine wp_goto 18 dX9_isGap_97 rfl ?_
        simpa only [gapB, awayB, b2i_t, b2i_f, h35, h79, Bool.false_eq_true, decide_true, decide_false, Bool.not_true, Bool.not_false, Bool.and_true, Bool.true_and, Bool.and_false, Bool.false_and, Bool.or_true, Bool.true_or, Bool.or_false, Bool.false_or, if_true, if_false, ite_true, ite_false] using ih _
      · skip
        refine wp_load (pc' := 84) (j := 6) dX9_isGap_82 rfl rfl rfl ?_
        refine wp_ifF (pc' := 87) 91 dX9_isGap_84 rfl rfl (cmpF rfl) ?_
        refine wp_iconst (pc' := 88) (1) dX9_isGap_87 rfl rfl ?_
        refine wp_goto 92 dX9_isGap_88 rfl ?_
        refine wp_store (pc' := 94) (j := 4) (ls' := [_, _, _, _, _, _, _]) dX9_isGap_92 rfl (Nat.le_of_ble_eq_true rfl) rfl rfl ?_
        refine wp_iinc (pc' := 97) (j := 5) (ls' := [_, _, _, _, _, _, _]) (nI (k + 1)) dX9_isGap_94 rfl (nI_1 k) rfl rfl ?_
        refine wp_goto 18 dX9_isGap_97 rfl ?_
        simpa only [gapB, awayB, b2i_t, b2i_f, h35, h79, Bool.false_eq_true, decide_true, decide_false, Bool.not_true, Bool.not_false, Bool.and_true, Bool.true_and, Bool.and_false, Bool.false_and, Bool.or_true, Bool.true_or, Bool.or_false, Bool.false_or, if_true, if_false, ite_true, ite_false] using ih _
    · skip
      refine wp_load (pc' := 39) (j := 0) dX9_isGap_38 rfl rfl rfl ?_
      refine wp_get (pc' := 42) dX9_isGap_39 fl_X9_65 hm rfl rfl ?_
      refine wp_load (pc' := 44) (j := 5) dX9_isGap_42 rfl rfl rfl ?_
      refine wp_iald (pc' := 45) dX9_isGap_44 (hA 26 (by decide)) rfl (show k < 30 from by omega) (by decide) rfl ?_
      refine wp_load (pc' := 46) (j := 2) dX9_isGap_45 rfl rfl rfl ?_
      refine wp_load (pc' := 47) (j := 3) dX9_isGap_46 rfl rfl rfl ?_
      refine wp_pure (pc' := 48) dX9_isGap_47 rfl rfl ?_
      refine wp_icmp_gt (pc' := 51) 70 dX9_isGap_48 rfl rfl (fun h48 => ?_) (fun h48 => ?_)
      · skip
        refine wp_iconst (pc' := 71) (1) dX9_isGap_70 rfl rfl ?_
        refine wp_goto 75 dX9_isGap_71 rfl ?_
        refine wp_store (pc' := 77) (j := 6) (ls' := [_, _, _, _, _, _, _]) dX9_isGap_75 rfl (Nat.le_of_ble_eq_true rfl) rfl rfl ?_
        refine wp_load (pc' := 79) (j := 4) dX9_isGap_77 rfl rfl rfl ?_
        refine wp_ifeqB (pc' := 82) 91 dX9_isGap_79 rfl rfl (fun h79 => ?_) (fun h79 => ?_)
        · skip
          refine wp_iconst (pc' := 92) (0) dX9_isGap_91 rfl rfl ?_
          refine wp_store (pc' := 94) (j := 4) (ls' := [_, _, _, _, _, _, _]) dX9_isGap_92 rfl (Nat.le_of_ble_eq_true rfl) rfl rfl ?_
          refine wp_iinc (pc' := 97) (j := 5) (ls' := [_, _, _, _, _, _, _]) (nI (k + 1)) dX9_isGap_94 rfl (nI_1 k) rfl rfl ?_
          refine wp_goto 18 dX9_isGap_97 rfl ?_
          simpa only [gapB, awayB, b2i_t, b2i_f, h35, h48, h79, Bool.false_eq_true, decide_true, decide_false, Bool.not_true, Bool.not_false, Bool.and_true, Bool.true_and, Bool.and_false, Bool.false_and, Bool.or_true, Bool.true_or, Bool.or_false, Bool.false_or, if_true, if_false, ite_true, ite_false] using ih _
        · skip
          refine wp_load (pc' := 84) (j := 6) dX9_isGap_82 rfl rfl rfl ?_
          refine wp_ifF (pc' := 87) 91 dX9_isGap_84 rfl rfl (cmpF rfl) ?_
          refine wp_iconst (pc' := 88) (1) dX9_isGap_87 rfl rfl ?_
          refine wp_goto 92 dX9_isGap_88 rfl ?_
          refine wp_store (pc' := 94) (j := 4) (ls' := [_, _, _, _, _, _, _]) dX9_isGap_92 rfl (Nat.le_of_ble_eq_true rfl) rfl rfl ?_
          refine wp_iinc (pc' := 97) (j := 5) (ls' := [_, _, _, _, _, _, _]) (nI (k + 1)) dX9_isGap_94 rfl (nI_1 k) rfl rfl ?_
          refine wp_goto 18 dX9_isGap_97 rfl ?_
          simpa only [gapB, awayB, b2i_t, b2i_f, h35, h48, h79, Bool.false_eq_true, decide_true, decide_false, Bool.not_true, Bool.not_false, Bool.and_true, Bool.true_and, Bool.and_false, Bool.false_and, Bool.or_true, Bool.true_or, Bool.or_false, Bool.false_or, if_true, if_false, ite_true, ite_false] using ih _
      · skip
        refine wp_load (pc' := 52) (j := 0) dX9_isGap_51 rfl rfl rfl ?_
        refine wp_get (pc' := 55) dX9_isGap_52 fl_X9_65 hm rfl rfl ?_
        refine wp_load (pc' := 57) (j := 5) dX9_isGap_55 rfl rfl rfl ?_
        refine wp_iald (pc' := 58) dX9_isGap_57 (hA 26 (by decide)) rfl (show k < 30 from by omega) (by decide) rfl ?_
        refine wp_load (pc' := 59) (j := 0) dX9_isGap_58 rfl rfl rfl ?_
        refine wp_get (pc' := 62) dX9_isGap_59 fl_X9_56 hm rfl rfl ?_
        refine wp_load (pc' := 64) (j := 5) dX9_isGap_62 rfl rfl rfl ?_
        refine wp_iald (pc' := 65) dX9_isGap_64 (hA 23 (by decide)) rfl (show k < 30 from by omega) (by decide) rfl ?_
        refine wp_pure (pc' := 66) dX9_isGap_65 rfl rfl ?_
        refine wp_load (pc' := 67) (j := 2) dX9_isGap_66 rfl rfl rfl ?_
        refine wp_icmp_ge (pc' := 70) 74 dX9_isGap_67 rfl rfl (fun h67 => ?_) (fun h67 => ?_)
        · skip
          refine wp_iconst (pc' := 75) (0) dX9_isGap_74 rfl rfl ?_
          refine wp_store (pc' := 77) (j := 6) (ls' := [_, _, _, _, _, _, _]) dX9_isGap_75 rfl (Nat.le_of_ble_eq_true rfl) rfl rfl ?_
          refine wp_load (pc' := 79) (j := 4) dX9_isGap_77 rfl rfl rfl ?_
          refine wp_ifeqB (pc' := 82) 91 dX9_isGap_79 rfl rfl (fun h79 => ?_) (fun h79 => ?_)
          · skip
            refine wp_iconst (pc' := 92) (0) dX9_isGap_91 rfl rfl ?_
            refine wp_store (pc' := 94) (j := 4) (ls' := [_, _, _, _, _, _, _]) dX9_isGap_92 rfl (Nat.le_of_ble_eq_true rfl) rfl rfl ?_
            refine wp_iinc (pc' := 97) (j := 5) (ls' := [_, _, _, _, _, _, _]) (nI (k + 1)) dX9_isGap_94 rfl (nI_1 k) rfl rfl ?_
            refine wp_goto 18 dX9_isGap_97 rfl ?_
            simpa only [gapB, awayB, b2i_t, b2i_f, h35, h48, h67, h79, Bool.false_eq_true, decide_true, decide_false, Bool.not_true, Bool.not_false, Bool.and_true, Bool.true_and, Bool.and_false, Bool.false_and, Bool.or_true, Bool.true_or, Bool.or_false, Bool.false_or, if_true, if_false, ite_true, ite_false] using ih _
          · skip
            refine wp_load (pc' := 84) (j := 6) dX9_isGap_82 rfl rfl rfl ?_
            refine wp_ifT 91 dX9_isGap_84 rfl (cmpT rfl) ?_
            refine wp_iconst (pc' := 92) (0) dX9_isGap_91 rfl rfl ?_
            refine wp_store (pc' := 94) (j := 4) (ls' := [_, _, _, _, _, _, _]) dX9_isGap_92 rfl (Nat.le_of_ble_eq_true rfl) rfl rfl ?_
            refine wp_iinc (pc' := 97) (j := 5) (ls' := [_, _, _, _, _, _, _]) (nI (k + 1)) dX9_isGap_94 rfl (nI_1 k) rfl rfl ?_
            refine wp_goto 18 dX9_isGap_97 rfl ?_
            simpa only [gapB, awayB, b2i_t, b2i_f, h35, h48, h67, h79, Bool.false_eq_true, decide_true, decide_false, Bool.not_true, Bool.not_false, Bool.and_true, Bool.true_and, Bool.and_false, Bool.false_and, Bool.or_true, Bool.true_or, Bool.or_false, Bool.false_or, if_true, if_false, ite_true, ite_false] using ih _
        · skip
          refine wp_iconst (pc' := 71) (1) dX9_isGap_70 rfl rfl ?_
          refine wp_goto 75 dX9_isGap_71 rfl ?_
          refine wp_store (pc' := 77) (j := 6) (ls' := [_, _, _, _, _, _, _]) dX9_isGap_75 rfl (Nat.le_of_ble_eq_true rfl) rfl rfl ?_
          refine wp_load (pc' := 79) (j := 4) dX9_isGap_77 rfl rfl rfl ?_
          refine wp_ifeqB (pc' := 82) 91 dX9_isGap_79 rfl rfl (fun h79 => ?_) (fun h79 => ?_)
          · skip
            refine wp_iconst (pc' := 92) (0) dX9_isGap_91 rfl rfl ?_
            refine wp_store (pc' := 94) (j := 4) (ls' := [_, _, _, _, _, _, _]) dX9_isGap_92 rfl (Nat.le_of_ble_eq_true rfl) rfl rfl ?_
            refine wp_iinc (pc' := 97) (j := 5) (ls' := [_, _, _, _, _, _, _]) (nI (k + 1)) dX9_isGap_94 rfl (nI_1 k) rfl rfl ?_
            refine wp_goto 18 dX9_isGap_97 rfl ?_
            simpa only [gapB, awayB, b2i_t, b2i_f, h35, h48, h67, h79, Bool.false_eq_true, decide_true, decide_false, Bool.not_true, Bool.not_false, Bool.and_true, Bool.true_and, Bool.and_false, Bool.false_and, Bool.or_true, Bool.true_or, Bool.or_false, Bool.false_or, if_true, if_false, ite_true, ite_false] using ih _
          · skip
            refine wp_load (pc' := 84) (j := 6) dX9_isGap_82 rfl rfl rfl ?_
            refine wp_ifF (pc' := 87) 91 dX9_isGap_84 rfl rfl (cmpF rfl) ?_
            refine wp_iconst (pc' := 88) (1) dX9_isGap_87 rfl rfl ?_
            refine wp_goto 92 dX9_isGap_88 rfl ?_
            refine wp_store (pc' := 94) (j := 4) (ls' := [_, _, _, _, _, _, _]) dX9_isGap_92 rfl (Nat.le_of_ble_eq_true rfl) rfl rfl ?_
            refine wp_iinc (pc' := 97) (j := 5) (ls' := [_, _, _, _, _, _, _]) (nI (k + 1)) dX9_isGap_94 rfl (nI_1 k) rfl rfl ?_
            refine wp_goto 18 dX9_isGap_97 rfl ?_
            simpa only [gapB, awayB, b2i_t, b2i_f, h35, h48, h67, h79, Bool.false_eq_true, decide_true, decide_false, Bool.not_true, Bool.not_false, Bool.and_true, Bool.true_and, Bool.and_false, Bool.false_and, Bool.or_true, Bool.true_or, Bool.or_false, Bool.false_or, if_true, if_false, ite_true, ite_false] using ih _

set_option maxRecDepth 20000 in
set_option maxHeartbeats 2000000 in
theorem s_isGap {E : XE} {d mc ms : Nat} {G : HP} {P : Ps} {m : Nat} {aM own : Nat → Nat} {σ : MS} (hM : MH m aM own σ G) {nc : Nat} (hc : σ.1 22 = nI nc) (hc30 : nc ≤ 30) (s mt mn : Int32) (hP : P (.inl (some (.int (b2i (gapB σ s mt mn nc))))) G) : Sp E (d + 1) yX9_isGap mc ms [.ref m, .int s, .int mt, .int mn] G P := by
  obtain ⟨hm, hA, -⟩ := id hM
  refine sp_intro bd_X9_isGap (v1_all rfl) (Nat.le_of_ble_eq_true rfl) ?_
  change WX _ _ _ _ _ _ 0 [some (.ref m), some (.int s), some (.int mt), some (.int mn), none, none, none] [] _ 0 0
  refine wp_load (pc' := 1) (j := 2) dX9_isGap_0 rfl rfl rfl ?_
  refine wp_load (pc' := 2) (j := 3) dX9_isGap_1 rfl rfl rfl ?_
  refine wp_pure (pc' := 3) dX9_isGap_2 rfl rfl ?_
  refine wp_bipush (pc' := 5) (60) dX9_isGap_3 rfl rfl ?_
  refine wp_icmp_gt (pc' := 8) 12 dX9_isGap_5 rfl rfl (fun h5 => ?_) (fun h5 => ?_)
  · skip
    refine wp_iconst (pc' := 13) (0) dX9_isGap_12 rfl rfl ?_
    refine wp_store (pc' := 15) (j := 4) (ls' := [_, _, _, _, _, _, _]) dX9_isGap_13 rfl (Nat.le_of_ble_eq_true rfl) rfl rfl ?_
    refine wp_iconst (pc' := 16) (0) dX9_isGap_15 rfl rfl ?_
    refine wp_store (pc' := 18) (j := 5) (ls' := [_, _, _, _, _, _, _]) dX9_isGap_16 rfl (Nat.le_of_ble_eq_true rfl) rfl rfl ?_
    have hl := l_isGap (E := E) (d := d) (mc := mc) (ms := ms) hM hc hc30 hP nc 0 (by omega) none
    simpa only [gapB, b2i_t, b2i_f, nI_0, h5, Bool.false_eq_true, decide_true, decide_false, Bool.not_true, Bool.not_false, Bool.and_true, Bool.true_and, Bool.and_false, Bool.false_and, Bool.or_true, Bool.true_or, Bool.or_false, Bool.false_or, if_true, if_false, ite_true, ite_false] using hl
  · skip
    refine wp_iconst (pc' := 9) (1) dX9_isGap_8 rfl rfl ?_
    refine wp_goto 13 dX9_isGap_9 rfl ?_
    refine wp_store (pc' := 15) (j := 4) (ls' := [_, _, _, _, _, _, _]) dX9_isGap_13 rfl (Nat.le_of_ble_eq_true rfl) rfl rfl ?_
    refine wp_iconst (pc' := 16) (0) dX9_isGap_15 rfl rfl ?_
    refine wp_store (pc' := 18) (j := 5) (ls' := [_, _, _, _, _, _, _]) dX9_isGap_16 rfl (Nat.le_of_ble_eq_true rfl) rfl rfl ?_
    have hl := l_isGap (E := E) (d := d) (mc := mc) (ms := ms) hM hc hc30 hP nc 0 (by omega) none
    simpa only [gapB, b2i_t, b2i_f, nI_0, h5, Bool.false_eq_true, decide_true, decide_false, Bool.not_true, Bool.not_false, Bool.and_true, Bool.true_and, Bool.and_false, Bool.false_and, Bool.or_true, Bool.true_or, Bool.or_false, Bool.false_or, if_true, if_false, ite_true, ite_false] using hl

set_option maxRecDepth 20000 in
set_option maxHeartbeats 2000000 in
theorem l_isCovered {E : XE} {d mc ms : Nat} {G : HP} {P : Ps} {m : Nat} {aM own : Nat → Nat} {σ : MS} (hM : MH m aM own σ G) {ny : Nat} (hy : σ.1 35 = nI ny) (hy200 : ny ≤ 200) {i : Nat} {s q : Int32} (hP : P (.inl (some (.int (b2i (covF σ i s q ny))))) G) : ∀ j k, k + j = ny → WX E d (yX9_isCovered, cX9_isCovered, (some .boolean), []) mc ms P 6 [some (.ref m), some (.int (nI i)), some (.int s), some (.int q), some (.int (b2i (covF σ i s q k))), some (.int (nI k))] [] G 0 0
  | 0, k, hk => by
    obtain ⟨hm, hA, -⟩ := id hM
    refine wp_load (pc' := 8) (j := 5) dX9_isCovered_6 rfl rfl rfl ?_
    refine wp_load (pc' := 9) (j := 0) dX9_isCovered_8 rfl rfl rfl ?_
    refine wp_get (pc' := 12) dX9_isCovered_9 fl_X9_231 hm rfl rfl ?_
    refine wp_icmpT 85 dX9_isCovered_12 rfl (cgeT hy (by omega) (by omega)) ?_
    refine wp_load (pc' := 87) (j := 4) dX9_isCovered_85 rfl rfl rfl ?_
    refine wp_iret dX9_isCovered_87 rfl nar_b2i ?_
    obtain rfl : k = ny := by omega
    exact hP
  | j + 1, k, hk => by
    have ih := l_isCovered (E := E) (d := d) (mc := mc) (ms := ms) hM hy hy200 hP j (k + 1) (by omega)
    obtain ⟨hm, hA, -⟩ := id hM
    refine wp_load (pc' := 8) (j := 5) dX9_isCovered_6 rfl rfl rfl ?_
    refine wp_load (pc' := 9) (j := 0) dX9_isCovered_8 rfl rfl rfl ?_
    refine wp_get (pc' := 12) dX9_isCovered_9 fl_X9_231 hm rfl rfl ?_
    refine wp_icmpF (pc' := 15) 85 dX9_isCovered_12 rfl rfl (cgeF hy (by omega) (by omega)) ?_
    refine wp_load (pc' := 17) (j := 4) dX9_isCovered_15 rfl rfl rfl ?_
    refine wp_ifneB (pc' := 20) 72 dX9_isCovered_17 rfl rfl (fun h17 => ?_) (fun h17 => ?_)
    · skip
      refine wp_iconst (pc' := 73) (1) dX9_isCovered_72 rfl rfl ?_
      refine wp_goto 77 dX9_isCovered_73 rfl ?_
      refine wp_store (pc' := 79) (j := 4) (ls' := [_, _, _, _, _, _]) dX9_isCovered_77 rfl (Nat.le_of_ble_eq_true rfl) rfl rfl ?_
      refine wp_iinc (pc' := 82) (j := 5) (ls' := [_, _, _, _, _, _]) (nI (k + 1)) dX9_isCovered_79 rfl (nI_1 k) rfl rfl ?_
      refine wp_goto 6 dX9_isCovered_82 rfl ?_
      simpa only [covF, b2i_t, b2i_f, h17, Bool.false_eq_true, decide_true, decide_false, Bool.not_true, Bool.not_false, Bool.and_true, Bool.true_and, Bool.and_false, Bool.false_and, Bool.or_true, Bool.true_or, Bool.or_false, Bool.false_or, if_true, if_false, ite_true, ite_false] using ih
    · skip
      refine wp_load (pc' := 21) (j := 0) dX9_isCovered_20 rfl rfl rfl ?_
      refine wp_get (pc' := 24) dX9_isCovered_21 fl_X9_89 hm rfl rfl ?_
      refine wp_load (pc' := 26) (j := 5) dX9_isCovered_24 rfl rfl rfl ?_
      refine wp_iald (pc' := 27) dX9_isCovered_26 (hA 36 (by decide)) rfl (show k < 200 from by omega) (by decide) rfl ?_
      refine wp_load (pc' := 28) (j := 1) dX9_isCovered_27 rfl rfl rfl ?_
      refine wp_icmp_ne (pc' := 31) 76 dX9_isCovered_28 rfl rfl (fun h28 => ?_) (fun h28 => ?_)
      · skip
        refine wp_iconst (pc' := 77) (0) dX9_isCovered_76 rfl rfl ?_
        refine wp_store (pc' := 79) (j := 4) (ls' := [_, _, _, _, _, _]) dX9_isCovered_77 rfl (Nat.le_of_ble_eq_true rfl) rfl rfl ?_
        refine wp_iinc (pc' := 82) (j := 5) (ls' := [_, _, _, _, _, _]) (nI (k + 1)) dX9_isCovered_79 rfl (nI_1 k) rfl rfl ?_
        refine wp_goto 6 dX9_isCovered_82 rfl ?_
        simpa only [covF, b2i_t, b2i_f, h17, h28, Bool.false_eq_true, decide_true, decide_false, Bool.not_true, Bool.not_false, Bool.and_true, Bool.true_and, Bool.and_false, Bool.false_and, Bool.or_true, Bool.true_or, Bool.or_false, Bool.false_or, if_true, if_false, ite_true, ite_false] using ih
      · skip
        refine wp_load (pc' := 32) (j := 0) dX9_isCovered_31 rfl rfl rfl ?_
        refine wp_get (pc' := 35) dX9_isCovered_32 fl_X9_92 hm rfl rfl ?_
        refine wp_load (pc' := 37) (j := 5) dX9_isCovered_35 rfl rfl rfl ?_
        refine wp_iald (pc' := 38) dX9_isCovered_37 (hA 37 (by decide)) rfl (show k < 200 from by omega) (by decide) rfl ?_
        refine wp_load (pc' := 39) (j := 2) dX9_isCovered_38 rfl rfl rfl ?_
        refine wp_icmp_ne (pc' := 42) 76 dX9_isCovered_39 rfl rfl (fun h39 => ?_) (fun h39 => ?_)
        · skip
          refine wp_iconst (pc' := 77) (0) dX9_isCovered_76 rfl rfl ?_
          refine wp_store (pc' := 79) (j := 4) (ls' := [_, _, _, _, _, _]) dX9_isCovered_77 rfl (Nat.le_of_ble_eq_true rfl) rfl rfl ?_
          refine wp_iinc (pc' := 82) (j := 5) (ls' := [_, _, _, _, _, _]) (nI (k + 1)) dX9_isCovered_79 rfl (nI_1 k) rfl rfl ?_
          refine wp_goto 6 dX9_isCovered_82 rfl ?_
          simpa only [covF, b2i_t, b2i_f, h17, h28, h39, Bool.false_eq_true, decide_true, decide_false, Bool.not_true, Bool.not_false, Bool.and_true, Bool.true_and, Bool.and_false, Bool.false_and, Bool.or_true, Bool.true_or, Bool.or_false, Bool.false_or, if_true, if_false, ite_true, ite_false] using ih
        · skip
          refine wp_load (pc' := 43) (j := 3) dX9_isCovered_42 rfl rfl rfl ?_
          refine wp_load (pc' := 44) (j := 0) dX9_isCovered_43 rfl rfl rfl ?_
          refine wp_get (pc' := 47) dX9_isCovered_44 fl_X9_95 hm rfl rfl ?_
          refine wp_load (pc' := 49) (j := 5) dX9_isCovered_47 rfl rfl rfl ?_
          refine wp_iald (pc' := 50) dX9_isCovered_49 (hA 38 (by decide)) rfl (show k < 200 from by omega) (by decide) rfl ?_
          refine wp_icmp_lt (pc' := 53) 76 dX9_isCovered_50 rfl rfl (fun h50 => ?_) (fun h50 => ?_)
          · skip
            refine wp_iconst (pc' := 77) (0) dX9_isCovered_76 rfl rfl ?_
            refine wp_store (pc' := 79) (j := 4) (ls' := [_, _, _, _, _, _]) dX9_isCovered_77 rfl (Nat.le_of_ble_eq_true rfl) rfl rfl ?_
            refine wp_iinc (pc' := 82) (j := 5) (ls' := [_, _, _, _, _, _]) (nI (k + 1)) dX9_isCovered_79 rfl (nI_1 k) rfl rfl ?_
            refine wp_goto 6 dX9_isCovered_82 rfl ?_
            simpa only [covF, b2i_t, b2i_f, h17, h28, h39, h50, Bool.false_eq_true, decide_true, decide_false, Bool.not_true, Bool.not_false, Bool.and_true, Bool.true_and, Bool.and_false, Bool.false_and, Bool.or_true, Bool.true_or, Bool.or_false, Bool.false_or, if_true, if_false, ite_true, ite_false] using ih
          · skip
            refine wp_load (pc' := 54) (j := 3) dX9_isCovered_53 rfl rfl rfl ?_
            refine wp_load (pc' := 55) (j := 0) dX9_isCovered_54 rfl rfl rfl ?_
            refine wp_get (pc' := 58) dX9_isCovered_55 fl_X9_95 hm rfl rfl ?_
            refine wp_load (pc' := 60) (j := 5) dX9_isCovered_58 rfl rfl rfl ?_
            refine wp_iald (pc' := 61) dX9_isCovered_60 (hA 38 (by decide)) rfl (show k < 200 from by omega) (by decide) rfl ?_
            refine wp_load (pc' := 62) (j := 0) dX9_isCovered_61 rfl rfl rfl ?_
            refine wp_get (pc' := 65) dX9_isCovered_62 fl_X9_98 hm rfl rfl ?_
            refine wp_load (pc' := 67) (j := 5) dX9_isCovered_65 rfl rfl rfl ?_
            refine wp_iald (pc' := 68) dX9_isCovered_67 (hA 39 (by decide)) rfl (show k < 200 from by omega) (by decide) rfl ?_
            refine wp_pure (pc' := 69) dX9_isCovered_68 rfl rfl ?_
            refine wp_icmp_ge (pc' := 72) 76 dX9_isCovered_69 rfl rfl (fun h69 => ?_) (fun h69 => ?_)
            · skip
              refine wp_iconst (pc' := 77) (0) dX9_isCovered_76 rfl rfl ?_
              refine wp_store (pc' := 79) (j := 4) (ls' := [_, _, _, _, _, _]) dX9_isCovered_77 rfl (Nat.le_of_ble_eq_true rfl) rfl rfl ?_
              refine wp_iinc (pc' := 82) (j := 5) (ls' := [_, _, _, _, _, _]) (nI (k + 1)) dX9_isCovered_79 rfl (nI_1 k) rfl rfl ?_
              refine wp_goto 6 dX9_isCovered_82 rfl ?_
              simpa only [covF, b2i_t, b2i_f, h17, h28, h39, h50, h69, Bool.false_eq_true, decide_true, decide_false, Bool.not_true, Bool.not_false, Bool.and_true, Bool.true_and, Bool.and_false, Bool.false_and, Bool.or_true, Bool.true_or, Bool.or_false, Bool.false_or, if_true, if_false, ite_true, ite_false] using ih
            · skip
              refine wp_iconst (pc' := 73) (1) dX9_isCovered_72 rfl rfl ?_
              refine wp_goto 77 dX9_isCovered_73 rfl ?_
              refine wp_store (pc' := 79) (j := 4) (ls' := [_, _, _, _, _, _]) dX9_isCovered_77 rfl (Nat.le_of_ble_eq_true rfl) rfl rfl ?_
              refine wp_iinc (pc' := 82) (j := 5) (ls' := [_, _, _, _, _, _]) (nI (k + 1)) dX9_isCovered_79 rfl (nI_1 k) rfl rfl ?_
              refine wp_goto 6 dX9_isCovered_82 rfl ?_
              simpa only [covF, b2i_t, b2i_f, h17, h28, h39, h50, h69, Bool.false_eq_true, decide_true, decide_false, Bool.not_true, Bool.not_false, Bool.and_true, Bool.true_and, Bool.and_false, Bool.false_and, Bool.or_true, Bool.true_or, Bool.or_false, Bool.false_or, if_true, if_false, ite_true, ite_false] using ih

set_option maxRecDepth 20000 in
set_option maxHeartbeats 2000000 in
theorem s_isCovered {E : XE} {d mc ms : Nat} {G : HP} {P : Ps} {m : Nat} {aM own : Nat → Nat} {σ : MS} (hM : MH m aM own σ G) {ny : Nat} (hy : σ.1 35 = nI ny) (hy200 : ny ≤ 200) (i : Nat) (s q : Int32) (hP : P (.inl (some (.int (b2i (covF σ i s q ny))))) G) : Sp E (d + 1) yX9_isCovered mc ms [.ref m, .int (nI i), .int s, .int q] G P := by
  obtain ⟨hm, hA, -⟩ := id hM
  refine sp_intro bd_X9_isCovered (v1_all rfl) (Nat.le_of_ble_eq_true rfl) ?_
  change WX _ _ _ _ _ _ 0 [some (.ref m), some (.int (nI i)), some (.int s), some (.int q), none, none] [] _ 0 0
  refine wp_iconst (pc' := 1) (0) dX9_isCovered_0 rfl rfl ?_
  refine wp_store (pc' := 3) (j := 4) (ls' := [_, _, _, _, _, _]) dX9_isCovered_1 rfl (Nat.le_of_ble_eq_true rfl) rfl rfl ?_
  refine wp_iconst (pc' := 4) (0) dX9_isCovered_3 rfl rfl ?_
  refine wp_store (pc' := 6) (j := 5) (ls' := [_, _, _, _, _, _]) dX9_isCovered_4 rfl (Nat.le_of_ble_eq_true rfl) rfl rfl ?_
  exact l_isCovered hM hy hy200 hP ny 0 (by omega)

set_option maxRecDepth 20000 in
set_option maxHeartbeats 2000000 in
theorem l_isBlockedAt {E : XE} {d mc ms : Nat} {G : HP} {P : Ps} {m : Nat} {aM own : Nat → Nat} {σ : MS} (hM : MH m aM own σ G) {i L o : Nat} (hi : i < 30) (hL : σ.2.1 23 i = nI L) (hL12 : L ≤ 60) (ho : 60 * σ.2.1 25 i + σ.2.1 26 i = nI o) (ho240 : o + L ≤ 240) (hP : P (.inl (some (.int (b2i (blkF σ o L))))) G) : ∀ j k, k + j = L → WX E d (yX9_isBlockedAt, cX9_isBlockedAt, (some .boolean), []) mc ms P 4 [some (.ref m), some (.int (nI i)), some (.int (b2i (blkF σ o k))), some (.int (nI k))] [] G 0 0
  | 0, k, hk => by
    obtain ⟨hm, hA, -⟩ := id hM
    refine wp_load (pc' := 5) (j := 3) dX9_isBlockedAt_4 rfl rfl rfl ?_
    refine wp_load (pc' := 6) (j := 0) dX9_isBlockedAt_5 rfl rfl rfl ?_
    refine wp_get (pc' := 9) dX9_isBlockedAt_6 fl_X9_56 hm rfl rfl ?_
    refine wp_load (pc' := 10) (j := 1) dX9_isBlockedAt_9 rfl rfl rfl ?_
    refine wp_iald (pc' := 11) dX9_isBlockedAt_10 (hA 23 (by decide)) rfl hi (by decide) rfl ?_
    refine wp_icmpT 56 dX9_isBlockedAt_11 rfl (cgeT hL (by omega) (by omega)) ?_
    refine wp_load (pc' := 57) (j := 2) dX9_isBlockedAt_56 rfl rfl rfl ?_
    refine wp_iret dX9_isBlockedAt_57 rfl nar_b2i ?_
    obtain rfl : k = L := by omega
    exact hP
  | j + 1, k, hk => by
    have ih := l_isBlockedAt (E := E) (d := d) (mc := mc) (ms := ms) hM hi hL hL12 ho ho240 hP j (k + 1) (by omega)
    obtain ⟨hm, hA, -⟩ := id hM
    refine wp_load (pc' := 5) (j := 3) dX9_isBlockedAt_4 rfl rfl rfl ?_
    refine wp_load (pc' := 6) (j := 0) dX9_isBlockedAt_5 rfl rfl rfl ?_
    refine wp_get (pc' := 9) dX9_isBlockedAt_6 fl_X9_56 hm rfl rfl ?_
    refine wp_load (pc' := 10) (j := 1) dX9_isBlockedAt_9 rfl rfl rfl ?_
    refine wp_iald (pc' := 11) dX9_isBlockedAt_10 (hA 23 (by decide)) rfl hi (by decide) rfl ?_
    refine wp_icmpF (pc' := 14) 56 dX9_isBlockedAt_11 rfl rfl (cgeF hL (by omega) (by omega)) ?_
    refine wp_load (pc' := 15) (j := 2) dX9_isBlockedAt_14 rfl rfl rfl ?_
    refine wp_ifneB (pc' := 18) 44 dX9_isBlockedAt_15 rfl rfl (fun h15 => ?_) (fun h15 => ?_)
    · skip
      refine wp_iconst (pc' := 45) (1) dX9_isBlockedAt_44 rfl rfl ?_
      refine wp_goto 49 dX9_isBlockedAt_45 rfl ?_
      refine wp_store (pc' := 50) (j := 2) (ls' := [_, _, _, _]) dX9_isBlockedAt_49 rfl (Nat.le_of_ble_eq_true rfl) rfl rfl ?_
      refine wp_iinc (pc' := 53) (j := 3) (ls' := [_, _, _, _]) (nI (k + 1)) dX9_isBlockedAt_50 rfl (nI_1 k) rfl rfl ?_
      refine wp_goto 4 dX9_isBlockedAt_53 rfl ?_
      simpa only [blkF, b2i_t, b2i_f, h15, Bool.false_eq_true, decide_true, decide_false, Bool.not_true, Bool.not_false, Bool.and_true, Bool.true_and, Bool.and_false, Bool.false_and, Bool.or_true, Bool.true_or, Bool.or_false, Bool.false_or, if_true, if_false, ite_true, ite_false] using ih
    · skip
      refine wp_load (pc' := 19) (j := 0) dX9_isBlockedAt_18 rfl rfl rfl ?_
      refine wp_get (pc' := 22) dX9_isBlockedAt_19 fl_X9_7 hm rfl rfl ?_
      refine wp_bipush (pc' := 24) (60) dX9_isBlockedAt_22 rfl rfl ?_
      refine wp_load (pc' := 25) (j := 0) dX9_isBlockedAt_24 rfl rfl rfl ?_
      refine wp_get (pc' := 28) dX9_isBlockedAt_25 fl_X9_62 hm rfl rfl ?_
      refine wp_load (pc' := 29) (j := 1) dX9_isBlockedAt_28 rfl rfl rfl ?_
      refine wp_iald (pc' := 30) dX9_isBlockedAt_29 (hA 25 (by decide)) rfl hi (by decide) rfl ?_
      refine wp_pure (pc' := 31) dX9_isBlockedAt_30 rfl rfl ?_
      refine wp_load (pc' := 32) (j := 0) dX9_isBlockedAt_31 rfl rfl rfl ?_
      refine wp_get (pc' := 35) dX9_isBlockedAt_32 fl_X9_65 hm rfl rfl ?_
      refine wp_load (pc' := 36) (j := 1) dX9_isBlockedAt_35 rfl rfl rfl ?_
      refine wp_iald (pc' := 37) dX9_isBlockedAt_36 (hA 26 (by decide)) rfl hi (by decide) rfl ?_
      refine wp_pure (pc' := 38) dX9_isBlockedAt_37 rfl rfl ?_
      refine wp_load (pc' := 39) (j := 3) dX9_isBlockedAt_38 rfl rfl rfl ?_
      refine wp_pure (pc' := 40) dX9_isBlockedAt_39 rfl rfl ?_
      refine wp_zald (pc' := 41) dX9_isBlockedAt_40 (hA 1 (by decide)) (by rw [ho, nI_add]) (show o + k < 240 from by omega) (by decide) rfl ?_
      refine wp_ifeqB (pc' := 44) 48 dX9_isBlockedAt_41 rfl rfl (fun h41 => ?_) (fun h41 => ?_)
      · skip
        refine wp_iconst (pc' := 49) (0) dX9_isBlockedAt_48 rfl rfl ?_
        refine wp_store (pc' := 50) (j := 2) (ls' := [_, _, _, _]) dX9_isBlockedAt_49 rfl (Nat.le_of_ble_eq_true rfl) rfl rfl ?_
        refine wp_iinc (pc' := 53) (j := 3) (ls' := [_, _, _, _]) (nI (k + 1)) dX9_isBlockedAt_50 rfl (nI_1 k) rfl rfl ?_
        refine wp_goto 4 dX9_isBlockedAt_53 rfl ?_
        simpa only [blkF, b2i_t, b2i_f, h15, h41, Bool.false_eq_true, decide_true, decide_false, Bool.not_true, Bool.not_false, Bool.and_true, Bool.true_and, Bool.and_false, Bool.false_and, Bool.or_true, Bool.true_or, Bool.or_false, Bool.false_or, if_true, if_false, ite_true, ite_false] using ih
      · skip
        refine wp_iconst (pc' := 45) (1) dX9_isBlockedAt_44 rfl rfl ?_
        refine wp_goto 49 dX9_isBlockedAt_45 rfl ?_
        refine wp_store (pc' := 50) (j := 2) (ls' := [_, _, _, _]) dX9_isBlockedAt_49 rfl (Nat.le_of_ble_eq_true rfl) rfl rfl ?_
        refine wp_iinc (pc' := 53) (j := 3) (ls' := [_, _, _, _]) (nI (k + 1)) dX9_isBlockedAt_50 rfl (nI_1 k) rfl rfl ?_
        refine wp_goto 4 dX9_isBlockedAt_53 rfl ?_
        simpa only [blkF, b2i_t, b2i_f, h15, h41, Bool.false_eq_true, decide_true, decide_false, Bool.not_true, Bool.not_false, Bool.and_true, Bool.true_and, Bool.and_false, Bool.false_and, Bool.or_true, Bool.true_or, Bool.or_false, Bool.false_or, if_true, if_false, ite_true, ite_false] using ih

set_option maxRecDepth 20000 in
set_option maxHeartbeats 2000000 in
theorem s_isBlockedAt {E : XE} {d mc ms : Nat} {G : HP} {P : Ps} {m : Nat} {aM own : Nat → Nat} {σ : MS} (hM : MH m aM own σ G) {i L o : Nat} (hi : i < 30) (hL : σ.2.1 23 i = nI L) (hL12 : L ≤ 60) (ho : 60 * σ.2.1 25 i + σ.2.1 26 i = nI o) (ho240 : o + L ≤ 240) (hP : P (.inl (some (.int (b2i (blkF σ o L))))) G) : Sp E (d + 1) yX9_isBlockedAt mc ms [.ref m, .int (nI i)] G P := by
  obtain ⟨hm, hA, -⟩ := id hM
  refine sp_intro bd_X9_isBlockedAt (v1_all rfl) (Nat.le_of_ble_eq_true rfl) ?_
  change WX _ _ _ _ _ _ 0 [some (.ref m), some (.int (nI i)), none, none] [] _ 0 0
  refine wp_iconst (pc' := 1) (0) dX9_isBlockedAt_0 rfl rfl ?_
  refine wp_store (pc' := 2) (j := 2) (ls' := [_, _, _, _]) dX9_isBlockedAt_1 rfl (Nat.le_of_ble_eq_true rfl) rfl rfl ?_
  refine wp_iconst (pc' := 3) (0) dX9_isBlockedAt_2 rfl rfl ?_
  refine wp_store (pc' := 4) (j := 3) (ls' := [_, _, _, _]) dX9_isBlockedAt_3 rfl (Nat.le_of_ble_eq_true rfl) rfl rfl ?_
  exact l_isBlockedAt hM hi hL hL12 ho ho240 hP L 0 (by omega)

set_option maxRecDepth 20000 in
set_option maxHeartbeats 2000000 in
theorem l_isForbidden {E : XE} {d0 d mc ms : Nat} {G : HP} {P : Ps} (hd : d = d0 + 3) {m : Nat} {aM own : Nat → Nat} {σ : MS} (hM : MH m aM own σ G) {n : Nat} (hs : σ.1 7 = nI n) (hs30 : n ≤ 30) {i L : Nat} (hi : i < 30) (hL : σ.2.1 23 i = nI L) (hL12 : L ≤ 60) {s mt q u : Int32} (hP : P (.inl (some (.int (b2i (forbF σ n s mt q u L))))) G) : ∀ j k, k + j = L → ∀ z8 : Option Value, WX E d (yX9_isForbidden, cX9_isForbidden, (some .boolean), []) mc ms P 19 [some (.ref m), some (.int (nI i)), some (.int s), some (.int mt), some (.int q), some (.int u), some (.int (b2i (forbF σ n s mt q u k))), some (.int (nI k)), z8] [] G 0 0
  | 0, k, hk, z8 => by
    subst hd
    obtain ⟨hm, hA, -⟩ := id hM
    refine wp_load (pc' := 21) (j := 7) dX9_isForbidden_19 rfl rfl rfl ?_
    refine wp_load (pc' := 22) (j := 0) dX9_isForbidden_21 rfl rfl rfl ?_
    refine wp_get (pc' := 25) dX9_isForbidden_22 fl_X9_56 hm rfl rfl ?_
    refine wp_load (pc' := 26) (j := 1) dX9_isForbidden_25 rfl rfl rfl ?_
    refine wp_iald (pc' := 27) dX9_isForbidden_26 (hA 23 (by decide)) rfl hi (by decide) rfl ?_
    refine wp_icmpT 82 dX9_isForbidden_27 rfl (cgeT hL (by omega) (by omega)) ?_
    refine wp_load (pc' := 84) (j := 6) dX9_isForbidden_82 rfl rfl rfl ?_
    refine wp_iret dX9_isForbidden_84 rfl nar_b2i ?_
    obtain rfl : k = L := by omega
    exact hP
  | j + 1, k, hk, z8 => by
    have ih := l_isForbidden (E := E) (d := d) (mc := mc) (ms := ms) hd hM hs hs30 hi hL hL12 hP j (k + 1) (by omega)
    subst hd
    obtain ⟨hm, hA, -⟩ := id hM
    refine wp_load (pc' := 21) (j := 7) dX9_isForbidden_19 rfl rfl rfl ?_
    refine wp_load (pc' := 22) (j := 0) dX9_isForbidden_21 rfl rfl rfl ?_
    refine wp_get (pc' := 25) dX9_isForbidden_22 fl_X9_56 hm rfl rfl ?_
    refine wp_load (pc' := 26) (j := 1) dX9_isForbidden_25 rfl rfl rfl ?_
    refine wp_iald (pc' := 27) dX9_isForbidden_26 (hA 23 (by decide)) rfl hi (by decide) rfl ?_
    refine wp_icmpF (pc' := 30) 82 dX9_isForbidden_27 rfl rfl (cgeF hL (by omega) (by omega)) ?_
    refine wp_load (pc' := 32) (j := 6) dX9_isForbidden_30 rfl rfl rfl ?_
    refine wp_ifneB (pc' := 35) 82 dX9_isForbidden_32 rfl rfl (fun h32 => ?_) (fun h32 => ?_)
    · skip
      exact (by
        obtain ⟨x, hx⟩ : ∃ x, L = k + x := ⟨L - k, by omega⟩
        rw [hx, forbF_mono h32 x] at hP
        exact wp_load (pc' := 84) (j := 6) dX9_isForbidden_82 rfl rfl rfl (wp_iret dX9_isForbidden_84 rfl nar_b2i (by rw [h32]; exact hP)))
    · skip
      skip
      refine wp_load (pc' := 36) (j := 0) dX9_isForbidden_35 rfl rfl rfl ?_
      refine wp_load (pc' := 37) (j := 2) dX9_isForbidden_36 rfl rfl rfl ?_
      refine wp_load (pc' := 38) (j := 3) dX9_isForbidden_37 rfl rfl rfl ?_
      refine wp_load (pc' := 40) (j := 7) dX9_isForbidden_38 rfl rfl rfl ?_
      refine wp_pure (pc' := 41) dX9_isForbidden_40 rfl rfl ?_
      refine wp_load (pc' := 43) (j := 4) dX9_isForbidden_41 rfl rfl rfl ?_
      refine wp_v3 0 0 dX9_isForbidden_43 ml_X9_205 hm (Nat.le_of_ble_eq_true rfl) (by omega) (by omega) ?_
      refine s_ruleAt hM hs hs30 _ _ _ ?_
      refine kt_v ?_
      rcases hr : ruleO σ s (mt + nI k) q n with _ | f
      · skip
        refine wp_store (pc' := 48) (j := 8) (ls' := [_, _, _, _, _, _, _, _, _]) dX9_isForbidden_46 rfl (Nat.le_of_ble_eq_true rfl) rfl rfl ?_
        refine wp_load (pc' := 50) (j := 8) dX9_isForbidden_48 rfl rfl rfl ?_
        refine wp_iconst (pc' := 51) (-1) dX9_isForbidden_50 rfl rfl ?_
        refine wp_icmpT 73 dX9_isForbidden_51 rfl (cmpT rfl) ?_
        refine wp_iconst (pc' := 74) (0) dX9_isForbidden_73 rfl rfl ?_
        refine wp_store (pc' := 76) (j := 6) (ls' := [_, _, _, _, _, _, _, _, _]) dX9_isForbidden_74 rfl (Nat.le_of_ble_eq_true rfl) rfl rfl ?_
        refine wp_iinc (pc' := 79) (j := 7) (ls' := [_, _, _, _, _, _, _, _, _]) (nI (k + 1)) dX9_isForbidden_76 rfl (nI_1 k) rfl rfl ?_
        refine wp_goto 19 dX9_isForbidden_79 rfl ?_
        simpa only [forbF, hr, b2i_t, b2i_f, h32, Bool.false_eq_true, decide_true, decide_false, Bool.not_true, Bool.not_false, Bool.and_true, Bool.true_and, Bool.and_false, Bool.false_and, Bool.or_true, Bool.true_or, Bool.or_false, Bool.false_or, if_true, if_false, ite_true, ite_false] using ih _
      · skip
        have hfn := ruleO_lt hr
        refine wp_store (pc' := 48) (j := 8) (ls' := [_, _, _, _, _, _, _, _, _]) dX9_isForbidden_46 rfl (Nat.le_of_ble_eq_true rfl) rfl rfl ?_
        refine wp_load (pc' := 50) (j := 8) dX9_isForbidden_48 rfl rfl rfl ?_
        refine wp_iconst (pc' := 51) (-1) dX9_isForbidden_50 rfl rfl ?_
        refine wp_icmpF (pc' := 54) 73 dX9_isForbidden_51 rfl rfl (nI_nm1 (by omega)) ?_
        refine wp_load (pc' := 55) (j := 0) dX9_isForbidden_54 rfl rfl rfl ?_
        refine wp_get (pc' := 58) dX9_isForbidden_55 fl_X9_23 hm rfl rfl ?_
        refine wp_load (pc' := 60) (j := 8) dX9_isForbidden_58 rfl rfl rfl ?_
        refine wp_iald (pc' := 61) dX9_isForbidden_60 (hA 11 (by decide)) rfl (show f < 30 from by omega) (by decide) rfl ?_
        refine wp_load (pc' := 63) (j := 5) dX9_isForbidden_61 rfl rfl rfl ?_
        refine wp_s2 0 0 dX9_isForbidden_63 ml_X9_194 (Nat.le_of_ble_eq_true rfl) (by omega) (by omega) ?_
        refine s_has _ _ ?_
        refine kt_v ?_
        refine wp_ifneB (pc' := 69) 73 dX9_isForbidden_66 rfl rfl (fun h66 => ?_) (fun h66 => ?_)
        · skip
          refine wp_iconst (pc' := 74) (0) dX9_isForbidden_73 rfl rfl ?_
          refine wp_store (pc' := 76) (j := 6) (ls' := [_, _, _, _, _, _, _, _, _]) dX9_isForbidden_74 rfl (Nat.le_of_ble_eq_true rfl) rfl rfl ?_
          refine wp_iinc (pc' := 79) (j := 7) (ls' := [_, _, _, _, _, _, _, _, _]) (nI (k + 1)) dX9_isForbidden_76 rfl (nI_1 k) rfl rfl ?_
          refine wp_goto 19 dX9_isForbidden_79 rfl ?_
          simpa only [forbF, hr, b2i_t, b2i_f, h32, h66, Bool.false_eq_true, decide_true, decide_false, Bool.not_true, Bool.not_false, Bool.and_true, Bool.true_and, Bool.and_false, Bool.false_and, Bool.or_true, Bool.true_or, Bool.or_false, Bool.false_or, if_true, if_false, ite_true, ite_false] using ih _
        · skip
          refine wp_iconst (pc' := 70) (1) dX9_isForbidden_69 rfl rfl ?_
          refine wp_goto 74 dX9_isForbidden_70 rfl ?_
          refine wp_store (pc' := 76) (j := 6) (ls' := [_, _, _, _, _, _, _, _, _]) dX9_isForbidden_74 rfl (Nat.le_of_ble_eq_true rfl) rfl rfl ?_
          refine wp_iinc (pc' := 79) (j := 7) (ls' := [_, _, _, _, _, _, _, _, _]) (nI (k + 1)) dX9_isForbidden_76 rfl (nI_1 k) rfl rfl ?_
          refine wp_goto 19 dX9_isForbidden_79 rfl ?_
          simpa only [forbF, hr, b2i_t, b2i_f, h32, h66, Bool.false_eq_true, decide_true, decide_false, Bool.not_true, Bool.not_false, Bool.and_true, Bool.true_and, Bool.and_false, Bool.false_and, Bool.or_true, Bool.true_or, Bool.or_false, Bool.false_or, if_true, if_false, ite_true, ite_false] using ih _

set_option maxRecDepth 20000 in
set_option maxHeartbeats 2000000 in
theorem s_isForbidden {E : XE} {d mc ms : Nat} {G : HP} {P : Ps} {m : Nat} {aM own : Nat → Nat} {σ : MS} (hM : MH m aM own σ G) {n : Nat} (hs : σ.1 7 = nI n) (hs30 : n ≤ 30) {np : Nat} (hp : σ.1 29 = nI np) (hp40 : np ≤ 40) {i L : Nat} (hi : i < 30) (hL : σ.2.1 23 i = nI L) (hL12 : L ≤ 60) (s mt q : Int32) (hP : P (.inl (some (.int (b2i (forbF σ n s mt q (userOnF σ i s (q / 96) np) L))))) G) : Sp E (d + 4) yX9_isForbidden mc ms [.ref m, .int (nI i), .int s, .int mt, .int q] G P := by
  obtain ⟨hm, hA, -⟩ := id hM
  refine sp_intro bd_X9_isForbidden (v1_all rfl) (Nat.le_of_ble_eq_true rfl) ?_
  change WX _ _ _ _ _ _ 0 [some (.ref m), some (.int (nI i)), some (.int s), some (.int mt), some (.int q), none, none, none, none] [] _ 0 0
  refine wp_load (pc' := 1) (j := 0) dX9_isForbidden_0 rfl rfl rfl ?_
  refine wp_load (pc' := 2) (j := 1) dX9_isForbidden_1 rfl rfl rfl ?_
  refine wp_load (pc' := 3) (j := 2) dX9_isForbidden_2 rfl rfl rfl ?_
  refine wp_load (pc' := 5) (j := 4) dX9_isForbidden_3 rfl rfl rfl ?_
  refine wp_bipush (pc' := 7) (96) dX9_isForbidden_5 rfl rfl ?_
  refine wp_div (pc' := 8) dX9_isForbidden_7 (by decide) rfl ?_
  refine wp_v3 0 0 dX9_isForbidden_8 ml_X9_225 hm (Nat.le_of_ble_eq_true rfl) (by omega) (by omega) ?_
  refine s_userOn hM hp hp40 hi _ _ ?_
  refine kt_v ?_
  refine wp_store (pc' := 13) (j := 5) (ls' := [_, _, _, _, _, _, _, _, _]) dX9_isForbidden_11 rfl (Nat.le_of_ble_eq_true rfl) rfl rfl ?_
  refine wp_iconst (pc' := 14) (0) dX9_isForbidden_13 rfl rfl ?_
  refine wp_store (pc' := 16) (j := 6) (ls' := [_, _, _, _, _, _, _, _, _]) dX9_isForbidden_14 rfl (Nat.le_of_ble_eq_true rfl) rfl rfl ?_
  refine wp_iconst (pc' := 17) (0) dX9_isForbidden_16 rfl rfl ?_
  refine wp_store (pc' := 19) (j := 7) (ls' := [_, _, _, _, _, _, _, _, _]) dX9_isForbidden_17 rfl (Nat.le_of_ble_eq_true rfl) rfl rfl ?_
  exact l_isForbidden rfl hM hs hs30 hi hL hL12 hP L 0 (by omega) none

set_option maxRecDepth 20000 in
set_option maxHeartbeats 2000000 in
theorem s_judged {E : XE} {d mc ms : Nat} {G : HP} {P : Ps} {m : Nat} {aM own : Nat → Nat} {σ : MS} (hM : MH m aM own σ G) {n : Nat} (hs : σ.1 7 = nI n) (hs30 : n ≤ 30) {np : Nat} (hp : σ.1 29 = nI np) (hp40 : np ≤ 40) {ny : Nat} (hy : σ.1 35 = nI ny) (hy200 : ny ≤ 200) {i L : Nat} (hi : i < 30) (hL : σ.2.1 23 i = nI L) (hL12 : L ≤ 60) (s mt fr q : Int32) (hP : P (.inl (some (.int (judF σ i L n np ny s mt fr q)))) G) : Sp E (d + 5) yX9_judged mc ms [.ref m, .int (nI i), .int s, .int mt, .int fr, .int q] G P := by
  obtain ⟨hm, hA, -⟩ := id hM
  refine sp_intro bd_X9_judged (v1_all rfl) (Nat.le_of_ble_eq_true rfl) ?_
  change WX _ _ _ _ _ _ 0 [some (.ref m), some (.int (nI i)), some (.int s), some (.int mt), some (.int fr), some (.int q), none, none] [] _ 0 0
  refine wp_load (pc' := 1) (j := 0) dX9_judged_0 rfl rfl rfl ?_
  refine wp_load (pc' := 2) (j := 1) dX9_judged_1 rfl rfl rfl ?_
  refine wp_load (pc' := 3) (j := 2) dX9_judged_2 rfl rfl rfl ?_
  refine wp_load (pc' := 4) (j := 3) dX9_judged_3 rfl rfl rfl ?_
  refine wp_load (pc' := 6) (j := 5) dX9_judged_4 rfl rfl rfl ?_
  refine wp_v4 0 0 dX9_judged_6 ml_X9_234 hm (Nat.le_of_ble_eq_true rfl) (by omega) (by omega) ?_
  refine s_isForbidden hM hs hs30 hp hp40 hi hL hL12 _ _ _ ?_
  refine kt_v ?_
  refine wp_ifeqB (pc' := 12) 14 dX9_judged_9 rfl rfl (fun h9 => ?_) (fun h9 => ?_)
  · skip
    refine wp_load (pc' := 15) (j := 0) dX9_judged_14 rfl rfl rfl ?_
    refine wp_load (pc' := 16) (j := 2) dX9_judged_15 rfl rfl rfl ?_
    refine wp_load (pc' := 17) (j := 3) dX9_judged_16 rfl rfl rfl ?_
    refine wp_load (pc' := 19) (j := 5) dX9_judged_17 rfl rfl rfl ?_
    refine wp_v3 0 0 dX9_judged_19 ml_X9_205 hm (Nat.le_of_ble_eq_true rfl) (by omega) (by omega) ?_
    refine s_ruleAt hM hs hs30 _ _ _ ?_
    refine kt_v ?_
    rcases hr : ruleO σ s mt q n with _ | f
    · skip
      refine wp_store (pc' := 24) (j := 6) (ls' := [_, _, _, _, _, _, _, _]) dX9_judged_22 rfl (Nat.le_of_ble_eq_true rfl) rfl rfl ?_
      refine wp_load (pc' := 26) (j := 5) dX9_judged_24 rfl rfl rfl ?_
      refine wp_load (pc' := 28) (j := 4) dX9_judged_26 rfl rfl rfl ?_
      refine wp_pure (pc' := 29) dX9_judged_28 rfl rfl ?_
      refine wp_store (pc' := 31) (j := 7) (ls' := [_, _, _, _, _, _, _, _]) dX9_judged_29 rfl (Nat.le_of_ble_eq_true rfl) rfl rfl ?_
      refine wp_load (pc' := 33) (j := 6) dX9_judged_31 rfl rfl rfl ?_
      refine wp_iconst (pc' := 34) (-1) dX9_judged_33 rfl rfl ?_
      refine wp_icmpT 63 dX9_judged_34 rfl (cmpT rfl) ?_
      refine wp_load (pc' := 65) (j := 6) dX9_judged_63 rfl rfl rfl ?_
      refine wp_iconst (pc' := 66) (-1) dX9_judged_65 rfl rfl ?_
      refine wp_icmpT 100 dX9_judged_66 rfl (cmpT rfl) ?_
      refine wp_iconst (pc' := 101) (0) dX9_judged_100 rfl rfl ?_
      refine wp_iret dX9_judged_101 rfl rfl ?_
      simpa only [judF, hr, h9, Bool.false_eq_true, decide_true, decide_false, Bool.not_true, Bool.not_false, Bool.and_true, Bool.true_and, Bool.and_false, Bool.false_and, Bool.or_true, Bool.true_or, Bool.or_false, Bool.false_or, if_true, if_false, ite_true, ite_false] using hP
    · skip
      have hfn := ruleO_lt hr
      refine wp_store (pc' := 24) (j := 6) (ls' := [_, _, _, _, _, _, _, _]) dX9_judged_22 rfl (Nat.le_of_ble_eq_true rfl) rfl rfl ?_
      refine wp_load (pc' := 26) (j := 5) dX9_judged_24 rfl rfl rfl ?_
      refine wp_load (pc' := 28) (j := 4) dX9_judged_26 rfl rfl rfl ?_
      refine wp_pure (pc' := 29) dX9_judged_28 rfl rfl ?_
      refine wp_store (pc' := 31) (j := 7) (ls' := [_, _, _, _, _, _, _, _]) dX9_judged_29 rfl (Nat.le_of_ble_eq_true rfl) rfl rfl ?_
      refine wp_load (pc' := 33) (j := 6) dX9_judged_31 rfl rfl rfl ?_
      refine wp_iconst (pc' := 34) (-1) dX9_judged_33 rfl rfl ?_
      refine wp_icmpF (pc' := 37) 63 dX9_judged_34 rfl rfl (nI_nm1 (by omega)) ?_
      refine wp_load (pc' := 38) (j := 0) dX9_judged_37 rfl rfl rfl ?_
      refine wp_get (pc' := 41) dX9_judged_38 fl_X9_26 hm rfl rfl ?_
      refine wp_load (pc' := 43) (j := 6) dX9_judged_41 rfl rfl rfl ?_
      refine wp_iald (pc' := 44) dX9_judged_43 (hA 12 (by decide)) rfl (show f < 30 from by omega) (by decide) rfl ?_
      refine wp_if_le (pc' := 47) 63 dX9_judged_44 rfl rfl (fun h44 => ?_) (fun h44 => ?_)
      · skip
        refine wp_load (pc' := 65) (j := 6) dX9_judged_63 rfl rfl rfl ?_
        refine wp_iconst (pc' := 66) (-1) dX9_judged_65 rfl rfl ?_
        refine wp_icmpF (pc' := 69) 100 dX9_judged_66 rfl rfl (nI_nm1 (by omega)) ?_
        refine wp_load (pc' := 70) (j := 0) dX9_judged_69 rfl rfl rfl ?_
        refine wp_get (pc' := 73) dX9_judged_70 fl_X9_29 hm rfl rfl ?_
        refine wp_load (pc' := 75) (j := 6) dX9_judged_73 rfl rfl rfl ?_
        refine wp_zald (pc' := 76) dX9_judged_75 (hA 13 (by decide)) rfl (show f < 30 from by omega) (by decide) rfl ?_
        refine wp_ifeqB (pc' := 79) 100 dX9_judged_76 rfl rfl (fun h76 => ?_) (fun h76 => ?_)
        · skip
          refine wp_iconst (pc' := 101) (0) dX9_judged_100 rfl rfl ?_
          refine wp_iret dX9_judged_101 rfl rfl ?_
          simpa only [judF, hr, h9, h44, h76, Bool.false_eq_true, decide_true, decide_false, Bool.not_true, Bool.not_false, Bool.and_true, Bool.true_and, Bool.and_false, Bool.false_and, Bool.or_true, Bool.true_or, Bool.or_false, Bool.false_or, if_true, if_false, ite_true, ite_false] using hP
        · skip
          refine wp_load (pc' := 81) (j := 7) dX9_judged_79 rfl rfl rfl ?_
          refine wp_iconst (pc' := 82) (1) dX9_judged_81 rfl rfl ?_
          refine wp_icmp_le (pc' := 85) 100 dX9_judged_82 rfl rfl (fun h82 => ?_) (fun h82 => ?_)
          · skip
            refine wp_iconst (pc' := 101) (0) dX9_judged_100 rfl rfl ?_
            refine wp_iret dX9_judged_101 rfl rfl ?_
            simpa only [judF, hr, h9, h44, h76, h82, Bool.false_eq_true, decide_true, decide_false, Bool.not_true, Bool.not_false, Bool.and_true, Bool.true_and, Bool.and_false, Bool.false_and, Bool.or_true, Bool.true_or, Bool.or_false, Bool.false_or, if_true, if_false, ite_true, ite_false] using hP
          · skip
            refine wp_load (pc' := 86) (j := 0) dX9_judged_85 rfl rfl rfl ?_
            refine wp_load (pc' := 87) (j := 1) dX9_judged_86 rfl rfl rfl ?_
            refine wp_load (pc' := 88) (j := 2) dX9_judged_87 rfl rfl rfl ?_
            refine wp_load (pc' := 90) (j := 5) dX9_judged_88 rfl rfl rfl ?_
            refine wp_v3 0 0 dX9_judged_90 ml_X9_237 hm (Nat.le_of_ble_eq_true rfl) (by omega) (by omega) ?_
            refine s_isCovered hM hy hy200 _ _ _ ?_
            refine kt_v ?_
            refine wp_ifneB (pc' := 96) 100 dX9_judged_93 rfl rfl (fun h93 => ?_) (fun h93 => ?_)
            · skip
              refine wp_iconst (pc' := 101) (0) dX9_judged_100 rfl rfl ?_
              refine wp_iret dX9_judged_101 rfl rfl ?_
              simpa only [judF, hr, h9, h44, h76, h82, h93, Bool.false_eq_true, decide_true, decide_false, Bool.not_true, Bool.not_false, Bool.and_true, Bool.true_and, Bool.and_false, Bool.false_and, Bool.or_true, Bool.true_or, Bool.or_false, Bool.false_or, if_true, if_false, ite_true, ite_false] using hP
            · skip
              refine wp_iconst (pc' := 97) (4) dX9_judged_96 rfl rfl ?_
              refine wp_goto 101 dX9_judged_97 rfl ?_
              refine wp_iret dX9_judged_101 rfl rfl ?_
              simpa only [judF, hr, h9, h44, h76, h82, h93, Bool.false_eq_true, decide_true, decide_false, Bool.not_true, Bool.not_false, Bool.and_true, Bool.true_and, Bool.and_false, Bool.false_and, Bool.or_true, Bool.true_or, Bool.or_false, Bool.false_or, if_true, if_false, ite_true, ite_false] using hP
      · skip
        refine wp_load (pc' := 49) (j := 7) dX9_judged_47 rfl rfl rfl ?_
        refine wp_load (pc' := 50) (j := 0) dX9_judged_49 rfl rfl rfl ?_
        refine wp_get (pc' := 53) dX9_judged_50 fl_X9_26 hm rfl rfl ?_
        refine wp_load (pc' := 55) (j := 6) dX9_judged_53 rfl rfl rfl ?_
        refine wp_iald (pc' := 56) dX9_judged_55 (hA 12 (by decide)) rfl (show f < 30 from by omega) (by decide) rfl ?_
        refine wp_iconst (pc' := 57) (1) dX9_judged_56 rfl rfl ?_
        refine wp_pure (pc' := 58) dX9_judged_57 rfl rfl ?_
        refine wp_icmp_le (pc' := 61) 63 dX9_judged_58 rfl rfl (fun h58 => ?_) (fun h58 => ?_)
        · skip
          refine wp_load (pc' := 65) (j := 6) dX9_judged_63 rfl rfl rfl ?_
          refine wp_iconst (pc' := 66) (-1) dX9_judged_65 rfl rfl ?_
          refine wp_icmpF (pc' := 69) 100 dX9_judged_66 rfl rfl (nI_nm1 (by omega)) ?_
          refine wp_load (pc' := 70) (j := 0) dX9_judged_69 rfl rfl rfl ?_
          refine wp_get (pc' := 73) dX9_judged_70 fl_X9_29 hm rfl rfl ?_
          refine wp_load (pc' := 75) (j := 6) dX9_judged_73 rfl rfl rfl ?_
          refine wp_zald (pc' := 76) dX9_judged_75 (hA 13 (by decide)) rfl (show f < 30 from by omega) (by decide) rfl ?_
          refine wp_ifeqB (pc' := 79) 100 dX9_judged_76 rfl rfl (fun h76 => ?_) (fun h76 => ?_)
          · skip
            refine wp_iconst (pc' := 101) (0) dX9_judged_100 rfl rfl ?_
            refine wp_iret dX9_judged_101 rfl rfl ?_
            simpa only [judF, hr, h9, h44, h58, h76, Bool.false_eq_true, decide_true, decide_false, Bool.not_true, Bool.not_false, Bool.and_true, Bool.true_and, Bool.and_false, Bool.false_and, Bool.or_true, Bool.true_or, Bool.or_false, Bool.false_or, if_true, if_false, ite_true, ite_false] using hP
          · skip
            refine wp_load (pc' := 81) (j := 7) dX9_judged_79 rfl rfl rfl ?_
            refine wp_iconst (pc' := 82) (1) dX9_judged_81 rfl rfl ?_
            refine wp_icmp_le (pc' := 85) 100 dX9_judged_82 rfl rfl (fun h82 => ?_) (fun h82 => ?_)
            · skip
              refine wp_iconst (pc' := 101) (0) dX9_judged_100 rfl rfl ?_
              refine wp_iret dX9_judged_101 rfl rfl ?_
              simpa only [judF, hr, h9, h44, h58, h76, h82, Bool.false_eq_true, decide_true, decide_false, Bool.not_true, Bool.not_false, Bool.and_true, Bool.true_and, Bool.and_false, Bool.false_and, Bool.or_true, Bool.true_or, Bool.or_false, Bool.false_or, if_true, if_false, ite_true, ite_false] using hP
            · skip
              refine wp_load (pc' := 86) (j := 0) dX9_judged_85 rfl rfl rfl ?_
              refine wp_load (pc' := 87) (j := 1) dX9_judged_86 rfl rfl rfl ?_
              refine wp_load (pc' := 88) (j := 2) dX9_judged_87 rfl rfl rfl ?_
              refine wp_load (pc' := 90) (j := 5) dX9_judged_88 rfl rfl rfl ?_
              refine wp_v3 0 0 dX9_judged_90 ml_X9_237 hm (Nat.le_of_ble_eq_true rfl) (by omega) (by omega) ?_
              refine s_isCovered hM hy hy200 _ _ _ ?_
              refine kt_v ?_
              refine wp_ifneB (pc' := 96) 100 dX9_judged_93 rfl rfl (fun h93 => ?_) (fun h93 => ?_)
              · skip
                refine wp_iconst (pc' := 101) (0) dX9_judged_100 rfl rfl ?_
                refine wp_iret dX9_judged_101 rfl rfl ?_
                simpa only [judF, hr, h9, h44, h58, h76, h82, h93, Bool.false_eq_true, decide_true, decide_false, Bool.not_true, Bool.not_false, Bool.and_true, Bool.true_and, Bool.and_false, Bool.false_and, Bool.or_true, Bool.true_or, Bool.or_false, Bool.false_or, if_true, if_false, ite_true, ite_false] using hP
              · skip
                refine wp_iconst (pc' := 97) (4) dX9_judged_96 rfl rfl ?_
                refine wp_goto 101 dX9_judged_97 rfl ?_
                refine wp_iret dX9_judged_101 rfl rfl ?_
                simpa only [judF, hr, h9, h44, h58, h76, h82, h93, Bool.false_eq_true, decide_true, decide_false, Bool.not_true, Bool.not_false, Bool.and_true, Bool.true_and, Bool.and_false, Bool.false_and, Bool.or_true, Bool.true_or, Bool.or_false, Bool.false_or, if_true, if_false, ite_true, ite_false] using hP
        · skip
          refine wp_iconst (pc' := 62) (3) dX9_judged_61 rfl rfl ?_
          refine wp_iret dX9_judged_62 rfl rfl ?_
          simpa only [judF, hr, h9, h44, h58, Bool.false_eq_true, decide_true, decide_false, Bool.not_true, Bool.not_false, Bool.and_true, Bool.true_and, Bool.and_false, Bool.false_and, Bool.or_true, Bool.true_or, Bool.or_false, Bool.false_or, if_true, if_false, ite_true, ite_false] using hP
  · skip
    refine wp_iconst (pc' := 13) (2) dX9_judged_12 rfl rfl ?_
    refine wp_iret dX9_judged_13 rfl rfl ?_
    simpa only [judF, h9, Bool.false_eq_true, decide_true, decide_false, Bool.not_true, Bool.not_false, Bool.and_true, Bool.true_and, Bool.and_false, Bool.false_and, Bool.or_true, Bool.true_or, Bool.or_false, Bool.false_or, if_true, if_false, ite_true, ite_false] using hP

set_option maxRecDepth 20000 in
set_option maxHeartbeats 2000000 in
theorem s_judgedNow {E : XE} {d mc ms : Nat} {G : HP} {P : Ps} {m : Nat} {aM own : Nat → Nat} {σ : MS} (hM : MH m aM own σ G) {n : Nat} (hs : σ.1 7 = nI n) (hs30 : n ≤ 30) {np : Nat} (hp : σ.1 29 = nI np) (hp40 : np ≤ 40) {ny : Nat} (hy : σ.1 35 = nI ny) (hy200 : ny ≤ 200) {i L o : Nat} (hi : i < 30) (hL : σ.2.1 23 i = nI L) (hL12 : L ≤ 60) (ho : 60 * σ.2.1 25 i + σ.2.1 26 i = nI o) (ho240 : o + L ≤ 240) (hP : P (.inl (some (.int (judNF σ i L n np ny o)))) G) : Sp E (d + 6) yX9_judgedNow mc ms [.ref m, .int (nI i)] G P := by
  obtain ⟨hm, hA, -⟩ := id hM
  refine sp_intro bd_X9_judgedNow (v1_all rfl) (Nat.le_of_ble_eq_true rfl) ?_
  change WX _ _ _ _ _ _ 0 [some (.ref m), some (.int (nI i))] [] _ 0 0
  refine wp_load (pc' := 1) (j := 0) dX9_judgedNow_0 rfl rfl rfl ?_
  refine wp_load (pc' := 2) (j := 1) dX9_judgedNow_1 rfl rfl rfl ?_
  refine wp_v1 0 0 dX9_judgedNow_2 ml_X9_240 hm (Nat.le_of_ble_eq_true rfl) (by omega) (by omega) ?_
  refine s_isBlockedAt hM hi hL hL12 ho ho240 ?_
  refine kt_v ?_
  refine wp_ifeqB (pc' := 8) 12 dX9_judgedNow_5 rfl rfl (fun h5 => ?_) (fun h5 => ?_)
  · skip
    refine wp_load (pc' := 13) (j := 0) dX9_judgedNow_12 rfl rfl rfl ?_
    refine wp_load (pc' := 14) (j := 1) dX9_judgedNow_13 rfl rfl rfl ?_
    refine wp_load (pc' := 15) (j := 0) dX9_judgedNow_14 rfl rfl rfl ?_
    refine wp_get (pc' := 18) dX9_judgedNow_15 fl_X9_62 hm rfl rfl ?_
    refine wp_load (pc' := 19) (j := 1) dX9_judgedNow_18 rfl rfl rfl ?_
    refine wp_iald (pc' := 20) dX9_judgedNow_19 (hA 25 (by decide)) rfl hi (by decide) rfl ?_
    refine wp_load (pc' := 21) (j := 0) dX9_judgedNow_20 rfl rfl rfl ?_
    refine wp_get (pc' := 24) dX9_judgedNow_21 fl_X9_65 hm rfl rfl ?_
    refine wp_load (pc' := 25) (j := 1) dX9_judgedNow_24 rfl rfl rfl ?_
    refine wp_iald (pc' := 26) dX9_judgedNow_25 (hA 26 (by decide)) rfl hi (by decide) rfl ?_
    refine wp_load (pc' := 27) (j := 0) dX9_judgedNow_26 rfl rfl rfl ?_
    refine wp_get (pc' := 30) dX9_judgedNow_27 fl_X9_68 hm rfl rfl ?_
    refine wp_load (pc' := 31) (j := 1) dX9_judgedNow_30 rfl rfl rfl ?_
    refine wp_iald (pc' := 32) dX9_judgedNow_31 (hA 27 (by decide)) rfl hi (by decide) rfl ?_
    refine wp_load (pc' := 33) (j := 0) dX9_judgedNow_32 rfl rfl rfl ?_
    refine wp_get (pc' := 36) dX9_judgedNow_33 fl_X9_189 hm rfl rfl ?_
    refine wp_v5 0 0 dX9_judgedNow_36 ml_X9_243 hm (Nat.le_of_ble_eq_true rfl) (by omega) (by omega) ?_
    refine s_judged hM hs hs30 hp hp40 hy hy200 hi hL hL12 _ _ _ _ ?_
    refine kt_v ?_
    refine wp_iret dX9_judgedNow_39 rfl rfl ?_
    simpa only [judNF, h5, Bool.false_eq_true, decide_true, decide_false, Bool.not_true, Bool.not_false, Bool.and_true, Bool.true_and, Bool.and_false, Bool.false_and, Bool.or_true, Bool.true_or, Bool.or_false, Bool.false_or, if_true, if_false, ite_true, ite_false] using hP
  · skip
    refine wp_iconst (pc' := 9) (1) dX9_judgedNow_8 rfl rfl ?_
    refine wp_goto 39 dX9_judgedNow_9 rfl ?_
    refine wp_iret dX9_judgedNow_39 rfl rfl ?_
    simpa only [judNF, h5, Bool.false_eq_true, decide_true, decide_false, Bool.not_true, Bool.not_false, Bool.and_true, Bool.true_and, Bool.and_false, Bool.false_and, Bool.or_true, Bool.true_or, Bool.or_false, Bool.false_or, if_true, if_false, ite_true, ite_false] using hP

set_option maxRecDepth 20000 in
set_option maxHeartbeats 2000000 in
theorem l_hasFine {E : XE} {d mc ms : Nat} {G : HP} {P : Ps} {m : Nat} {aM own : Nat → Nat} {σ : MS} (hM : MH m aM own σ G) {nf : Nat} (hf : σ.1 40 = nI nf) (hf60 : nf ≤ 60) {i : Nat} (hi : i < 30) (hP : P (.inl (some (.int (b2i (hfF σ i nf))))) G) : ∀ j k, k + j = nf → WX E d (yX9_hasFine, cX9_hasFine, (some .boolean), []) mc ms P 4 [some (.ref m), some (.int (nI i)), some (.int (b2i (hfF σ i k))), some (.int (nI k))] [] G 0 0
  | 0, k, hk => by
    obtain ⟨hm, hA, -⟩ := id hM
    refine wp_load (pc' := 5) (j := 3) dX9_hasFine_4 rfl rfl rfl ?_
    refine wp_load (pc' := 6) (j := 0) dX9_hasFine_5 rfl rfl rfl ?_
    refine wp_get (pc' := 9) dX9_hasFine_6 fl_X9_251 hm rfl rfl ?_
    refine wp_icmpT 72 dX9_hasFine_9 rfl (cgeT hf (by omega) (by omega)) ?_
    refine wp_load (pc' := 73) (j := 2) dX9_hasFine_72 rfl rfl rfl ?_
    refine wp_iret dX9_hasFine_73 rfl nar_b2i ?_
    obtain rfl : k = nf := by omega
    exact hP
  | j + 1, k, hk => by
    have ih := l_hasFine (E := E) (d := d) (mc := mc) (ms := ms) hM hf hf60 hi hP j (k + 1) (by omega)
    obtain ⟨hm, hA, -⟩ := id hM
    refine wp_load (pc' := 5) (j := 3) dX9_hasFine_4 rfl rfl rfl ?_
    refine wp_load (pc' := 6) (j := 0) dX9_hasFine_5 rfl rfl rfl ?_
    refine wp_get (pc' := 9) dX9_hasFine_6 fl_X9_251 hm rfl rfl ?_
    refine wp_icmpF (pc' := 12) 72 dX9_hasFine_9 rfl rfl (cgeF hf (by omega) (by omega)) ?_
    refine wp_load (pc' := 13) (j := 2) dX9_hasFine_12 rfl rfl rfl ?_
    refine wp_ifneB (pc' := 16) 60 dX9_hasFine_13 rfl rfl (fun h13 => ?_) (fun h13 => ?_)
    · skip
      refine wp_iconst (pc' := 61) (1) dX9_hasFine_60 rfl rfl ?_
      refine wp_goto 65 dX9_hasFine_61 rfl ?_
      refine wp_store (pc' := 66) (j := 2) (ls' := [_, _, _, _]) dX9_hasFine_65 rfl (Nat.le_of_ble_eq_true rfl) rfl rfl ?_
      refine wp_iinc (pc' := 69) (j := 3) (ls' := [_, _, _, _]) (nI (k + 1)) dX9_hasFine_66 rfl (nI_1 k) rfl rfl ?_
      refine wp_goto 4 dX9_hasFine_69 rfl ?_
      simpa only [hfF, b2i_t, b2i_f, h13, Bool.false_eq_true, decide_true, decide_false, Bool.not_true, Bool.not_false, Bool.and_true, Bool.true_and, Bool.and_false, Bool.false_and, Bool.or_true, Bool.true_or, Bool.or_false, Bool.false_or, if_true, if_false, ite_true, ite_false] using ih
    · skip
      refine wp_load (pc' := 17) (j := 0) dX9_hasFine_16 rfl rfl rfl ?_
      refine wp_get (pc' := 20) dX9_hasFine_17 fl_X9_101 hm rfl rfl ?_
      refine wp_load (pc' := 21) (j := 3) dX9_hasFine_20 rfl rfl rfl ?_
      refine wp_iald (pc' := 22) dX9_hasFine_21 (hA 41 (by decide)) rfl (show k < 60 from by omega) (by decide) rfl ?_
      refine wp_load (pc' := 23) (j := 1) dX9_hasFine_22 rfl rfl rfl ?_
      refine wp_icmp_ne (pc' := 26) 64 dX9_hasFine_23 rfl rfl (fun h23 => ?_) (fun h23 => ?_)
      · skip
        refine wp_iconst (pc' := 65) (0) dX9_hasFine_64 rfl rfl ?_
        refine wp_store (pc' := 66) (j := 2) (ls' := [_, _, _, _]) dX9_hasFine_65 rfl (Nat.le_of_ble_eq_true rfl) rfl rfl ?_
        refine wp_iinc (pc' := 69) (j := 3) (ls' := [_, _, _, _]) (nI (k + 1)) dX9_hasFine_66 rfl (nI_1 k) rfl rfl ?_
        refine wp_goto 4 dX9_hasFine_69 rfl ?_
        simpa only [hfF, b2i_t, b2i_f, h13, h23, Bool.false_eq_true, decide_true, decide_false, Bool.not_true, Bool.not_false, Bool.and_true, Bool.true_and, Bool.and_false, Bool.false_and, Bool.or_true, Bool.true_or, Bool.or_false, Bool.false_or, if_true, if_false, ite_true, ite_false] using ih
      · skip
        refine wp_load (pc' := 27) (j := 0) dX9_hasFine_26 rfl rfl rfl ?_
        refine wp_get (pc' := 30) dX9_hasFine_27 fl_X9_113 hm rfl rfl ?_
        refine wp_load (pc' := 31) (j := 3) dX9_hasFine_30 rfl rfl rfl ?_
        refine wp_iald (pc' := 32) dX9_hasFine_31 (hA 45 (by decide)) rfl (show k < 60 from by omega) (by decide) rfl ?_
        refine wp_load (pc' := 33) (j := 0) dX9_hasFine_32 rfl rfl rfl ?_
        refine wp_get (pc' := 36) dX9_hasFine_33 fl_X9_71 hm rfl rfl ?_
        refine wp_load (pc' := 37) (j := 1) dX9_hasFine_36 rfl rfl rfl ?_
        refine wp_iald (pc' := 38) dX9_hasFine_37 (hA 28 (by decide)) rfl hi (by decide) rfl ?_
        refine wp_icmp_ne (pc' := 41) 64 dX9_hasFine_38 rfl rfl (fun h38 => ?_) (fun h38 => ?_)
        · skip
          refine wp_iconst (pc' := 65) (0) dX9_hasFine_64 rfl rfl ?_
          refine wp_store (pc' := 66) (j := 2) (ls' := [_, _, _, _]) dX9_hasFine_65 rfl (Nat.le_of_ble_eq_true rfl) rfl rfl ?_
          refine wp_iinc (pc' := 69) (j := 3) (ls' := [_, _, _, _]) (nI (k + 1)) dX9_hasFine_66 rfl (nI_1 k) rfl rfl ?_
          refine wp_goto 4 dX9_hasFine_69 rfl ?_
          simpa only [hfF, b2i_t, b2i_f, h13, h23, h38, Bool.false_eq_true, decide_true, decide_false, Bool.not_true, Bool.not_false, Bool.and_true, Bool.true_and, Bool.and_false, Bool.false_and, Bool.or_true, Bool.true_or, Bool.or_false, Bool.false_or, if_true, if_false, ite_true, ite_false] using ih
        · skip
          refine wp_load (pc' := 42) (j := 0) dX9_hasFine_41 rfl rfl rfl ?_
          refine wp_get (pc' := 45) dX9_hasFine_42 fl_X9_116 hm rfl rfl ?_
          refine wp_load (pc' := 46) (j := 3) dX9_hasFine_45 rfl rfl rfl ?_
          refine wp_iald (pc' := 47) dX9_hasFine_46 (hA 46 (by decide)) rfl (show k < 60 from by omega) (by decide) rfl ?_
          refine wp_bipush (pc' := 49) (96) dX9_hasFine_47 rfl rfl ?_
          refine wp_div (pc' := 50) dX9_hasFine_49 (by decide) rfl ?_
          refine wp_load (pc' := 51) (j := 0) dX9_hasFine_50 rfl rfl rfl ?_
          refine wp_get (pc' := 54) dX9_hasFine_51 fl_X9_189 hm rfl rfl ?_
          refine wp_bipush (pc' := 56) (96) dX9_hasFine_54 rfl rfl ?_
          refine wp_div (pc' := 57) dX9_hasFine_56 (by decide) rfl ?_
          refine wp_icmp_ne (pc' := 60) 64 dX9_hasFine_57 rfl rfl (fun h57 => ?_) (fun h57 => ?_)
          · skip
            refine wp_iconst (pc' := 65) (0) dX9_hasFine_64 rfl rfl ?_
            refine wp_store (pc' := 66) (j := 2) (ls' := [_, _, _, _]) dX9_hasFine_65 rfl (Nat.le_of_ble_eq_true rfl) rfl rfl ?_
            refine wp_iinc (pc' := 69) (j := 3) (ls' := [_, _, _, _]) (nI (k + 1)) dX9_hasFine_66 rfl (nI_1 k) rfl rfl ?_
            refine wp_goto 4 dX9_hasFine_69 rfl ?_
            simpa only [hfF, b2i_t, b2i_f, h13, h23, h38, h57, Bool.false_eq_true, decide_true, decide_false, Bool.not_true, Bool.not_false, Bool.and_true, Bool.true_and, Bool.and_false, Bool.false_and, Bool.or_true, Bool.true_or, Bool.or_false, Bool.false_or, if_true, if_false, ite_true, ite_false] using ih
          · skip
            refine wp_iconst (pc' := 61) (1) dX9_hasFine_60 rfl rfl ?_
            refine wp_goto 65 dX9_hasFine_61 rfl ?_
            refine wp_store (pc' := 66) (j := 2) (ls' := [_, _, _, _]) dX9_hasFine_65 rfl (Nat.le_of_ble_eq_true rfl) rfl rfl ?_
            refine wp_iinc (pc' := 69) (j := 3) (ls' := [_, _, _, _]) (nI (k + 1)) dX9_hasFine_66 rfl (nI_1 k) rfl rfl ?_
            refine wp_goto 4 dX9_hasFine_69 rfl ?_
            simpa only [hfF, b2i_t, b2i_f, h13, h23, h38, h57, Bool.false_eq_true, decide_true, decide_false, Bool.not_true, Bool.not_false, Bool.and_true, Bool.true_and, Bool.and_false, Bool.false_and, Bool.or_true, Bool.true_or, Bool.or_false, Bool.false_or, if_true, if_false, ite_true, ite_false] using ih

set_option maxRecDepth 20000 in
set_option maxHeartbeats 2000000 in
theorem s_hasFine {E : XE} {d mc ms : Nat} {G : HP} {P : Ps} {m : Nat} {aM own : Nat → Nat} {σ : MS} (hM : MH m aM own σ G) {nf : Nat} (hf : σ.1 40 = nI nf) (hf60 : nf ≤ 60) {i : Nat} (hi : i < 30) (hP : P (.inl (some (.int (b2i (hfF σ i nf))))) G) : Sp E (d + 1) yX9_hasFine mc ms [.ref m, .int (nI i)] G P := by
  obtain ⟨hm, hA, -⟩ := id hM
  refine sp_intro bd_X9_hasFine (v1_all rfl) (Nat.le_of_ble_eq_true rfl) ?_
  change WX _ _ _ _ _ _ 0 [some (.ref m), some (.int (nI i)), none, none] [] _ 0 0
  refine wp_iconst (pc' := 1) (0) dX9_hasFine_0 rfl rfl ?_
  refine wp_store (pc' := 2) (j := 2) (ls' := [_, _, _, _]) dX9_hasFine_1 rfl (Nat.le_of_ble_eq_true rfl) rfl rfl ?_
  refine wp_iconst (pc' := 3) (0) dX9_hasFine_2 rfl rfl ?_
  refine wp_store (pc' := 4) (j := 3) (ls' := [_, _, _, _]) dX9_hasFine_3 rfl (Nat.le_of_ble_eq_true rfl) rfl rfl ?_
  exact l_hasFine hM hf hf60 hi hP nf 0 (by omega)

set_option maxRecDepth 20000 in
set_option maxHeartbeats 2000000 in
theorem s_amount {E : XE} {d mc ms : Nat} {G : HP} {P : Ps} {m : Nat} {aM own : Nat → Nat} {σ : MS} (hM : MH m aM own σ G) {k : Nat} (hk : k < 60) (hP : P (.inl (some (.int (amoF σ k)))) G) : Sp E (d + 1) yX9_amount mc ms [.ref m, .int (nI k)] G P := by
  obtain ⟨hm, hA, -⟩ := id hM
  refine sp_intro bd_X9_amount (v1_all rfl) (Nat.le_of_ble_eq_true rfl) ?_
  change WX _ _ _ _ _ _ 0 [some (.ref m), some (.int (nI k))] [] _ 0 0
  refine wp_load (pc' := 1) (j := 0) dX9_amount_0 rfl rfl rfl ?_
  refine wp_get (pc' := 4) dX9_amount_1 fl_X9_119 hm rfl rfl ?_
  refine wp_load (pc' := 5) (j := 1) dX9_amount_4 rfl rfl rfl ?_
  refine wp_iald (pc' := 6) dX9_amount_5 (hA 47 (by decide)) rfl hk (by decide) rfl ?_
  refine wp_iconst (pc' := 7) (1) dX9_amount_6 rfl rfl ?_
  refine wp_icmp_ne (pc' := 10) 15 dX9_amount_7 rfl rfl (fun h7 => ?_) (fun h7 => ?_)
  · skip
    refine wp_load (pc' := 16) (j := 0) dX9_amount_15 rfl rfl rfl ?_
    refine wp_get (pc' := 19) dX9_amount_16 fl_X9_119 hm rfl rfl ?_
    refine wp_load (pc' := 20) (j := 1) dX9_amount_19 rfl rfl rfl ?_
    refine wp_iald (pc' := 21) dX9_amount_20 (hA 47 (by decide)) rfl hk (by decide) rfl ?_
    refine wp_iconst (pc' := 22) (2) dX9_amount_21 rfl rfl ?_
    refine wp_icmp_ne (pc' := 25) 30 dX9_amount_22 rfl rfl (fun h22 => ?_) (fun h22 => ?_)
    · skip
      refine wp_load (pc' := 31) (j := 0) dX9_amount_30 rfl rfl rfl ?_
      refine wp_get (pc' := 34) dX9_amount_31 fl_X9_119 hm rfl rfl ?_
      refine wp_load (pc' := 35) (j := 1) dX9_amount_34 rfl rfl rfl ?_
      refine wp_iald (pc' := 36) dX9_amount_35 (hA 47 (by decide)) rfl hk (by decide) rfl ?_
      refine wp_iconst (pc' := 37) (3) dX9_amount_36 rfl rfl ?_
      refine wp_icmp_ne (pc' := 40) 45 dX9_amount_37 rfl rfl (fun h37 => ?_) (fun h37 => ?_)
      · skip
        refine wp_bipush (pc' := 47) (40) dX9_amount_45 rfl rfl ?_
        refine wp_iret dX9_amount_47 rfl rfl ?_
        simp only [amoF, h7, h22, h37, Bool.false_eq_true, decide_true, decide_false, Bool.not_true, Bool.not_false, Bool.and_true, Bool.true_and, Bool.and_false, Bool.false_and, Bool.or_true, Bool.true_or, Bool.or_false, Bool.false_or, if_true, if_false, ite_true, ite_false] at hP
        exact hP
      · skip
        refine wp_bipush (pc' := 42) (30) dX9_amount_40 rfl rfl ?_
        refine wp_goto 47 dX9_amount_42 rfl ?_
        refine wp_iret dX9_amount_47 rfl rfl ?_
        simp only [amoF, h7, h22, h37, Bool.false_eq_true, decide_true, decide_false, Bool.not_true, Bool.not_false, Bool.and_true, Bool.true_and, Bool.and_false, Bool.false_and, Bool.or_true, Bool.true_or, Bool.or_false, Bool.false_or, if_true, if_false, ite_true, ite_false] at hP
        exact hP
    · skip
      refine wp_bipush (pc' := 27) (60) dX9_amount_25 rfl rfl ?_
      refine wp_goto 47 dX9_amount_27 rfl ?_
      refine wp_iret dX9_amount_47 rfl rfl ?_
      simp only [amoF, h7, h22, Bool.false_eq_true, decide_true, decide_false, Bool.not_true, Bool.not_false, Bool.and_true, Bool.true_and, Bool.and_false, Bool.false_and, Bool.or_true, Bool.true_or, Bool.or_false, Bool.false_or, if_true, if_false, ite_true, ite_false] at hP
      exact hP
  · skip
    refine wp_bipush (pc' := 12) (100) dX9_amount_10 rfl rfl ?_
    refine wp_goto 47 dX9_amount_12 rfl ?_
    refine wp_iret dX9_amount_47 rfl rfl ?_
    simp only [amoF, h7, Bool.false_eq_true, decide_true, decide_false, Bool.not_true, Bool.not_false, Bool.and_true, Bool.true_and, Bool.and_false, Bool.false_and, Bool.or_true, Bool.true_or, Bool.or_false, Bool.false_or, if_true, if_false, ite_true, ite_false] at hP
    exact hP

set_option maxRecDepth 20000 in
set_option maxHeartbeats 2000000 in
theorem l_debtOf {E : XE} {d0 d mc ms : Nat} {G : HP} {P : Ps} (hd : d = d0 + 1) {m : Nat} {aM own : Nat → Nat} {σ : MS} (hM : MH m aM own σ G) {nf : Nat} (hf : σ.1 40 = nI nf) (hf60 : nf ≤ 60) {i : Nat} (hP : P (.inl (some (.int (debtF σ i nf)))) G) : ∀ j k, k + j = nf → WX E d (yX9_debtOf, cX9_debtOf, (some .int), []) mc ms P 4 [some (.ref m), some (.int (nI i)), some (.int (debtF σ i k)), some (.int (nI k))] [] G 0 0
  | 0, k, hk => by
    subst hd
    obtain ⟨hm, hA, -⟩ := id hM
    refine wp_load (pc' := 5) (j := 3) dX9_debtOf_4 rfl rfl rfl ?_
    refine wp_load (pc' := 6) (j := 0) dX9_debtOf_5 rfl rfl rfl ?_
    refine wp_get (pc' := 9) dX9_debtOf_6 fl_X9_251 hm rfl rfl ?_
    refine wp_icmpT 58 dX9_debtOf_9 rfl (cgeT hf (by omega) (by omega)) ?_
    refine wp_load (pc' := 59) (j := 2) dX9_debtOf_58 rfl rfl rfl ?_
    refine wp_iret dX9_debtOf_59 rfl rfl ?_
    obtain rfl : k = nf := by omega
    exact hP
  | j + 1, k, hk => by
    have ih := l_debtOf (E := E) (d := d) (mc := mc) (ms := ms) hd hM hf hf60 hP j (k + 1) (by omega)
    subst hd
    obtain ⟨hm, hA, -⟩ := id hM
    refine wp_load (pc' := 5) (j := 3) dX9_debtOf_4 rfl rfl rfl ?_
    refine wp_load (pc' := 6) (j := 0) dX9_debtOf_5 rfl rfl rfl ?_
    refine wp_get (pc' := 9) dX9_debtOf_6 fl_X9_251 hm rfl rfl ?_
    refine wp_icmpF (pc' := 12) 58 dX9_debtOf_9 rfl rfl (cgeF hf (by omega) (by omega)) ?_
    refine wp_load (pc' := 13) (j := 2) dX9_debtOf_12 rfl rfl rfl ?_
    refine wp_load (pc' := 14) (j := 0) dX9_debtOf_13 rfl rfl rfl ?_
    refine wp_get (pc' := 17) dX9_debtOf_14 fl_X9_101 hm rfl rfl ?_
    refine wp_load (pc' := 18) (j := 3) dX9_debtOf_17 rfl rfl rfl ?_
    refine wp_iald (pc' := 19) dX9_debtOf_18 (hA 41 (by decide)) rfl (show k < 60 from by omega) (by decide) rfl ?_
    refine wp_load (pc' := 20) (j := 1) dX9_debtOf_19 rfl rfl rfl ?_
    refine wp_icmp_ne (pc' := 23) 49 dX9_debtOf_20 rfl rfl (fun h20 => ?_) (fun h20 => ?_)
    · skip
      refine wp_iconst (pc' := 50) (0) dX9_debtOf_49 rfl rfl ?_
      refine wp_pure (pc' := 51) dX9_debtOf_50 rfl rfl ?_
      refine wp_store (pc' := 52) (j := 2) (ls' := [_, _, _, _]) dX9_debtOf_51 rfl (Nat.le_of_ble_eq_true rfl) rfl rfl ?_
      refine wp_iinc (pc' := 55) (j := 3) (ls' := [_, _, _, _]) (nI (k + 1)) dX9_debtOf_52 rfl (nI_1 k) rfl rfl ?_
      refine wp_goto 4 dX9_debtOf_55 rfl ?_
      simpa only [debtF, b2i_t, b2i_f, h20, Bool.false_eq_true, decide_true, decide_false, Bool.not_true, Bool.not_false, Bool.and_true, Bool.true_and, Bool.and_false, Bool.false_and, Bool.or_true, Bool.true_or, Bool.or_false, Bool.false_or, if_true, if_false, ite_true, ite_false] using ih
    · skip
      refine wp_load (pc' := 24) (j := 0) dX9_debtOf_23 rfl rfl rfl ?_
      refine wp_get (pc' := 27) dX9_debtOf_24 fl_X9_131 hm rfl rfl ?_
      refine wp_load (pc' := 28) (j := 3) dX9_debtOf_27 rfl rfl rfl ?_
      refine wp_zald (pc' := 29) dX9_debtOf_28 (hA 51 (by decide)) rfl (show k < 60 from by omega) (by decide) rfl ?_
      refine wp_ifneB (pc' := 32) 49 dX9_debtOf_29 rfl rfl (fun h29 => ?_) (fun h29 => ?_)
      · skip
        refine wp_iconst (pc' := 50) (0) dX9_debtOf_49 rfl rfl ?_
        refine wp_pure (pc' := 51) dX9_debtOf_50 rfl rfl ?_
        refine wp_store (pc' := 52) (j := 2) (ls' := [_, _, _, _]) dX9_debtOf_51 rfl (Nat.le_of_ble_eq_true rfl) rfl rfl ?_
        refine wp_iinc (pc' := 55) (j := 3) (ls' := [_, _, _, _]) (nI (k + 1)) dX9_debtOf_52 rfl (nI_1 k) rfl rfl ?_
        refine wp_goto 4 dX9_debtOf_55 rfl ?_
        simpa only [debtF, b2i_t, b2i_f, h20, h29, Bool.false_eq_true, decide_true, decide_false, Bool.not_true, Bool.not_false, Bool.and_true, Bool.true_and, Bool.and_false, Bool.false_and, Bool.or_true, Bool.true_or, Bool.or_false, Bool.false_or, if_true, if_false, ite_true, ite_false] using ih
      · skip
        refine wp_load (pc' := 33) (j := 0) dX9_debtOf_32 rfl rfl rfl ?_
        refine wp_get (pc' := 36) dX9_debtOf_33 fl_X9_128 hm rfl rfl ?_
        refine wp_load (pc' := 37) (j := 3) dX9_debtOf_36 rfl rfl rfl ?_
        refine wp_zald (pc' := 38) dX9_debtOf_37 (hA 50 (by decide)) rfl (show k < 60 from by omega) (by decide) rfl ?_
        refine wp_ifneB (pc' := 41) 49 dX9_debtOf_38 rfl rfl (fun h38 => ?_) (fun h38 => ?_)
        · skip
          refine wp_iconst (pc' := 50) (0) dX9_debtOf_49 rfl rfl ?_
          refine wp_pure (pc' := 51) dX9_debtOf_50 rfl rfl ?_
          refine wp_store (pc' := 52) (j := 2) (ls' := [_, _, _, _]) dX9_debtOf_51 rfl (Nat.le_of_ble_eq_true rfl) rfl rfl ?_
          refine wp_iinc (pc' := 55) (j := 3) (ls' := [_, _, _, _]) (nI (k + 1)) dX9_debtOf_52 rfl (nI_1 k) rfl rfl ?_
          refine wp_goto 4 dX9_debtOf_55 rfl ?_
          simpa only [debtF, b2i_t, b2i_f, h20, h29, h38, Bool.false_eq_true, decide_true, decide_false, Bool.not_true, Bool.not_false, Bool.and_true, Bool.true_and, Bool.and_false, Bool.false_and, Bool.or_true, Bool.true_or, Bool.or_false, Bool.false_or, if_true, if_false, ite_true, ite_false] using ih
        · skip
          refine wp_load (pc' := 42) (j := 0) dX9_debtOf_41 rfl rfl rfl ?_
          refine wp_load (pc' := 43) (j := 3) dX9_debtOf_42 rfl rfl rfl ?_
          refine wp_v1 0 0 dX9_debtOf_43 ml_X9_264 hm (Nat.le_of_ble_eq_true rfl) (by omega) (by omega) ?_
          refine s_amount hM (by omega) ?_
          refine kt_v ?_
          refine wp_goto 50 dX9_debtOf_46 rfl ?_
          refine wp_pure (pc' := 51) dX9_debtOf_50 rfl rfl ?_
          refine wp_store (pc' := 52) (j := 2) (ls' := [_, _, _, _]) dX9_debtOf_51 rfl (Nat.le_of_ble_eq_true rfl) rfl rfl ?_
          refine wp_iinc (pc' := 55) (j := 3) (ls' := [_, _, _, _]) (nI (k + 1)) dX9_debtOf_52 rfl (nI_1 k) rfl rfl ?_
          refine wp_goto 4 dX9_debtOf_55 rfl ?_
          simpa only [debtF, b2i_t, b2i_f, h20, h29, h38, Bool.false_eq_true, decide_true, decide_false, Bool.not_true, Bool.not_false, Bool.and_true, Bool.true_and, Bool.and_false, Bool.false_and, Bool.or_true, Bool.true_or, Bool.or_false, Bool.false_or, if_true, if_false, ite_true, ite_false] using ih

set_option maxRecDepth 20000 in
set_option maxHeartbeats 2000000 in
theorem s_debtOf {E : XE} {d mc ms : Nat} {G : HP} {P : Ps} {m : Nat} {aM own : Nat → Nat} {σ : MS} (hM : MH m aM own σ G) {nf : Nat} (hf : σ.1 40 = nI nf) (hf60 : nf ≤ 60) (i : Nat) (hP : P (.inl (some (.int (debtF σ i nf)))) G) : Sp E (d + 2) yX9_debtOf mc ms [.ref m, .int (nI i)] G P := by
  obtain ⟨hm, hA, -⟩ := id hM
  refine sp_intro bd_X9_debtOf (v1_all rfl) (Nat.le_of_ble_eq_true rfl) ?_
  change WX _ _ _ _ _ _ 0 [some (.ref m), some (.int (nI i)), none, none] [] _ 0 0
  refine wp_iconst (pc' := 1) (0) dX9_debtOf_0 rfl rfl ?_
  refine wp_store (pc' := 2) (j := 2) (ls' := [_, _, _, _]) dX9_debtOf_1 rfl (Nat.le_of_ble_eq_true rfl) rfl rfl ?_
  refine wp_iconst (pc' := 3) (0) dX9_debtOf_2 rfl rfl ?_
  refine wp_store (pc' := 4) (j := 3) (ls' := [_, _, _, _]) dX9_debtOf_3 rfl (Nat.le_of_ble_eq_true rfl) rfl rfl ?_
  exact l_debtOf rfl hM hf hf60 hP nf 0 (by omega)

set_option maxRecDepth 20000 in
set_option maxHeartbeats 2000000 in
theorem l_takenIn {E : XE} {d mc ms : Nat} {G : HP} {P : Ps} {m : Nat} {aM own : Nat → Nat} {σ : MS} (hM : MH m aM own σ G) {nc : Nat} (hc : σ.1 22 = nI nc) (hc30 : nc ≤ 30) {s : Int32} (hP : P (.inl (some (.int (takenF σ s nc)))) G) : ∀ j k, k + j = nc → WX E d (yX9_takenIn, cX9_takenIn, (some .int), []) mc ms P 4 [some (.ref m), some (.int s), some (.int (takenF σ s k)), some (.int (nI k))] [] G 0 0
  | 0, k, hk => by
    obtain ⟨hm, hA, -⟩ := id hM
    refine wp_load (pc' := 5) (j := 3) dX9_takenIn_4 rfl rfl rfl ?_
    refine wp_load (pc' := 6) (j := 0) dX9_takenIn_5 rfl rfl rfl ?_
    refine wp_get (pc' := 9) dX9_takenIn_6 fl_X9_157 hm rfl rfl ?_
    refine wp_icmpT 41 dX9_takenIn_9 rfl (cgeT hc (by omega) (by omega)) ?_
    refine wp_load (pc' := 42) (j := 2) dX9_takenIn_41 rfl rfl rfl ?_
    refine wp_iret dX9_takenIn_42 rfl rfl ?_
    obtain rfl : k = nc := by omega
    exact hP
  | j + 1, k, hk => by
    have ih := l_takenIn (E := E) (d := d) (mc := mc) (ms := ms) hM hc hc30 hP j (k + 1) (by omega)
    obtain ⟨hm, hA, -⟩ := id hM
    refine wp_load (pc' := 5) (j := 3) dX9_takenIn_4 rfl rfl rfl ?_
    refine wp_load (pc' := 6) (j := 0) dX9_takenIn_5 rfl rfl rfl ?_
    refine wp_get (pc' := 9) dX9_takenIn_6 fl_X9_157 hm rfl rfl ?_
    refine wp_icmpF (pc' := 12) 41 dX9_takenIn_9 rfl rfl (cgeF hc (by omega) (by omega)) ?_
    refine wp_load (pc' := 13) (j := 2) dX9_takenIn_12 rfl rfl rfl ?_
    refine wp_load (pc' := 14) (j := 0) dX9_takenIn_13 rfl rfl rfl ?_
    refine wp_get (pc' := 17) dX9_takenIn_14 fl_X9_62 hm rfl rfl ?_
    refine wp_load (pc' := 18) (j := 3) dX9_takenIn_17 rfl rfl rfl ?_
    refine wp_iald (pc' := 19) dX9_takenIn_18 (hA 25 (by decide)) rfl (show k < 30 from by omega) (by decide) rfl ?_
    refine wp_load (pc' := 20) (j := 1) dX9_takenIn_19 rfl rfl rfl ?_
    refine wp_icmp_ne (pc' := 23) 32 dX9_takenIn_20 rfl rfl (fun h20 => ?_) (fun h20 => ?_)
    · skip
      refine wp_iconst (pc' := 33) (0) dX9_takenIn_32 rfl rfl ?_
      refine wp_pure (pc' := 34) dX9_takenIn_33 rfl rfl ?_
      refine wp_store (pc' := 35) (j := 2) (ls' := [_, _, _, _]) dX9_takenIn_34 rfl (Nat.le_of_ble_eq_true rfl) rfl rfl ?_
      refine wp_iinc (pc' := 38) (j := 3) (ls' := [_, _, _, _]) (nI (k + 1)) dX9_takenIn_35 rfl (nI_1 k) rfl rfl ?_
      refine wp_goto 4 dX9_takenIn_38 rfl ?_
      simpa only [takenF, b2i_t, b2i_f, h20, Bool.false_eq_true, decide_true, decide_false, Bool.not_true, Bool.not_false, Bool.and_true, Bool.true_and, Bool.and_false, Bool.false_and, Bool.or_true, Bool.true_or, Bool.or_false, Bool.false_or, if_true, if_false, ite_true, ite_false] using ih
    · skip
      refine wp_load (pc' := 24) (j := 0) dX9_takenIn_23 rfl rfl rfl ?_
      refine wp_get (pc' := 27) dX9_takenIn_24 fl_X9_56 hm rfl rfl ?_
      refine wp_load (pc' := 28) (j := 3) dX9_takenIn_27 rfl rfl rfl ?_
      refine wp_iald (pc' := 29) dX9_takenIn_28 (hA 23 (by decide)) rfl (show k < 30 from by omega) (by decide) rfl ?_
      refine wp_goto 33 dX9_takenIn_29 rfl ?_
      refine wp_pure (pc' := 34) dX9_takenIn_33 rfl rfl ?_
      refine wp_store (pc' := 35) (j := 2) (ls' := [_, _, _, _]) dX9_takenIn_34 rfl (Nat.le_of_ble_eq_true rfl) rfl rfl ?_
      refine wp_iinc (pc' := 38) (j := 3) (ls' := [_, _, _, _]) (nI (k + 1)) dX9_takenIn_35 rfl (nI_1 k) rfl rfl ?_
      refine wp_goto 4 dX9_takenIn_38 rfl ?_
      simpa only [takenF, b2i_t, b2i_f, h20, Bool.false_eq_true, decide_true, decide_false, Bool.not_true, Bool.not_false, Bool.and_true, Bool.true_and, Bool.and_false, Bool.false_and, Bool.or_true, Bool.true_or, Bool.or_false, Bool.false_or, if_true, if_false, ite_true, ite_false] using ih

set_option maxRecDepth 20000 in
set_option maxHeartbeats 2000000 in
theorem s_takenIn {E : XE} {d mc ms : Nat} {G : HP} {P : Ps} {m : Nat} {aM own : Nat → Nat} {σ : MS} (hM : MH m aM own σ G) {nc : Nat} (hc : σ.1 22 = nI nc) (hc30 : nc ≤ 30) (s : Int32) (hP : P (.inl (some (.int (takenF σ s nc)))) G) : Sp E (d + 1) yX9_takenIn mc ms [.ref m, .int s] G P := by
  obtain ⟨hm, hA, -⟩ := id hM
  refine sp_intro bd_X9_takenIn (v1_all rfl) (Nat.le_of_ble_eq_true rfl) ?_
  change WX _ _ _ _ _ _ 0 [some (.ref m), some (.int s), none, none] [] _ 0 0
  refine wp_iconst (pc' := 1) (0) dX9_takenIn_0 rfl rfl ?_
  refine wp_store (pc' := 2) (j := 2) (ls' := [_, _, _, _]) dX9_takenIn_1 rfl (Nat.le_of_ble_eq_true rfl) rfl rfl ?_
  refine wp_iconst (pc' := 3) (0) dX9_takenIn_2 rfl rfl ?_
  refine wp_store (pc' := 4) (j := 3) (ls' := [_, _, _, _]) dX9_takenIn_3 rfl (Nat.le_of_ble_eq_true rfl) rfl rfl ?_
  exact l_takenIn hM hc hc30 hP nc 0 (by omega)

